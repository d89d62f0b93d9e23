/-! DeltaFerryModel.step; printed by wip/tools/m_mo19.py -/
theorem c_Mo_step0 (E : EV) (f : Nat → va_E) (F : Nat → Value) (bl : Int) (b : Int → Int) (sz : Int → Int) (gF : Int → Int) (st : Nat → Int64) (W : Nat → Int64) (A : Nat → Int64) (L : Nat → Int64) (hMo : f 61 = mob F) (hmk : moK E F) (hF46 : F 46 = .int (zI 0)) (hF47 : F 47 = .int (zI bl)) (hc63 : f 63 = iz E 1600 b) (hc64 : f 64 = iz E 4 sz) (hc62 : f 62 = la E 32 kkF) (hc65 : f 65 = la E 4 st) (hc66 : f 66 = la E 75 W) (hc67 : f 67 = la E 75 A) (hc68 : f 68 = la E 75 L) (hsz : ∀ k, 0 ≤ k → k ≤ 3 → 0 ≤ sz k ∧ sz k ≤ (if k = 2 then 700 else 300)) (hbl : 4 ≤ bl ∧ bl ≤ 64) (hG : isB gF) (hag : ∀ i, 0 ≤ i → i < sz 0 → b i = gF i) : CF yn_Mo_step cd_Mo_step 3 (some (.int)) 10 E [.ref (eA E 61)] f (fun r f' => r = some (.int (zI (sz 0 / bl))) ∧ ∃ (F' : Nat → Value) (st' : Nat → Int64) (W' : Nat → Int64) (A' : Nat → Int64) (L' : Nat → Int64), f' 61 = mob F' ∧ F' 6 = .int (zI bl) ∧ F' 7 = .int (zI (sz 0 / bl)) ∧ F' 46 = .int (zI 1) ∧ FrF [4, 5, 6, 7, 46] F F' ∧ f' 65 = la E 4 st' ∧ f' 66 = la E 75 W' ∧ f' 67 = la E 75 A' ∧ f' 68 = la E 75 L' ∧ (sgOf gF bl (sz 0 / bl) W' A' L') ∧ Fr [65, 66, 67, 68, 61] f f') := by
  refine CF.of (by decide +kernel) (Nat.le_of_ble_eq_true rfl) fun X hX hE => ?_
  have hX : Ok E X "DeltaFerryModel" "step" cd_Mo_step 3 (some (.int)) (rl 10) := hX
  refine G_cast (lv' := [(0, .ref (eA E 61))]) ?_ rfl rfl rfl rfl
  refine G_aload_n hX 0 rfl rfl d_Mo_step_0 ?_
  refine M_get hX fg_Mo_432 d_Mo_step_1 hMo (by decide) hF46 ?_
  refine G_if_ne_z hX (tgt := 21) d_Mo_step_4 rfl (by omega) (fun c1 => by exfalso; omega) (fun c2 => ?_)
  refine G_aload_n hX 0 rfl rfl d_Mo_step_7 ?_
  refine G_iconst hX d_Mo_step_8 ?_
  refine M_put hX fg_Mo_432 fp_Mo_46 d_Mo_step_9 hMo rfl rfl (by decide) (fun f3 F4 h5 h6 k7 k8 => ?_)
  refine G_aload_n hX 0 rfl rfl d_Mo_step_12 ?_
  refine G_aload_n hX 0 rfl rfl d_Mo_step_13 ?_
  have h9 : F4 47 = .int (zI bl) := (k7 47 (by decide)).trans hF47
  refine M_get hX fg_Mo_151 d_Mo_step_14 h5 (by decide) h9 ?_
  have h10 : f3 63 = iz E 1600 b := (k8 63 (by decide)).trans hc63
  have h11 : f3 64 = iz E 4 sz := (k8 64 (by decide)).trans hc64
  have h12 : f3 62 = la E 32 kkF := (k8 62 (by decide)).trans hc62
  have h13 : f3 65 = la E 4 st := (k8 65 (by decide)).trans hc65
  have h14 : f3 66 = la E 75 W := (k8 66 (by decide)).trans hc66
  have h15 : f3 67 = la E 75 A := (k8 67 (by decide)).trans hc67
  have h16 : f3 68 = la E 75 L := (k8 68 (by decide)).trans hc68
  refine F_callV hX (st := []) (c_Mo_sign E f3 F4 bl b sz gF st W A L h5 (moK_fr hmk (FrF.tr (FrF.rf (S := [46])) k7 (by decide)) (by decide)) h10 h11 h12 h13 h14 h15 h16 hsz hbl hG hag) cm_Mo_sign im_Mo_sign se_Mo_sign rfl ml_Mo_435 d_Mo_step_17 (by decide) h5 rfl rfl (Nat.le_of_ble_eq_true rfl) (by decide) ?_
  rintro _ f17 ⟨rfl, F20, st'_21, W'_22, A'_23, L'_24, h25, h26, h27, k28, h29, h30, h31, h32, p33, k34⟩
  refine G_cast (st' := [.int (zI (sz 0 / bl))]) ?_ rfl rfl rfl rfl
  have h35 : F20 46 = .int (zI 1) := (k28 46 (by decide)).trans h6
  exact F_iret hX hE d_Mo_step_20 ⟨rfl, F20, _, _, _, _, h25, h26, h27, h35, (FrF.tr (FrF.tr FrF.rf k7 (by decide)) k28 (by decide)), h29, h30, h31, h32, p33, (Fr.tr (Fr.tr Fr.rf k8 (by decide)) k34 (by decide))⟩
theorem c_Mo_step1 (E : EV) (f : Nat → va_E) (F : Nat → Value) (w : Int) (bl : Int) (ct : Int) (b : Int → Int) (sz : Int → Int) (gF : Int → Int) (st : Nat → Int64) (W : Nat → Int64) (A : Nat → Int64) (L : Nat → Int64) (Wm : Nat → Int64) (Am : Nat → Int64) (Lm : Nat → Int64) (rs : Int → Int) (ra : Int → Int) (mt : Int → Int) (ms : Int → Int) (ma : Int → Int) (mn : Int → Int) (P : PS) (nr : Int → Int) (sm : Int → Int) (pt : Int → Int) (ps : Int → Int) (dr : Int → Int) (hMo : f 61 = mob F) (hmk : moK E F) (hF6 : F 6 = .int (zI bl)) (hF7 : F 7 = .int (zI ct)) (hF46 : F 46 = .int (zI 1)) (hF48 : F 48 = .int (zI w)) (hc63 : f 63 = iz E 1600 b) (hc64 : f 64 = iz E 4 sz) (hc62 : f 62 = la E 32 kkF) (hc65 : f 65 = la E 4 st) (hc66 : f 66 = la E 75 Wm) (hc67 : f 67 = la E 75 Am) (hc68 : f 68 = la E 75 Lm) (hc73 : f 73 = iz E 300 rs) (hc74 : f 74 = iz E 300 ra) (hc69 : f 69 = iz E 700 mt) (hc70 : f 70 = iz E 700 ms) (hc71 : f 71 = iz E 700 ma) (hc72 : f 72 = iz E 700 mn) (hc78 : f 78 = iz E 8 nr) (hc79 : f 79 = iz E 1024 sm) (hc76 : f 76 = iz E 3 ps) (hc77 : f 77 = iz E 3000 pt) (hc75 : f 75 = iz E 3000 dr) (hsz : ∀ k, 0 ≤ k → k ≤ 3 → 0 ≤ sz k ∧ sz k ≤ (if k = 2 then 700 else 300)) (hbl : 4 ≤ bl ∧ bl ≤ 64) (hct : 0 ≤ ct ∧ ct ≤ 75) (hcb : ct * bl ≤ 300) (hw : 16 ≤ w ∧ w ≤ 256) (hG : isB gF) (hag : ∀ i, 0 ≤ i → i < sz 1 → b (300 + i) = gF i) (hsg : ∀ k : Int, 0 ≤ k → k < ct → Wm k.toNat = W k.toNat ∧ Am k.toNat = A k.toNat ∧ Lm k.toNat = L k.toNat) (hPB : plB (scF W A L gF bl ct (sz 1) w P)) (hW : plW (scF W A L gF bl ct (sz 1) w P) w (sz 1)) (hlg : ((enF (scF W A L gF bl ct (sz 1) w P) w (ct * bl) gF (sz 1) 1).length : Int) ≤ 700) : CF yn_Mo_step cd_Mo_step 3 (some (.int)) 10 E [.ref (eA E 61)] f (fun r f' => r = some (.int (zI ((enF (scF W A L gF bl ct (sz 1) w P) w (ct * bl) gF (sz 1) 1).length : Int))) ∧ ∃ (F' : Nat → Value) (st' : Nat → Int64) (rs' : Int → Int) (ra' : Int → Int) (mt' : Int → Int) (ms' : Int → Int) (ma' : Int → Int) (mn' : Int → Int) (nr' : Int → Int) (sm' : Int → Int) (pt' : Int → Int) (ps' : Int → Int) (dr' : Int → Int) (b' : Int → Int), f' 61 = mob F' ∧ F' 13 = .int (zI w) ∧ F' 12 = .int (zI (ct * bl)) ∧ F' 11 = .int (zI (pC (scF W A L gF bl ct (sz 1) w P))) ∧ F' 46 = .int (zI 2) ∧ F' 49 = .long (dgA gF 0 (sz 1)) ∧ F' 50 = .long (dgB gF 0 (sz 1)) ∧ FrF [4, 5, 11, 12, 13, 18, 21, 25, 26, 27, 46, 49, 50] F F' ∧ f' 65 = la E 4 st' ∧ f' 73 = iz E 300 rs' ∧ f' 74 = iz E 300 ra' ∧ f' 69 = iz E 700 mt' ∧ f' 70 = iz E 700 ms' ∧ f' 71 = iz E 700 ma' ∧ f' 72 = iz E 700 mn' ∧ f' 78 = iz E 8 nr' ∧ f' 79 = iz E 1024 sm' ∧ f' 76 = iz E 3 ps' ∧ f' 77 = iz E 3000 pt' ∧ f' 75 = iz E 3000 dr' ∧ f' 63 = iz E 1600 b' ∧ f' 64 = iz E 4 (uz sz 2 ((enF (scF W A L gF bl ct (sz 1) w P) w (ct * bl) gF (sz 1) 1).length : Int)) ∧ (plE mt' ms' ma' mn' (scF W A L gF bl ct (sz 1) w P)) ∧ (rep (fun k => b' (600 + k)) ((enF (scF W A L gF bl ct (sz 1) w P) w (ct * bl) gF (sz 1) 1).length : Int) (enF (scF W A L gF bl ct (sz 1) w P) w (ct * bl) gF (sz 1) 1)) ∧ (∀ j, j < 600 ∨ 600 + ((enF (scF W A L gF bl ct (sz 1) w P) w (ct * bl) gF (sz 1) 1).length : Int) ≤ j → b' j = b j) ∧ Fr [65, 73, 74, 69, 70, 71, 72, 78, 79, 76, 77, 75, 63, 64, 61] f f') := by
  refine CF.of (by decide +kernel) (Nat.le_of_ble_eq_true rfl) fun X hX hE => ?_
  have hX : Ok E X "DeltaFerryModel" "step" cd_Mo_step 3 (some (.int)) (rl 10) := hX
  refine G_cast (lv' := [(0, .ref (eA E 61))]) ?_ rfl rfl rfl rfl
  have hct0 : 0 ≤ ct * bl := Int.mul_nonneg hct.1 (by omega)
  have hpc := hW.1
  have hsz1 := hsz 1 (by decide) (by decide)
  rw [if_neg (by decide)] at hsz1
  refine G_aload_n hX 0 rfl rfl d_Mo_step_0 ?_
  refine M_get hX fg_Mo_432 d_Mo_step_1 hMo (by decide) hF46 ?_
  refine G_if_ne_z hX (tgt := 21) d_Mo_step_4 rfl (by omega) (fun c1 => ?_) (fun c2 => by exfalso; omega)
  refine G_aload_n hX 0 rfl rfl d_Mo_step_21 ?_
  refine M_get hX fg_Mo_432 d_Mo_step_22 hMo (by decide) hF46 ?_
  refine G_iconst hX d_Mo_step_25 ?_
  refine G_icmp_ne_z hX (tgt := 92) d_Mo_step_26 rfl (by omega) (fun c3 => by exfalso; omega) (fun c4 => ?_)
  refine G_aload_n hX 0 rfl rfl d_Mo_step_29 ?_
  refine G_aload_n hX 0 rfl rfl d_Mo_step_30 ?_
  refine M_get hX fg_Mo_154 d_Mo_step_31 hMo (by decide) hF48 ?_
  refine F_callV hX (st := []) (c_Mo_scan E f F w bl ct b sz gF st W A L Wm Am Lm rs ra mt ms ma mn P hMo hmk hF6 hF7 hc63 hc64 hc62 hc65 hc66 hc67 hc68 hc73 hc74 hc69 hc70 hc71 hc72 hsz hbl hct hcb hw hG hag hsg) cm_Mo_scan im_Mo_scan se_Mo_scan rfl ml_Mo_438 d_Mo_step_34 (by decide) hMo rfl rfl (Nat.le_of_ble_eq_true rfl) (by decide) ?_
  rintro _ f5 ⟨rfl, F8, st'_9, rs'_10, ra'_11, mt'_12, ms'_13, ma'_14, mn'_15, h16, h17, h18, h19, k20, h21, h22, h23, h24, h25, h26, h27, p28, k29⟩
  refine G_cast (st' := [.int (zI (pC (scF W A L gF bl ct (sz 1) w P)))]) ?_ rfl rfl rfl rfl
  refine G_istore_n hX (lv' := [(1, .int (zI (pC (scF W A L gF bl ct (sz 1) w P)))), (0, .ref (eA E 61))]) rfl (by decide) rfl d_Mo_step_37 ?_
  refine G_aload_n hX 1 rfl rfl d_Mo_step_38 ?_
  refine G_iconst hX d_Mo_step_39 ?_
  have h30 : f5 63 = iz E 1600 b := (k29 63 (by decide)).trans hc63
  have h31 : f5 64 = iz E 4 sz := (k29 64 (by decide)).trans hc64
  have h32 : f5 78 = iz E 8 nr := (k29 78 (by decide)).trans hc78
  have h33 : f5 79 = iz E 1024 sm := (k29 79 (by decide)).trans hc79
  have h34 : f5 76 = iz E 3 ps := (k29 76 (by decide)).trans hc76
  have h35 : f5 77 = iz E 3000 pt := (k29 77 (by decide)).trans hc77
  have h36 : f5 75 = iz E 3000 dr := (k29 75 (by decide)).trans hc75
  refine F_callV hX (st := []) (c_Mo_encode1 E f5 F8 (scF W A L gF bl ct (sz 1) w P) w (ct * bl) b sz gF mt'_12 ms'_13 ma'_14 mn'_15 nr sm pt ps dr h16 (moK_fr hmk (FrF.tr (FrF.rf (S := [4, 5, 11, 12, 13, 18])) k20 (by decide)) (by decide)) h19 h18 h17 h30 h31 h24 h25 h26 h27 h32 h33 h34 h35 h36 hsz p28 hPB hW hw ⟨hct0, hcb⟩ hG hag hlg) cm_Mo_encode im_Mo_encode se_Mo_encode rfl ml_Mo_441 d_Mo_step_40 (by decide) h16 rfl rfl (Nat.le_of_ble_eq_true rfl) (by decide) ?_
  rintro _ f37 ⟨rfl, F40, nr'_41, sm'_42, pt'_43, ps'_44, dr'_45, b'_46, h47, k48, h49, h50, h51, h52, h53, h54, h55, p56, p57, k58⟩
  refine G_cast (st' := [.int (zI ((enF (scF W A L gF bl ct (sz 1) w P) w (ct * bl) gF (sz 1) 1).length : Int))]) ?_ rfl rfl rfl rfl
  have hln0 : 0 ≤ ((enF (scF W A L gF bl ct (sz 1) w P) w (ct * bl) gF (sz 1) 1).length : Int) := Int.natCast_nonneg _
  refine G_istore_n hX (lv' := [(2, .int (zI ((enF (scF W A L gF bl ct (sz 1) w P) w (ct * bl) gF (sz 1) 1).length : Int))), (1, .int (zI (pC (scF W A L gF bl ct (sz 1) w P)))), (0, .ref (eA E 61))]) rfl (by decide) rfl d_Mo_step_43 ?_
  refine G_aload_n hX 2 rfl rfl d_Mo_step_44 ?_
  refine G_iload_n hX 0 rfl rfl d_Mo_step_45 ?_
  refine G_if_lt_z hX (tgt := 53) d_Mo_step_46 rfl (by omega) (fun c59 => by exfalso; omega) (fun c60 => ?_)
  refine G_iload_n hX 1 rfl rfl d_Mo_step_49 ?_
  refine G_if_ge_z hX (tgt := 57) d_Mo_step_50 rfl (by omega) (fun c61 => ?_) (fun c62 => by exfalso; omega)
  refine G_iconst hX d_Mo_step_57 ?_
  refine M_put hX fg_Mo_432 fp_Mo_46 d_Mo_step_58 h47 rfl rfl (by decide) (fun f63 F64 h65 h66 k67 k68 => ?_)
  have HB2 := p57
  refine G_aload_n hX 2 rfl rfl d_Mo_step_61 ?_
  refine G_sipush hX (by decide) d_Mo_step_62 ?_
  refine G_aload_n hX 2 rfl rfl d_Mo_step_65 ?_
  have h69 : F64 2 = .ref (eA E 64) := (k67 2 (by decide)).trans ((k48 2 (by decide)).trans ((k20 2 (by decide)).trans (hmk 2 64 (by decide))))
  refine M_get hX fg_Mo_81 d_Mo_step_66 h65 (by decide) h69 ?_
  refine G_iconst hX d_Mo_step_69 ?_
  have h70 : f63 64 = iz E 4 (uz sz 2 ((enF (scF W A L gF bl ct (sz 1) w P) w (ct * bl) gF (sz 1) 1).length : Int)) := (k68 64 (by decide)).trans h55
  refine F_iald hX d_Mo_step_70 64 (by decide) h70 (by omega) ?_
  refine G_top (show zI ((uz sz 2 ((enF (scF W A L gF bl ct (sz 1) w P) w (ct * bl) gF (sz 1) 1).length : Int)) 1) = zI (sz 1) from congrArg zI (if_neg (by decide))) ?_
  have h71 : f63 63 = iz E 1600 b'_46 := (k68 63 (by decide)).trans h54
  have h72 : f63 62 = la E 32 kkF := (k68 62 (by decide)).trans ((k58 62 (by decide)).trans ((k29 62 (by decide)).trans hc62))
  have h73 : f63 65 = la E 4 st'_9 := (k68 65 (by decide)).trans ((k58 65 (by decide)).trans h21)
  refine F_callV hX (st := []) (c_Mo_digestOf E f63 F64 300 (sz 1) b'_46 gF 0 st'_9 h65 (moK_fr hmk (FrF.tr (FrF.tr (FrF.tr (FrF.rf (S := [4, 5, 11, 12, 13, 18, 21, 25, 26, 27, 46])) k20 (by decide)) k48 (by decide)) k67 (by decide)) (by decide)) h71 h72 h73 hG (fun i h1 h2 => by rw [HB2 (300 + i) (by omega), Int.zero_add]; exact hag i h1 h2) (by omega)) cm_Mo_digestOf im_Mo_digestOf se_Mo_digestOf rfl ml_Mo_227 d_Mo_step_71 (by decide) h65 rfl rfl (Nat.le_of_ble_eq_true rfl) (by decide) ?_
  rintro _ f74 ⟨rfl, F77, st'_78, h79, h80, h81, k82, h83, k84⟩
  refine G_cast (st' := []) ?_ rfl rfl rfl rfl
  refine G_aload_n hX 2 rfl rfl d_Mo_step_74 ?_
  refine G_aload_n hX 2 rfl rfl d_Mo_step_75 ?_
  refine M_get hX fg_Mo_220 d_Mo_step_76 h79 (by decide) h80 ?_
  refine M_put hX fg_Mo_445 fp_Mo_49 d_Mo_step_79 h79 rfl rfl (by decide) (fun f85 F86 h87 h88 k89 k90 => ?_)
  refine G_aload_n hX 2 rfl rfl d_Mo_step_82 ?_
  refine G_aload_n hX 2 rfl rfl d_Mo_step_83 ?_
  have h91 : F86 5 = .long (dgB gF 0 (sz 1)) := (k89 5 (by decide)).trans h81
  refine M_get hX fg_Mo_224 d_Mo_step_84 h87 (by decide) h91 ?_
  refine M_put hX fg_Mo_448 fp_Mo_50 d_Mo_step_87 h87 rfl rfl (by decide) (fun f92 F93 h94 h95 k96 k97 => ?_)
  refine G_iload_n hX 0 rfl rfl d_Mo_step_90 ?_
  have h98 : F93 13 = .int (zI w) := (k96 13 (by decide)).trans ((k89 13 (by decide)).trans ((k82 13 (by decide)).trans ((k67 13 (by decide)).trans ((k48 13 (by decide)).trans h17))))
  have h99 : F93 12 = .int (zI (ct * bl)) := (k96 12 (by decide)).trans ((k89 12 (by decide)).trans ((k82 12 (by decide)).trans ((k67 12 (by decide)).trans ((k48 12 (by decide)).trans h18))))
  have h100 : F93 11 = .int (zI (pC (scF W A L gF bl ct (sz 1) w P))) := (k96 11 (by decide)).trans ((k89 11 (by decide)).trans ((k82 11 (by decide)).trans ((k67 11 (by decide)).trans ((k48 11 (by decide)).trans h19))))
  have h101 : F93 46 = .int (zI 2) := (k96 46 (by decide)).trans ((k89 46 (by decide)).trans ((k82 46 (by decide)).trans h66))
  have h102 : F93 49 = .long (dgA gF 0 (sz 1)) := (k96 49 (by decide)).trans h88
  have h103 : f92 65 = la E 4 st'_78 := (k97 65 (by decide)).trans ((k90 65 (by decide)).trans h83)
  have h104 : f92 73 = iz E 300 rs'_10 := (k97 73 (by decide)).trans ((k90 73 (by decide)).trans ((k84 73 (by decide)).trans ((k68 73 (by decide)).trans ((k58 73 (by decide)).trans h22))))
  have h105 : f92 74 = iz E 300 ra'_11 := (k97 74 (by decide)).trans ((k90 74 (by decide)).trans ((k84 74 (by decide)).trans ((k68 74 (by decide)).trans ((k58 74 (by decide)).trans h23))))
  have h106 : f92 69 = iz E 700 mt'_12 := (k97 69 (by decide)).trans ((k90 69 (by decide)).trans ((k84 69 (by decide)).trans ((k68 69 (by decide)).trans ((k58 69 (by decide)).trans h24))))
  have h107 : f92 70 = iz E 700 ms'_13 := (k97 70 (by decide)).trans ((k90 70 (by decide)).trans ((k84 70 (by decide)).trans ((k68 70 (by decide)).trans ((k58 70 (by decide)).trans h25))))
  have h108 : f92 71 = iz E 700 ma'_14 := (k97 71 (by decide)).trans ((k90 71 (by decide)).trans ((k84 71 (by decide)).trans ((k68 71 (by decide)).trans ((k58 71 (by decide)).trans h26))))
  have h109 : f92 72 = iz E 700 mn'_15 := (k97 72 (by decide)).trans ((k90 72 (by decide)).trans ((k84 72 (by decide)).trans ((k68 72 (by decide)).trans ((k58 72 (by decide)).trans h27))))
  have h110 : f92 78 = iz E 8 nr'_41 := (k97 78 (by decide)).trans ((k90 78 (by decide)).trans ((k84 78 (by decide)).trans ((k68 78 (by decide)).trans h49)))
  have h111 : f92 79 = iz E 1024 sm'_42 := (k97 79 (by decide)).trans ((k90 79 (by decide)).trans ((k84 79 (by decide)).trans ((k68 79 (by decide)).trans h50)))
  have h112 : f92 76 = iz E 3 ps'_44 := (k97 76 (by decide)).trans ((k90 76 (by decide)).trans ((k84 76 (by decide)).trans ((k68 76 (by decide)).trans h51)))
  have h113 : f92 77 = iz E 3000 pt'_43 := (k97 77 (by decide)).trans ((k90 77 (by decide)).trans ((k84 77 (by decide)).trans ((k68 77 (by decide)).trans h52)))
  have h114 : f92 75 = iz E 3000 dr'_45 := (k97 75 (by decide)).trans ((k90 75 (by decide)).trans ((k84 75 (by decide)).trans ((k68 75 (by decide)).trans h53)))
  have h115 : f92 63 = iz E 1600 b'_46 := (k97 63 (by decide)).trans ((k90 63 (by decide)).trans ((k84 63 (by decide)).trans h71))
  have h116 : f92 64 = iz E 4 (uz sz 2 ((enF (scF W A L gF bl ct (sz 1) w P) w (ct * bl) gF (sz 1) 1).length : Int)) := (k97 64 (by decide)).trans ((k90 64 (by decide)).trans ((k84 64 (by decide)).trans h70))
  exact F_iret hX hE d_Mo_step_91 ⟨rfl, F93, _, _, _, _, _, _, _, _, _, _, _, _, _, h94, h98, h99, h100, h101, h102, h95, (FrF.tr (FrF.tr (FrF.tr (FrF.tr (FrF.tr (FrF.tr FrF.rf k20 (by decide)) k48 (by decide)) k67 (by decide)) k82 (by decide)) k89 (by decide)) k96 (by decide)), h103, h104, h105, h106, h107, h108, h109, h110, h111, h112, h113, h114, h115, h116, p28, p56, p57, (Fr.tr (Fr.tr (Fr.tr (Fr.tr (Fr.tr (Fr.tr Fr.rf k29 (by decide)) k58 (by decide)) k68 (by decide)) k84 (by decide)) k90 (by decide)) k97 (by decide))⟩
theorem c_Mo_step1_large (E : EV) (f : Nat → va_E) (F : Nat → Value) (w : Int) (bl : Int) (ct : Int) (b : Int → Int) (sz : Int → Int) (gF : Int → Int) (st : Nat → Int64) (W : Nat → Int64) (A : Nat → Int64) (L : Nat → Int64) (Wm : Nat → Int64) (Am : Nat → Int64) (Lm : Nat → Int64) (rs : Int → Int) (ra : Int → Int) (mt : Int → Int) (ms : Int → Int) (ma : Int → Int) (mn : Int → Int) (P : PS) (nr : Int → Int) (sm : Int → Int) (pt : Int → Int) (ps : Int → Int) (dr : Int → Int) (hMo : f 61 = mob F) (hmk : moK E F) (hF6 : F 6 = .int (zI bl)) (hF7 : F 7 = .int (zI ct)) (hF46 : F 46 = .int (zI 1)) (hF48 : F 48 = .int (zI w)) (hc63 : f 63 = iz E 1600 b) (hc64 : f 64 = iz E 4 sz) (hc62 : f 62 = la E 32 kkF) (hc65 : f 65 = la E 4 st) (hc66 : f 66 = la E 75 Wm) (hc67 : f 67 = la E 75 Am) (hc68 : f 68 = la E 75 Lm) (hc73 : f 73 = iz E 300 rs) (hc74 : f 74 = iz E 300 ra) (hc69 : f 69 = iz E 700 mt) (hc70 : f 70 = iz E 700 ms) (hc71 : f 71 = iz E 700 ma) (hc72 : f 72 = iz E 700 mn) (hc78 : f 78 = iz E 8 nr) (hc79 : f 79 = iz E 1024 sm) (hc76 : f 76 = iz E 3 ps) (hc77 : f 77 = iz E 3000 pt) (hc75 : f 75 = iz E 3000 dr) (hsz : ∀ k, 0 ≤ k → k ≤ 3 → 0 ≤ sz k ∧ sz k ≤ (if k = 2 then 700 else 300)) (hbl : 4 ≤ bl ∧ bl ≤ 64) (hct : 0 ≤ ct ∧ ct ≤ 75) (hcb : ct * bl ≤ 300) (hw : 16 ≤ w ∧ w ≤ 256) (hG : isB gF) (hag : ∀ i, 0 ≤ i → i < sz 1 → b (300 + i) = gF i) (hsg : ∀ k : Int, 0 ≤ k → k < ct → Wm k.toNat = W k.toNat ∧ Am k.toNat = A k.toNat ∧ Lm k.toNat = L k.toNat) (hPB : plB (scF W A L gF bl ct (sz 1) w P)) (hW : plW (scF W A L gF bl ct (sz 1) w P) w (sz 1)) (hlg : 700 < ((enF (scF W A L gF bl ct (sz 1) w P) w (ct * bl) gF (sz 1) 1).length : Int)) : CF yn_Mo_step cd_Mo_step 3 (some (.int)) 10 E [.ref (eA E 61)] f (fun r f' => r = some (.int (zI (-4))) ∧ ∃ (F' : Nat → Value) (st' : Nat → Int64) (rs' : Int → Int) (ra' : Int → Int) (mt' : Int → Int) (ms' : Int → Int) (ma' : Int → Int) (mn' : Int → Int) (nr' : Int → Int) (sm' : Int → Int) (pt' : Int → Int) (ps' : Int → Int) (dr' : Int → Int), f' 61 = mob F' ∧ F' 13 = .int (zI w) ∧ F' 12 = .int (zI (ct * bl)) ∧ F' 11 = .int (zI (pC (scF W A L gF bl ct (sz 1) w P))) ∧ F' 46 = .int (zI 0) ∧ F' 49 = .long (dgA gF 0 (sz 1)) ∧ F' 50 = .long (dgB gF 0 (sz 1)) ∧ FrF [4, 5, 11, 12, 13, 18, 21, 25, 26, 27, 46, 49, 50] F F' ∧ f' 65 = la E 4 st' ∧ f' 73 = iz E 300 rs' ∧ f' 74 = iz E 300 ra' ∧ f' 69 = iz E 700 mt' ∧ f' 70 = iz E 700 ms' ∧ f' 71 = iz E 700 ma' ∧ f' 72 = iz E 700 mn' ∧ f' 78 = iz E 8 nr' ∧ f' 79 = iz E 1024 sm' ∧ f' 76 = iz E 3 ps' ∧ f' 77 = iz E 3000 pt' ∧ f' 75 = iz E 3000 dr' ∧ (plE mt' ms' ma' mn' (scF W A L gF bl ct (sz 1) w P)) ∧ Fr [65, 73, 74, 69, 70, 71, 72, 78, 79, 76, 77, 75, 61] f f') := by
  refine CF.of (by decide +kernel) (Nat.le_of_ble_eq_true rfl) fun X hX hE => ?_
  have hX : Ok E X "DeltaFerryModel" "step" cd_Mo_step 3 (some (.int)) (rl 10) := hX
  refine G_cast (lv' := [(0, .ref (eA E 61))]) ?_ rfl rfl rfl rfl
  have hct0 : 0 ≤ ct * bl := Int.mul_nonneg hct.1 (by omega)
  have hpc := hW.1
  have hsz1 := hsz 1 (by decide) (by decide)
  rw [if_neg (by decide)] at hsz1
  refine G_aload_n hX 0 rfl rfl d_Mo_step_0 ?_
  refine M_get hX fg_Mo_432 d_Mo_step_1 hMo (by decide) hF46 ?_
  refine G_if_ne_z hX (tgt := 21) d_Mo_step_4 rfl (by omega) (fun c1 => ?_) (fun c2 => by exfalso; omega)
  refine G_aload_n hX 0 rfl rfl d_Mo_step_21 ?_
  refine M_get hX fg_Mo_432 d_Mo_step_22 hMo (by decide) hF46 ?_
  refine G_iconst hX d_Mo_step_25 ?_
  refine G_icmp_ne_z hX (tgt := 92) d_Mo_step_26 rfl (by omega) (fun c3 => by exfalso; omega) (fun c4 => ?_)
  refine G_aload_n hX 0 rfl rfl d_Mo_step_29 ?_
  refine G_aload_n hX 0 rfl rfl d_Mo_step_30 ?_
  refine M_get hX fg_Mo_154 d_Mo_step_31 hMo (by decide) hF48 ?_
  refine F_callV hX (st := []) (c_Mo_scan E f F w bl ct b sz gF st W A L Wm Am Lm rs ra mt ms ma mn P hMo hmk hF6 hF7 hc63 hc64 hc62 hc65 hc66 hc67 hc68 hc73 hc74 hc69 hc70 hc71 hc72 hsz hbl hct hcb hw hG hag hsg) cm_Mo_scan im_Mo_scan se_Mo_scan rfl ml_Mo_438 d_Mo_step_34 (by decide) hMo rfl rfl (Nat.le_of_ble_eq_true rfl) (by decide) ?_
  rintro _ f5 ⟨rfl, F8, st'_9, rs'_10, ra'_11, mt'_12, ms'_13, ma'_14, mn'_15, h16, h17, h18, h19, k20, h21, h22, h23, h24, h25, h26, h27, p28, k29⟩
  refine G_cast (st' := [.int (zI (pC (scF W A L gF bl ct (sz 1) w P)))]) ?_ rfl rfl rfl rfl
  refine G_istore_n hX (lv' := [(1, .int (zI (pC (scF W A L gF bl ct (sz 1) w P)))), (0, .ref (eA E 61))]) rfl (by decide) rfl d_Mo_step_37 ?_
  refine G_aload_n hX 1 rfl rfl d_Mo_step_38 ?_
  refine G_iconst hX d_Mo_step_39 ?_
  have h30 : f5 63 = iz E 1600 b := (k29 63 (by decide)).trans hc63
  have h31 : f5 64 = iz E 4 sz := (k29 64 (by decide)).trans hc64
  have h32 : f5 78 = iz E 8 nr := (k29 78 (by decide)).trans hc78
  have h33 : f5 79 = iz E 1024 sm := (k29 79 (by decide)).trans hc79
  have h34 : f5 76 = iz E 3 ps := (k29 76 (by decide)).trans hc76
  have h35 : f5 77 = iz E 3000 pt := (k29 77 (by decide)).trans hc77
  have h36 : f5 75 = iz E 3000 dr := (k29 75 (by decide)).trans hc75
  refine F_callV hX (st := []) (c_Mo_encode1_large E f5 F8 (scF W A L gF bl ct (sz 1) w P) w (ct * bl) b sz gF mt'_12 ms'_13 ma'_14 mn'_15 nr sm pt ps dr h16 (moK_fr hmk (FrF.tr (FrF.rf (S := [4, 5, 11, 12, 13, 18])) k20 (by decide)) (by decide)) h19 h18 h17 h30 h31 h24 h25 h26 h27 h32 h33 h34 h35 h36 hsz p28 hPB hW hw ⟨hct0, hcb⟩ hG hag hlg) cm_Mo_encode im_Mo_encode se_Mo_encode rfl ml_Mo_441 d_Mo_step_40 (by decide) h16 rfl rfl (Nat.le_of_ble_eq_true rfl) (by decide) ?_
  rintro _ f37 ⟨rfl, F40, nr'_41, sm'_42, pt'_43, ps'_44, dr'_45, h46, k47, h48, h49, h50, h51, h52, k53⟩
  refine G_cast (st' := [.int (zI (-4))]) ?_ rfl rfl rfl rfl
  refine G_istore_n hX (lv' := [(2, .int (zI (-4))), (1, .int (zI (pC (scF W A L gF bl ct (sz 1) w P)))), (0, .ref (eA E 61))]) rfl (by decide) rfl d_Mo_step_43 ?_
  refine G_aload_n hX 2 rfl rfl d_Mo_step_44 ?_
  refine G_iload_n hX 0 rfl rfl d_Mo_step_45 ?_
  refine G_if_lt_z hX (tgt := 53) d_Mo_step_46 rfl (by omega) (fun c54 => ?_) (fun c55 => by exfalso; omega)
  refine G_iconst hX d_Mo_step_53 ?_
  refine G_goto hX (tgt := 58) d_Mo_step_54 rfl ?_
  refine M_put hX fg_Mo_432 fp_Mo_46 d_Mo_step_58 h46 rfl rfl (by decide) (fun f56 F57 h58 h59 k60 k61 => ?_)
  refine G_aload_n hX 2 rfl rfl d_Mo_step_61 ?_
  refine G_sipush hX (by decide) d_Mo_step_62 ?_
  refine G_aload_n hX 2 rfl rfl d_Mo_step_65 ?_
  have h62 : F57 2 = .ref (eA E 64) := (k60 2 (by decide)).trans ((k47 2 (by decide)).trans ((k20 2 (by decide)).trans (hmk 2 64 (by decide))))
  refine M_get hX fg_Mo_81 d_Mo_step_66 h58 (by decide) h62 ?_
  refine G_iconst hX d_Mo_step_69 ?_
  have h63 : f56 64 = iz E 4 sz := (k61 64 (by decide)).trans ((k53 64 (by decide)).trans h31)
  refine F_iald hX d_Mo_step_70 64 (by decide) h63 (by omega) ?_
  have h64 : f56 63 = iz E 1600 b := (k61 63 (by decide)).trans ((k53 63 (by decide)).trans h30)
  have h65 : f56 62 = la E 32 kkF := (k61 62 (by decide)).trans ((k53 62 (by decide)).trans ((k29 62 (by decide)).trans hc62))
  have h66 : f56 65 = la E 4 st'_9 := (k61 65 (by decide)).trans ((k53 65 (by decide)).trans h21)
  refine F_callV hX (st := []) (c_Mo_digestOf E f56 F57 300 (sz 1) b gF 0 st'_9 h58 (moK_fr hmk (FrF.tr (FrF.tr (FrF.tr (FrF.rf (S := [4, 5, 11, 12, 13, 18, 21, 25, 26, 27, 46])) k20 (by decide)) k47 (by decide)) k60 (by decide)) (by decide)) h64 h65 h66 hG (fun i h1 h2 => by rw [Int.zero_add]; exact hag i h1 h2) (by omega)) cm_Mo_digestOf im_Mo_digestOf se_Mo_digestOf rfl ml_Mo_227 d_Mo_step_71 (by decide) h58 rfl rfl (Nat.le_of_ble_eq_true rfl) (by decide) ?_
  rintro _ f67 ⟨rfl, F70, st'_71, h72, h73, h74, k75, h76, k77⟩
  refine G_cast (st' := []) ?_ rfl rfl rfl rfl
  refine G_aload_n hX 2 rfl rfl d_Mo_step_74 ?_
  refine G_aload_n hX 2 rfl rfl d_Mo_step_75 ?_
  refine M_get hX fg_Mo_220 d_Mo_step_76 h72 (by decide) h73 ?_
  refine M_put hX fg_Mo_445 fp_Mo_49 d_Mo_step_79 h72 rfl rfl (by decide) (fun f78 F79 h80 h81 k82 k83 => ?_)
  refine G_aload_n hX 2 rfl rfl d_Mo_step_82 ?_
  refine G_aload_n hX 2 rfl rfl d_Mo_step_83 ?_
  have h84 : F79 5 = .long (dgB gF 0 (sz 1)) := (k82 5 (by decide)).trans h74
  refine M_get hX fg_Mo_224 d_Mo_step_84 h80 (by decide) h84 ?_
  refine M_put hX fg_Mo_448 fp_Mo_50 d_Mo_step_87 h80 rfl rfl (by decide) (fun f85 F86 h87 h88 k89 k90 => ?_)
  refine G_iload_n hX 0 rfl rfl d_Mo_step_90 ?_
  have h91 : F86 13 = .int (zI w) := (k89 13 (by decide)).trans ((k82 13 (by decide)).trans ((k75 13 (by decide)).trans ((k60 13 (by decide)).trans ((k47 13 (by decide)).trans h17))))
  have h92 : F86 12 = .int (zI (ct * bl)) := (k89 12 (by decide)).trans ((k82 12 (by decide)).trans ((k75 12 (by decide)).trans ((k60 12 (by decide)).trans ((k47 12 (by decide)).trans h18))))
  have h93 : F86 11 = .int (zI (pC (scF W A L gF bl ct (sz 1) w P))) := (k89 11 (by decide)).trans ((k82 11 (by decide)).trans ((k75 11 (by decide)).trans ((k60 11 (by decide)).trans ((k47 11 (by decide)).trans h19))))
  have h94 : F86 46 = .int (zI 0) := (k89 46 (by decide)).trans ((k82 46 (by decide)).trans ((k75 46 (by decide)).trans h59))
  have h95 : F86 49 = .long (dgA gF 0 (sz 1)) := (k89 49 (by decide)).trans h81
  have h96 : f85 65 = la E 4 st'_71 := (k90 65 (by decide)).trans ((k83 65 (by decide)).trans h76)
  have h97 : f85 73 = iz E 300 rs'_10 := (k90 73 (by decide)).trans ((k83 73 (by decide)).trans ((k77 73 (by decide)).trans ((k61 73 (by decide)).trans ((k53 73 (by decide)).trans h22))))
  have h98 : f85 74 = iz E 300 ra'_11 := (k90 74 (by decide)).trans ((k83 74 (by decide)).trans ((k77 74 (by decide)).trans ((k61 74 (by decide)).trans ((k53 74 (by decide)).trans h23))))
  have h99 : f85 69 = iz E 700 mt'_12 := (k90 69 (by decide)).trans ((k83 69 (by decide)).trans ((k77 69 (by decide)).trans ((k61 69 (by decide)).trans ((k53 69 (by decide)).trans h24))))
  have h100 : f85 70 = iz E 700 ms'_13 := (k90 70 (by decide)).trans ((k83 70 (by decide)).trans ((k77 70 (by decide)).trans ((k61 70 (by decide)).trans ((k53 70 (by decide)).trans h25))))
  have h101 : f85 71 = iz E 700 ma'_14 := (k90 71 (by decide)).trans ((k83 71 (by decide)).trans ((k77 71 (by decide)).trans ((k61 71 (by decide)).trans ((k53 71 (by decide)).trans h26))))
  have h102 : f85 72 = iz E 700 mn'_15 := (k90 72 (by decide)).trans ((k83 72 (by decide)).trans ((k77 72 (by decide)).trans ((k61 72 (by decide)).trans ((k53 72 (by decide)).trans h27))))
  have h103 : f85 78 = iz E 8 nr'_41 := (k90 78 (by decide)).trans ((k83 78 (by decide)).trans ((k77 78 (by decide)).trans ((k61 78 (by decide)).trans h48)))
  have h104 : f85 79 = iz E 1024 sm'_42 := (k90 79 (by decide)).trans ((k83 79 (by decide)).trans ((k77 79 (by decide)).trans ((k61 79 (by decide)).trans h49)))
  have h105 : f85 76 = iz E 3 ps'_44 := (k90 76 (by decide)).trans ((k83 76 (by decide)).trans ((k77 76 (by decide)).trans ((k61 76 (by decide)).trans h50)))
  have h106 : f85 77 = iz E 3000 pt'_43 := (k90 77 (by decide)).trans ((k83 77 (by decide)).trans ((k77 77 (by decide)).trans ((k61 77 (by decide)).trans h51)))
  have h107 : f85 75 = iz E 3000 dr'_45 := (k90 75 (by decide)).trans ((k83 75 (by decide)).trans ((k77 75 (by decide)).trans ((k61 75 (by decide)).trans h52)))
  exact F_iret hX hE d_Mo_step_91 ⟨rfl, F86, _, _, _, _, _, _, _, _, _, _, _, _, h87, h91, h92, h93, h94, h95, h88, (FrF.tr (FrF.tr (FrF.tr (FrF.tr (FrF.tr (FrF.tr FrF.rf k20 (by decide)) k47 (by decide)) k60 (by decide)) k75 (by decide)) k82 (by decide)) k89 (by decide)), h96, h97, h98, h99, h100, h101, h102, h103, h104, h105, h106, h107, p28, (Fr.tr (Fr.tr (Fr.tr (Fr.tr (Fr.tr (Fr.tr Fr.rf k29 (by decide)) k53 (by decide)) k61 (by decide)) k77 (by decide)) k83 (by decide)) k90 (by decide))⟩
theorem c_Mo_step2 (E : EV) (f : Nat → va_E) (F : Nat → Value) (b : Int → Int) (sz : Int → Int) (g : Int → Int) (st : Int → Int) (old : Int → Int) (mR : Int → Int) (mT : Int → Int) (tb : Int → Int) (ob : Int → Int) (o : Int → Int) (nr : Int → Int) (sm : Int → Int) (av : Int → Int) (ev : Int → Int) (n1 : Int64) (n2 : Int64) (sx : Nat → Int64) (g3 : Int → Int) (hMo : f 61 = mob F) (hmk : moK E F) (hF46 : F 46 = .int (zI 2)) (hF49 : F 49 = .long n1) (hF50 : F 50 = .long n2) (hc63 : f 63 = iz E 1600 b) (hc64 : f 64 = iz E 4 sz) (hc80 : f 80 = iz E 1536 tb) (hc81 : f 81 = iz E 1536 ob) (hc82 : f 82 = iz E 1536 o) (hc78 : f 78 = iz E 8 nr) (hc79 : f 79 = iz E 1024 sm) (hc83 : f 83 = iz E 3 av) (hc84 : f 84 = iz E 3 ev) (hc62 : f 62 = la E 32 kkF) (hc65 : f 65 = la E 4 sx) (hsz : ∀ k, 0 ≤ k → k ≤ 3 → 0 ≤ sz k ∧ sz k ≤ (if k = 2 then 700 else 300)) (hG : isB g) (hgb : ∀ i, 0 ≤ i → i < sz 2 → b (600 + i) = g i) (hoB : isB old) (hago : ∀ i, 0 ≤ i → i < sz 0 → b i = old i) (hsF : ∀ x, 0 ≤ x → x < 1536 → st x = stF x) (hsB : isB st) (hs3 : ∀ k, 0 ≤ k → k < 512 → st k ≤ 3) (hmR : isB mR) (hmT : isB mT) (hok : (dcF g (sz 2) st old (sz 0) mR mT).1 = 0) (hgB : isB (cz (dcF g (sz 2) st old (sz 0) mR mT).2.1 g3 0 0 (dcF g (sz 2) st old (sz 0) mR mT).2.2)) (hcB : 0 ≤ (dcF g (sz 2) st old (sz 0) mR mT).2.2 ∧ (dcF g (sz 2) st old (sz 0) mR mT).2.2 ≤ 300) : CF yn_Mo_step cd_Mo_step 3 (some (.int)) 10 E [.ref (eA E 61)] f (fun r f' => r = some (.int (zI (if dgA (cz (dcF g (sz 2) st old (sz 0) mR mT).2.1 g3 0 0 (dcF g (sz 2) st old (sz 0) mR mT).2.2) 0 ((dcF g (sz 2) st old (sz 0) mR mT).2.2) = n1 ∧ dgB (cz (dcF g (sz 2) st old (sz 0) mR mT).2.1 g3 0 0 (dcF g (sz 2) st old (sz 0) mR mT).2.2) 0 ((dcF g (sz 2) st old (sz 0) mR mT).2.2) = n2 then (dcF g (sz 2) st old (sz 0) mR mT).2.2 else -7))) ∧ ∃ (F' : Nat → Value) (b' : Int → Int) (sz' : Int → Int) (tb' : Int → Int) (ob' : Int → Int) (o' : Int → Int) (nr' : Int → Int) (sm' : Int → Int) (av' : Int → Int) (ev' : Int → Int) (sx' : Nat → Int64), f' 61 = mob F' ∧ F' 46 = .int (zI 0) ∧ FrF [4, 5, 25, 26, 27, 30, 31, 32, 34, 36, 37, 39, 40, 41, 42, 43, 46] F F' ∧ f' 63 = iz E 1600 b' ∧ f' 64 = iz E 4 sz' ∧ f' 80 = iz E 1536 tb' ∧ f' 81 = iz E 1536 ob' ∧ f' 82 = iz E 1536 o' ∧ f' 78 = iz E 8 nr' ∧ f' 79 = iz E 1024 sm' ∧ f' 83 = iz E 3 av' ∧ f' 84 = iz E 3 ev' ∧ f' 65 = la E 4 sx' ∧ (sz' = uz sz 3 ((dcF g (sz 2) st old (sz 0) mR mT).2.2) ∧ (∀ i, 0 ≤ i → i < (dcF g (sz 2) st old (sz 0) mR mT).2.2 → b' (1300 + i) = (dcF g (sz 2) st old (sz 0) mR mT).2.1 i) ∧ (∀ j, j < 1300 → b' j = b j)) ∧ Fr [63, 64, 80, 81, 82, 78, 79, 83, 84, 65, 61] f f') := by
  refine CF.of (by decide +kernel) (Nat.le_of_ble_eq_true rfl) fun X hX hE => ?_
  have hX : Ok E X "DeltaFerryModel" "step" cd_Mo_step 3 (some (.int)) (rl 10) := hX
  refine G_cast (lv' := [(0, .ref (eA E 61))]) ?_ rfl rfl rfl rfl
  refine G_aload_n hX 0 rfl rfl d_Mo_step_0 ?_
  refine M_get hX fg_Mo_432 d_Mo_step_1 hMo (by decide) hF46 ?_
  refine G_if_ne_z hX (tgt := 21) d_Mo_step_4 rfl (by omega) (fun c1 => ?_) (fun c2 => by exfalso; omega)
  refine G_aload_n hX 0 rfl rfl d_Mo_step_21 ?_
  refine M_get hX fg_Mo_432 d_Mo_step_22 hMo (by decide) hF46 ?_
  refine G_iconst hX d_Mo_step_25 ?_
  refine G_icmp_ne_z hX (tgt := 92) d_Mo_step_26 rfl (by omega) (fun c3 => ?_) (fun c4 => by exfalso; omega)
  refine G_aload_n hX 0 rfl rfl d_Mo_step_92 ?_
  refine G_iconst hX d_Mo_step_93 ?_
  refine M_put hX fg_Mo_432 fp_Mo_46 d_Mo_step_94 hMo rfl rfl (by decide) (fun f5 F6 h7 h8 k9 k10 => ?_)
  refine G_aload_n hX 0 rfl rfl d_Mo_step_97 ?_
  have h11 : f5 63 = iz E 1600 b := (k10 63 (by decide)).trans hc63
  have h12 : f5 64 = iz E 4 sz := (k10 64 (by decide)).trans hc64
  have h13 : f5 80 = iz E 1536 tb := (k10 80 (by decide)).trans hc80
  have h14 : f5 81 = iz E 1536 ob := (k10 81 (by decide)).trans hc81
  have h15 : f5 82 = iz E 1536 o := (k10 82 (by decide)).trans hc82
  have h16 : f5 78 = iz E 8 nr := (k10 78 (by decide)).trans hc78
  have h17 : f5 79 = iz E 1024 sm := (k10 79 (by decide)).trans hc79
  have h18 : f5 83 = iz E 3 av := (k10 83 (by decide)).trans hc83
  have h19 : f5 84 = iz E 3 ev := (k10 84 (by decide)).trans hc84
  refine F_callV hX (st := []) (c_Mo_decode E f5 F6 b sz g st old mR mT tb ob o nr sm av ev h7 (moK_fr hmk (FrF.tr (FrF.rf (S := [46])) k9 (by decide)) (by decide)) h11 h12 h13 h14 h15 h16 h17 h18 h19 hsz hG hgb hoB hago hsF hsB hs3 hmR hmT) cm_Mo_decode im_Mo_decode se_Mo_decode rfl ml_Mo_451 d_Mo_step_98 (by decide) h7 rfl rfl (Nat.le_of_ble_eq_true rfl) (by decide) ?_
  rintro _ f20 ⟨F23, r'_24, b'_25, sz'_26, tb'_27, ob'_28, o'_29, nr'_30, sm'_31, av'_32, ev'_33, rfl, h34, k35, h36, h37, h38, h39, h40, h41, h42, h43, h44, p45, p46, p47, p48, k49⟩
  refine G_cast (st' := [.int (zI r'_24)]) ?_ rfl rfl rfl rfl
  rw [if_pos hok] at p45
  have hD := p46 hok
  refine G_top (show zI r'_24 = zI ((dcF g (sz 2) st old (sz 0) mR mT).2.2) from congrArg zI p45) ?_
  refine G_istore_n hX (lv' := [(1, .int (zI ((dcF g (sz 2) st old (sz 0) mR mT).2.2))), (0, .ref (eA E 61))]) rfl (by decide) rfl d_Mo_step_101 ?_
  refine G_iload_n hX 0 rfl rfl d_Mo_step_102 ?_
  refine G_if_ge_z hX (tgt := 108) d_Mo_step_103 rfl (by omega) (fun c50 => ?_) (fun c51 => by exfalso; omega)
  refine G_aload_n hX 1 rfl rfl d_Mo_step_108 ?_
  refine G_sipush hX (by decide) d_Mo_step_109 ?_
  refine G_aload_n hX 1 rfl rfl d_Mo_step_112 ?_
  have h52 : F23 2 = .ref (eA E 64) := (k35 2 (by decide)).trans ((k9 2 (by decide)).trans (hmk 2 64 (by decide)))
  refine M_get hX fg_Mo_81 d_Mo_step_113 h34 (by decide) h52 ?_
  refine G_iconst hX d_Mo_step_116 ?_
  refine F_iald hX d_Mo_step_117 64 (by decide) h37 (by omega) ?_
  refine G_top (show zI (sz'_26 3) = zI ((dcF g (sz 2) st old (sz 0) mR mT).2.2) from congrArg zI (by rw [hD.1]; exact if_pos rfl)) ?_
  have h53 : f20 62 = la E 32 kkF := (k49 62 (by decide)).trans ((k10 62 (by decide)).trans hc62)
  have h54 : f20 65 = la E 4 sx := (k49 65 (by decide)).trans ((k10 65 (by decide)).trans hc65)
  refine F_callV hX (st := []) (c_Mo_digestOf E f20 F23 1300 ((dcF g (sz 2) st old (sz 0) mR mT).2.2) b'_25 (cz (dcF g (sz 2) st old (sz 0) mR mT).2.1 g3 0 0 (dcF g (sz 2) st old (sz 0) mR mT).2.2) 0 sx h34 (moK_fr hmk (FrF.tr (FrF.tr (FrF.rf (S := [25, 26, 27, 30, 31, 32, 34, 36, 37, 39, 40, 41, 42, 43, 46])) k9 (by decide)) k35 (by decide)) (by decide)) h36 h53 h54 hgB (fun i h1 h2 => by rw [hD.2.1 i h1 h2, Int.zero_add]; unfold cz; rw [if_pos (by omega), show (0 : Int) + (i - 0) = i by omega]) (by omega)) cm_Mo_digestOf im_Mo_digestOf se_Mo_digestOf rfl ml_Mo_227 d_Mo_step_118 (by decide) h34 rfl rfl (Nat.le_of_ble_eq_true rfl) (by decide) ?_
  rintro _ f55 ⟨rfl, F58, st'_59, h60, h61, h62, k63, h64, k65⟩
  refine G_cast (st' := []) ?_ rfl rfl rfl rfl
  refine G_aload_n hX 1 rfl rfl d_Mo_step_121 ?_
  refine M_get hX fg_Mo_220 d_Mo_step_122 h60 (by decide) h61 ?_
  refine G_aload_n hX 1 rfl rfl d_Mo_step_125 ?_
  have h66 : F58 49 = .long n1 := (k63 49 (by decide)).trans ((k35 49 (by decide)).trans ((k9 49 (by decide)).trans hF49))
  refine M_get hX fg_Mo_445 d_Mo_step_126 h60 (by decide) h66 ?_
  refine G_lcmp hX d_Mo_step_129 ?_
  refine G_if_ne hX (tgt := 149) d_Mo_step_130 rfl (fun c67 => ?_) (fun c68 => ?_)
  · skip
    refine G_bipush hX (by decide) d_Mo_step_149 ?_
    have h69 : F58 46 = .int (zI 0) := (k63 46 (by decide)).trans ((k35 46 (by decide)).trans h8)
    have h70 : f55 63 = iz E 1600 b'_25 := (k65 63 (by decide)).trans h36
    have h71 : f55 64 = iz E 4 sz'_26 := (k65 64 (by decide)).trans h37
    have h72 : f55 80 = iz E 1536 tb'_27 := (k65 80 (by decide)).trans h38
    have h73 : f55 81 = iz E 1536 ob'_28 := (k65 81 (by decide)).trans h39
    have h74 : f55 82 = iz E 1536 o'_29 := (k65 82 (by decide)).trans h40
    have h75 : f55 78 = iz E 8 nr'_30 := (k65 78 (by decide)).trans h41
    have h76 : f55 79 = iz E 1024 sm'_31 := (k65 79 (by decide)).trans h42
    have h77 : f55 83 = iz E 3 av'_32 := (k65 83 (by decide)).trans h43
    have h78 : f55 84 = iz E 3 ev'_33 := (k65 84 (by decide)).trans h44
    exact F_iret hX hE d_Mo_step_151 ⟨by rw [if_neg (fun q => c67 ((lg_cmp_eq _ _).mpr q.1))], F58, _, _, _, _, _, _, _, _, _, _, h60, h69, (FrF.tr (FrF.tr (FrF.tr FrF.rf k9 (by decide)) k35 (by decide)) k63 (by decide)), h70, h71, h72, h73, h74, h75, h76, h77, h78, h64, hD, (Fr.tr (Fr.tr (Fr.tr Fr.rf k10 (by decide)) k49 (by decide)) k65 (by decide))⟩
  · skip
    refine G_aload_n hX 1 rfl rfl d_Mo_step_133 ?_
    refine M_get hX fg_Mo_224 d_Mo_step_134 h60 (by decide) h62 ?_
    refine G_aload_n hX 1 rfl rfl d_Mo_step_137 ?_
    have h79 : F58 50 = .long n2 := (k63 50 (by decide)).trans ((k35 50 (by decide)).trans ((k9 50 (by decide)).trans hF50))
    refine M_get hX fg_Mo_448 d_Mo_step_138 h60 (by decide) h79 ?_
    refine G_lcmp hX d_Mo_step_141 ?_
    refine G_if_ne hX (tgt := 149) d_Mo_step_142 rfl (fun c80 => ?_) (fun c81 => ?_)
    · skip
      refine G_bipush hX (by decide) d_Mo_step_149 ?_
      have h82 : F58 46 = .int (zI 0) := (k63 46 (by decide)).trans ((k35 46 (by decide)).trans h8)
      have h83 : f55 63 = iz E 1600 b'_25 := (k65 63 (by decide)).trans h36
      have h84 : f55 64 = iz E 4 sz'_26 := (k65 64 (by decide)).trans h37
      have h85 : f55 80 = iz E 1536 tb'_27 := (k65 80 (by decide)).trans h38
      have h86 : f55 81 = iz E 1536 ob'_28 := (k65 81 (by decide)).trans h39
      have h87 : f55 82 = iz E 1536 o'_29 := (k65 82 (by decide)).trans h40
      have h88 : f55 78 = iz E 8 nr'_30 := (k65 78 (by decide)).trans h41
      have h89 : f55 79 = iz E 1024 sm'_31 := (k65 79 (by decide)).trans h42
      have h90 : f55 83 = iz E 3 av'_32 := (k65 83 (by decide)).trans h43
      have h91 : f55 84 = iz E 3 ev'_33 := (k65 84 (by decide)).trans h44
      exact F_iret hX hE d_Mo_step_151 ⟨by rw [if_neg (fun q => c80 ((lg_cmp_eq _ _).mpr q.2))], F58, _, _, _, _, _, _, _, _, _, _, h60, h82, (FrF.tr (FrF.tr (FrF.tr FrF.rf k9 (by decide)) k35 (by decide)) k63 (by decide)), h83, h84, h85, h86, h87, h88, h89, h90, h91, h64, hD, (Fr.tr (Fr.tr (Fr.tr Fr.rf k10 (by decide)) k49 (by decide)) k65 (by decide))⟩
    · skip
      refine G_iload_n hX 0 rfl rfl d_Mo_step_145 ?_
      refine G_goto hX (tgt := 151) d_Mo_step_146 rfl ?_
      have h92 : F58 46 = .int (zI 0) := (k63 46 (by decide)).trans ((k35 46 (by decide)).trans h8)
      have h93 : f55 63 = iz E 1600 b'_25 := (k65 63 (by decide)).trans h36
      have h94 : f55 64 = iz E 4 sz'_26 := (k65 64 (by decide)).trans h37
      have h95 : f55 80 = iz E 1536 tb'_27 := (k65 80 (by decide)).trans h38
      have h96 : f55 81 = iz E 1536 ob'_28 := (k65 81 (by decide)).trans h39
      have h97 : f55 82 = iz E 1536 o'_29 := (k65 82 (by decide)).trans h40
      have h98 : f55 78 = iz E 8 nr'_30 := (k65 78 (by decide)).trans h41
      have h99 : f55 79 = iz E 1024 sm'_31 := (k65 79 (by decide)).trans h42
      have h100 : f55 83 = iz E 3 av'_32 := (k65 83 (by decide)).trans h43
      have h101 : f55 84 = iz E 3 ev'_33 := (k65 84 (by decide)).trans h44
      exact F_iret hX hE d_Mo_step_151 ⟨by rw [if_pos ⟨(lg_cmp_eq _ _).mp c68, (lg_cmp_eq _ _).mp c81⟩], F58, _, _, _, _, _, _, _, _, _, _, h60, h92, (FrF.tr (FrF.tr (FrF.tr FrF.rf k9 (by decide)) k35 (by decide)) k63 (by decide)), h93, h94, h95, h96, h97, h98, h99, h100, h101, h64, hD, (Fr.tr (Fr.tr (Fr.tr Fr.rf k10 (by decide)) k49 (by decide)) k65 (by decide))⟩
theorem c_Mo_step2_no (E : EV) (f : Nat → va_E) (F : Nat → Value) (b : Int → Int) (sz : Int → Int) (g : Int → Int) (st : Int → Int) (old : Int → Int) (mR : Int → Int) (mT : Int → Int) (tb : Int → Int) (ob : Int → Int) (o : Int → Int) (nr : Int → Int) (sm : Int → Int) (av : Int → Int) (ev : Int → Int) (n1 : Int64) (n2 : Int64) (sx : Nat → Int64) (hMo : f 61 = mob F) (hmk : moK E F) (hF46 : F 46 = .int (zI 2)) (hF49 : F 49 = .long n1) (hF50 : F 50 = .long n2) (hc63 : f 63 = iz E 1600 b) (hc64 : f 64 = iz E 4 sz) (hc80 : f 80 = iz E 1536 tb) (hc81 : f 81 = iz E 1536 ob) (hc82 : f 82 = iz E 1536 o) (hc78 : f 78 = iz E 8 nr) (hc79 : f 79 = iz E 1024 sm) (hc83 : f 83 = iz E 3 av) (hc84 : f 84 = iz E 3 ev) (hc62 : f 62 = la E 32 kkF) (hc65 : f 65 = la E 4 sx) (hsz : ∀ k, 0 ≤ k → k ≤ 3 → 0 ≤ sz k ∧ sz k ≤ (if k = 2 then 700 else 300)) (hG : isB g) (hgb : ∀ i, 0 ≤ i → i < sz 2 → b (600 + i) = g i) (hoB : isB old) (hago : ∀ i, 0 ≤ i → i < sz 0 → b i = old i) (hsF : ∀ x, 0 ≤ x → x < 1536 → st x = stF x) (hsB : isB st) (hs3 : ∀ k, 0 ≤ k → k < 512 → st k ≤ 3) (hmR : isB mR) (hmT : isB mT) (hok : ¬ (dcF g (sz 2) st old (sz 0) mR mT).1 = 0) (hneg : (dcF g (sz 2) st old (sz 0) mR mT).1 ≤ 0) : CF yn_Mo_step cd_Mo_step 3 (some (.int)) 10 E [.ref (eA E 61)] f (fun r f' => r = some (.int (zI ((dcF g (sz 2) st old (sz 0) mR mT).1))) ∧ ∃ (F' : Nat → Value) (b' : Int → Int) (sz' : Int → Int) (tb' : Int → Int) (ob' : Int → Int) (o' : Int → Int) (nr' : Int → Int) (sm' : Int → Int) (av' : Int → Int) (ev' : Int → Int), f' 61 = mob F' ∧ F' 46 = .int (zI 0) ∧ FrF [25, 26, 27, 30, 31, 32, 34, 36, 37, 39, 40, 41, 42, 43, 46] F F' ∧ f' 63 = iz E 1600 b' ∧ f' 64 = iz E 4 sz' ∧ f' 80 = iz E 1536 tb' ∧ f' 81 = iz E 1536 ob' ∧ f' 82 = iz E 1536 o' ∧ f' 78 = iz E 8 nr' ∧ f' 79 = iz E 1024 sm' ∧ f' 83 = iz E 3 av' ∧ f' 84 = iz E 3 ev' ∧ (sz' = sz ∧ b' = b) ∧ Fr [63, 64, 80, 81, 82, 78, 79, 83, 84, 61] f f') := by
  refine CF.of (by decide +kernel) (Nat.le_of_ble_eq_true rfl) fun X hX hE => ?_
  have hX : Ok E X "DeltaFerryModel" "step" cd_Mo_step 3 (some (.int)) (rl 10) := hX
  refine G_cast (lv' := [(0, .ref (eA E 61))]) ?_ rfl rfl rfl rfl
  refine G_aload_n hX 0 rfl rfl d_Mo_step_0 ?_
  refine M_get hX fg_Mo_432 d_Mo_step_1 hMo (by decide) hF46 ?_
  refine G_if_ne_z hX (tgt := 21) d_Mo_step_4 rfl (by omega) (fun c1 => ?_) (fun c2 => by exfalso; omega)
  refine G_aload_n hX 0 rfl rfl d_Mo_step_21 ?_
  refine M_get hX fg_Mo_432 d_Mo_step_22 hMo (by decide) hF46 ?_
  refine G_iconst hX d_Mo_step_25 ?_
  refine G_icmp_ne_z hX (tgt := 92) d_Mo_step_26 rfl (by omega) (fun c3 => ?_) (fun c4 => by exfalso; omega)
  refine G_aload_n hX 0 rfl rfl d_Mo_step_92 ?_
  refine G_iconst hX d_Mo_step_93 ?_
  refine M_put hX fg_Mo_432 fp_Mo_46 d_Mo_step_94 hMo rfl rfl (by decide) (fun f5 F6 h7 h8 k9 k10 => ?_)
  refine G_aload_n hX 0 rfl rfl d_Mo_step_97 ?_
  have h11 : f5 63 = iz E 1600 b := (k10 63 (by decide)).trans hc63
  have h12 : f5 64 = iz E 4 sz := (k10 64 (by decide)).trans hc64
  have h13 : f5 80 = iz E 1536 tb := (k10 80 (by decide)).trans hc80
  have h14 : f5 81 = iz E 1536 ob := (k10 81 (by decide)).trans hc81
  have h15 : f5 82 = iz E 1536 o := (k10 82 (by decide)).trans hc82
  have h16 : f5 78 = iz E 8 nr := (k10 78 (by decide)).trans hc78
  have h17 : f5 79 = iz E 1024 sm := (k10 79 (by decide)).trans hc79
  have h18 : f5 83 = iz E 3 av := (k10 83 (by decide)).trans hc83
  have h19 : f5 84 = iz E 3 ev := (k10 84 (by decide)).trans hc84
  refine F_callV hX (st := []) (c_Mo_decode E f5 F6 b sz g st old mR mT tb ob o nr sm av ev h7 (moK_fr hmk (FrF.tr (FrF.rf (S := [46])) k9 (by decide)) (by decide)) h11 h12 h13 h14 h15 h16 h17 h18 h19 hsz hG hgb hoB hago hsF hsB hs3 hmR hmT) cm_Mo_decode im_Mo_decode se_Mo_decode rfl ml_Mo_451 d_Mo_step_98 (by decide) h7 rfl rfl (Nat.le_of_ble_eq_true rfl) (by decide) ?_
  rintro _ f20 ⟨F23, r'_24, b'_25, sz'_26, tb'_27, ob'_28, o'_29, nr'_30, sm'_31, av'_32, ev'_33, rfl, h34, k35, h36, h37, h38, h39, h40, h41, h42, h43, h44, p45, p46, p47, p48, k49⟩
  refine G_cast (st' := [.int (zI r'_24)]) ?_ rfl rfl rfl rfl
  rw [if_neg hok] at p45
  have hD := p47 hok
  refine G_top (show zI r'_24 = zI ((dcF g (sz 2) st old (sz 0) mR mT).1) from congrArg zI p45) ?_
  have hD3 := p48
  rw [p45] at hD3
  refine G_istore_n hX (lv' := [(1, .int (zI ((dcF g (sz 2) st old (sz 0) mR mT).1))), (0, .ref (eA E 61))]) rfl (by decide) rfl d_Mo_step_101 ?_
  refine G_iload_n hX 0 rfl rfl d_Mo_step_102 ?_
  refine G_if_ge_z hX (tgt := 108) d_Mo_step_103 rfl (by omega) (fun c50 => by exfalso; omega) (fun c51 => ?_)
  refine G_iload_n hX 0 rfl rfl d_Mo_step_106 ?_
  have h52 : F23 46 = .int (zI 0) := (k35 46 (by decide)).trans h8
  exact F_iret hX hE d_Mo_step_107 ⟨rfl, F23, _, _, _, _, _, _, _, _, _, h34, h52, (FrF.tr (FrF.tr FrF.rf k9 (by decide)) k35 (by decide)), h36, h37, h38, h39, h40, h41, h42, h43, h44, hD, (Fr.tr (Fr.tr Fr.rf k10 (by decide)) k49 (by decide))⟩
