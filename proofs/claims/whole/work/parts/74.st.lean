/-! DeltaFerry.step; printed by wip/tools/m_st.py -/
theorem c_Df_step0 (E : EV) (f : Nat → va_E) (bk wi : Int) (n1 n2 : Int64) (W Fs L : Nat → Int64) (md bl ct : Int) (g0 : Int → Int) (c0 : Int) (hF : isDf E f bk wi 0 n1 n2) (hSg : gSg E f W Fs L md bl ct) (hR0 : isR E f 2 3 300 g0 c0) (hc : 0 ≤ c0 ∧ c0 ≤ 300) (hb : 4 ≤ bk ∧ bk ≤ 64) : CF yn_Df_step cd_Df_step 3 (some (.int)) 6 E [.ref (eA E 0)] f (fun r f' => r = some (.int (zI (c0 / bk))) ∧ isDf E f' bk wi 1 n1 n2 ∧ (∃ W' F' L', gSg E f' W' F' L' 1 bk (c0 / bk) ∧ sgOf g0 bk (c0 / bk) W' F' L') ∧ Fr [0, 14, 16, 17, 18, 19, 20, 21] f f') := by
  refine CF.of (by decide +kernel) (Nat.le_of_ble_eq_true rfl) fun X hX hE => ?_
  have hX : Ok E X "DeltaFerry" "step" cd_Df_step 3 (some (.int)) (rl 6) := hX
  refine G_cast (lv' := [(0, .ref (eA E 0))]) ?_ rfl rfl rfl rfl
  refine G_aload_n hX 0 rfl rfl d_Df_step_0 ?_
  refine F_get hX fg_Df_71 d_Df_step_1 0 (by decide) hF.1 rfl ?_
  refine G_if_ne_z hX (tgt := 21) d_Df_step_4 rfl (by omega) (fun c101 => by exfalso; omega) (fun c102 => ?_)
  refine G_aload_n hX 0 rfl rfl d_Df_step_7 ?_
  refine G_iconst hX d_Df_step_8 ?_
  refine F_put hX fg_Df_71 fp_Df_10 d_Df_step_9 0 (fs' := [.ref (eA E 1), .ref (eA E 10), .ref (eA E 13), .ref (eA E 14), .ref (eA E 22), .ref (eA E 27), .ref (eA E 29), .ref (eA E 44), .int (zI bk), .int (zI wi), .int (zI 1), .long n1, .long n2]) (by decide) hF.1 rfl rfl (Nat.le_of_ble_eq_true rfl) rfl (fun f103 h104 k105 => ?_)
  refine G_aload_n hX 0 rfl rfl d_Df_step_12 ?_
  refine G_aload_n hX 0 rfl rfl d_Df_step_13 ?_
  refine F_get hX fg_Df_64 d_Df_step_14 0 (by decide) h104 rfl ?_
  obtain ⟨hSs, s0, wd0, y0, y1, y2, y3, hSd, hSv⟩ := (t_hSg k105 (by decide) hSg)
  refine F_callV hX (st := []) (c_Df_sign E f103 bk wi 1 n1 n2 W Fs L md bl ct s0 wd0 y0 y1 y2 y3 g0 c0 bk ⟨h104, ((k105 1 (by decide)).trans hF.2)⟩ hSs hSd hSv (t_hR0 k105 (by decide) hR0) hc (by omega)) cm_Df_sign im_Df_sign se_Df_sign rfl ml_Df_222 d_Df_step_17 (by decide) h104 rfl rfl (Nat.le_of_ble_eq_true rfl) (by decide) ?_
  rintro r9 f106 ⟨h9, k9⟩
  rw [if_pos hb] at h9
  obtain ⟨rfl, W1, F1, L1, s1, wd1, z0, z1, z2, z3, q1, q2, q3, q4⟩ := h9
  refine G_cast (st' := [.int (zI (c0 / bk))]) ?_ rfl rfl rfl rfl
  have h109 : f106 0 = ob 11 [.ref (eA E 1), .ref (eA E 10), .ref (eA E 13), .ref (eA E 14), .ref (eA E 22), .ref (eA E 27), .ref (eA E 29), .ref (eA E 44), .int (zI bk), .int (zI wi), .int (zI 1), .long n1, .long n2] := (k9 0 (by decide)).trans h104
  exact F_iret hX hE d_Df_step_20 ⟨rfl, ⟨h109, ((k9 1 (by decide)).trans ((k105 1 (by decide)).trans hF.2))⟩, ⟨W1, F1, L1, ⟨q1, s1, wd1, z0, z1, z2, z3, q3, q4⟩, q2⟩, (Fr.tr (Fr.tr Fr.rf k105 (by decide)) k9 (by decide))⟩
theorem c_Df_step1 (E : EV) (f : Nat → va_E) (bk wi : Int) (n1 n2 : Int64) (W Fs L : Nat → Int64) (bl ct : Int) (g1 g2 : Int → Int) (c1 c2 : Int) (P : PS) (pm pw ps : Int) (hF : isDf E f bk wi 1 n1 n2) (hSg : gSg E f W Fs L 1 bl ct) (hDg : gDg E f) (hR1 : isR E f 4 5 300 g1 c1) (hR2 : isR E f 6 7 700 g2 c2) (hPl : isPl E f P pm pw ps) (hWt : gWt E f) (hc1 : 0 ≤ c1 ∧ c1 ≤ 300) (hc2 : 0 ≤ c2 ∧ c2 ≤ 700) (hB1 : isB g1) (hPB : plB P) (hwi : 16 ≤ wi ∧ wi ≤ 256) (hbl : (4 ≤ bl ∧ bl ≤ 64) ∧ 0 ≤ ct ∧ ct ≤ 75 ∧ ct * bl ≤ 300) (hlg : ¬ 700 < ((enF (scF W Fs L g1 bl ct c1 wi P) wi (ct * bl) g1 c1 1).length : Int)) : CF yn_Df_step cd_Df_step 3 (some (.int)) 6 E [.ref (eA E 0)] f (fun r f' => r = some (.int (zI ((enF (scF W Fs L g1 bl ct c1 wi P) wi (ct * bl) g1 c1 1).length : Int))) ∧ isDf E f' bk wi 2 (dgA g1 0 c1) (dgB g1 0 c1) ∧ (∃ gd', isR E f' 6 7 700 gd' ((enF (scF W Fs L g1 bl ct c1 wi P) wi (ct * bl) g1 c1 1).length : Int) ∧ rep gd' ((enF (scF W Fs L g1 bl ct c1 wi P) wi (ct * bl) g1 c1 1).length : Int) (enF (scF W Fs L g1 bl ct c1 wi P) wi (ct * bl) g1 c1 1) ∧ ∀ k : Int, ((enF (scF W Fs L g1 bl ct c1 wi P) wi (ct * bl) g1 c1 1).length : Int) ≤ k → gd' k = g2 k) ∧ isPl E f' (scF W Fs L g1 bl ct c1 wi P) 1 wi (ct * bl) ∧ plOK (scF W Fs L g1 bl ct c1 wi P) c1 ∧ gSg E f' W Fs L 1 bl ct ∧ gDg E f' ∧ gWt E f' ∧ Fr [0, 6, 7, 11, 12, 13, 16, 17, 22, 23, 24, 25, 26, 29, 30, 31, 32, 33, 34, 35, 36, 37, 38, 39, 40, 41, 42, 43] f f') := by
  refine CF.of (by decide +kernel) (Nat.le_of_ble_eq_true rfl) fun X hX hE => ?_
  have hX : Ok E X "DeltaFerry" "step" cd_Df_step 3 (some (.int)) (rl 6) := hX
  refine G_cast (lv' := [(0, .ref (eA E 0))]) ?_ rfl rfl rfl rfl
  have hct0 : 0 ≤ ct * bl := Int.mul_nonneg hbl.2.1 (by omega)
  have hVp := plV_sc (W := W) (F := Fs) (L := L) (g := g1) (w := wi) (P := P) (by omega) hbl.1 hbl.2.1 hbl.2.2.2 hc1.1
  have hWp := plV_W hVp hc1.2
  refine G_aload_n hX 0 rfl rfl d_Df_step_0 ?_
  refine F_get hX fg_Df_71 d_Df_step_1 0 (by decide) hF.1 rfl ?_
  refine G_if_ne_z hX (tgt := 21) d_Df_step_4 rfl (by omega) (fun c101 => ?_) (fun c102 => by exfalso; omega)
  refine G_aload_n hX 0 rfl rfl d_Df_step_21 ?_
  refine F_get hX fg_Df_71 d_Df_step_22 0 (by decide) hF.1 rfl ?_
  refine G_iconst hX d_Df_step_25 ?_
  refine G_icmp_ne_z hX (tgt := 83) d_Df_step_26 rfl (by omega) (fun c103 => by exfalso; omega) (fun c104 => ?_)
  refine G_aload_n hX 0 rfl rfl d_Df_step_29 ?_
  refine G_aload_n hX 0 rfl rfl d_Df_step_30 ?_
  refine F_get hX fg_Df_68 d_Df_step_31 0 (by decide) hF.1 rfl ?_
  obtain ⟨hSs, s0, wd0, y0, y1, y2, y3, hSd, hSv⟩ := hSg
  obtain ⟨s5, wd5, x0, x1, x2, x3, hD5, hV5⟩ := hDg
  refine F_callV hX (st := []) (c_Df_scan E f bk wi 1 n1 n2 W Fs L 1 bl ct s0 wd0 x0 x1 x2 x3 g1 c1 wi P pm pw ps ⟨hF.1, hF.2⟩ hSs hSd hV5 hR1 hc1 hPl hPB hwi rfl hbl) cm_Df_scan im_Df_scan se_Df_scan rfl ml_Df_225 d_Df_step_34 (by decide) hF.1 rfl rfl (Nat.le_of_ble_eq_true rfl) (by decide) ?_
  rintro r9 f105 ⟨rfl, q1, q2, ⟨s1, wd1, z0, z1, z2, z3, q3, q4⟩, k9⟩
  refine G_cast (st' := [.int (zI (pC (scF W Fs L g1 bl ct c1 wi P)))]) ?_ rfl rfl rfl rfl
  refine G_istore_n hX (lv' := [(1, .int (zI (pC (scF W Fs L g1 bl ct c1 wi P)))), (0, .ref (eA E 0))]) rfl (by decide) rfl d_Df_step_37 ?_
  have hpc := hWp.1
  refine G_iload_n hX 0 rfl rfl d_Df_step_38 ?_
  refine G_if_lt_z hX (tgt := 48) d_Df_step_39 rfl (by omega) (fun c108 => by exfalso; omega) (fun c109 => ?_)
  refine G_aload_n hX 1 rfl rfl d_Df_step_42 ?_
  refine G_iconst hX d_Df_step_43 ?_
  have h110 : f105 0 = ob 11 [.ref (eA E 1), .ref (eA E 10), .ref (eA E 13), .ref (eA E 14), .ref (eA E 22), .ref (eA E 27), .ref (eA E 29), .ref (eA E 44), .int (zI bk), .int (zI wi), .int (zI 1), .long n1, .long n2] := (k9 0 (by decide)).trans hF.1
  obtain ⟨nx, go, co, u1, u2, u3⟩ := (t_hWt k9 (by decide) hWt)
  refine F_callV hX (st := []) (c_Df_encode E f105 bk wi 1 n1 n2 (scF W Fs L g1 bl ct c1 wi P) 1 wi (ct * bl) g1 g2 go c1 c2 co nx 1 ⟨h110, ((k9 1 (by decide)).trans hF.2)⟩ q1 rfl q2.2.2.2 (t_hR1 k9 (by decide) hR1) hB1 (t_hR2 k9 (by decide) hR2) u1 u2 u3 hWp hwi hc1 ⟨hct0, hbl.2.2.2⟩ hc2 (by decide)) cm_Df_encode im_Df_encode se_Df_encode rfl ml_Df_228 d_Df_step_44 (by decide) h110 rfl rfl (Nat.le_of_ble_eq_true rfl) (by decide) ?_
  rintro r9 f111 ⟨h8, ⟨go1, co1, nx1, v1, v2, v3⟩, k8⟩
  rw [if_neg hlg] at h8
  obtain ⟨rfl, gd, q5, q6, q7⟩ := h8
  refine G_cast (st' := [.int (zI ((enF (scF W Fs L g1 bl ct c1 wi P) wi (ct * bl) g1 c1 1).length : Int))]) ?_ rfl rfl rfl rfl
  have hln0 : 0 ≤ ((enF (scF W Fs L g1 bl ct c1 wi P) wi (ct * bl) g1 c1 1).length : Int) := Int.natCast_nonneg _
  refine G_istore_n hX (lv' := [(1, .int (zI ((enF (scF W Fs L g1 bl ct c1 wi P) wi (ct * bl) g1 c1 1).length : Int))), (0, .ref (eA E 0))]) rfl (by decide) rfl d_Df_step_47 ?_
  refine G_aload_n hX 1 rfl rfl d_Df_step_48 ?_
  refine G_aload_n hX 1 rfl rfl d_Df_step_49 ?_
  refine G_iconst hX d_Df_step_50 ?_
  refine G_iconst hX d_Df_step_51 ?_
  have h114 : f111 0 = ob 11 [.ref (eA E 1), .ref (eA E 10), .ref (eA E 13), .ref (eA E 14), .ref (eA E 22), .ref (eA E 27), .ref (eA E 29), .ref (eA E 44), .int (zI bk), .int (zI wi), .int (zI 1), .long n1, .long n2] := (k8 0 (by decide)).trans h110
  obtain ⟨s6, wd6, x60, x61, x62, x63, hD6, hV6⟩ := (show gDg E f111 from (t_hDg k8 (by decide) ⟨s5, wd5, z0, z1, z2, z3, ⟨(k9 10 (by decide)).trans hD5.1, (k9 11 (by decide)).trans hD5.2.1, (k9 12 (by decide)).trans hD5.2.2⟩, q4⟩))
  refine F_callV hX (st := [.ref (eA E 0)]) (c_Df_digest_1 E f111 bk wi 1 n1 n2 g1 c1 s6 wd6 0 ⟨h114, ((k8 1 (by decide)).trans ((k9 1 (by decide)).trans hF.2))⟩ (t_hR1 k8 (by decide) (t_hR1 k9 (by decide) hR1)) hc1 hD6 (by omega)) cm_Df_digest im_Df_digest se_Df_digest rfl ml_Df_232 d_Df_step_52 (by decide) h114 rfl rfl (Nat.le_of_ble_eq_true rfl) (by decide) ?_
  rintro r9 f115 ⟨rfl, ⟨s69, wd69, hd6⟩, kd6⟩
  refine G_cast (st' := [.long (if (0 : Int) = 0 then dgA g1 0 c1 else dgB g1 0 c1), .ref (eA E 0)]) ?_ rfl rfl rfl rfl
  refine G_topl (show (if (0 : Int) = 0 then dgA g1 0 c1 else dgB g1 0 c1) = (dgA g1 0 c1) from if_pos rfl) ?_
  have h118 : f115 0 = ob 11 [.ref (eA E 1), .ref (eA E 10), .ref (eA E 13), .ref (eA E 14), .ref (eA E 22), .ref (eA E 27), .ref (eA E 29), .ref (eA E 44), .int (zI bk), .int (zI wi), .int (zI 1), .long n1, .long n2] := (kd6 0 (by decide)).trans h114
  refine F_put hX fg_Df_236 fp_Df_11 d_Df_step_55 0 (fs' := [.ref (eA E 1), .ref (eA E 10), .ref (eA E 13), .ref (eA E 14), .ref (eA E 22), .ref (eA E 27), .ref (eA E 29), .ref (eA E 44), .int (zI bk), .int (zI wi), .int (zI 1), .long (dgA g1 0 c1), .long n2]) (by decide) h118 rfl rfl (Nat.le_of_ble_eq_true rfl) rfl (fun f119 h120 k121 => ?_)
  refine G_aload_n hX 1 rfl rfl d_Df_step_58 ?_
  refine G_aload_n hX 1 rfl rfl d_Df_step_59 ?_
  refine G_iconst hX d_Df_step_60 ?_
  refine G_iconst hX d_Df_step_61 ?_
  obtain ⟨s7, wd7, x70, x71, x72, x73, hD7, hV7⟩ := (show gDg E f119 from (t_hDg k121 (by decide) ⟨s69, wd69, x60, x61, x62, x63, hd6, (kd6 13 (by decide)).trans hV6⟩))
  refine F_callV hX (st := [.ref (eA E 0)]) (c_Df_digest_1 E f119 bk wi 1 (dgA g1 0 c1) n2 g1 c1 s7 wd7 1 ⟨h120, ((k121 1 (by decide)).trans ((kd6 1 (by decide)).trans ((k8 1 (by decide)).trans ((k9 1 (by decide)).trans hF.2))))⟩ (t_hR1 k121 (by decide) (t_hR1 kd6 (by decide) (t_hR1 k8 (by decide) (t_hR1 k9 (by decide) hR1)))) hc1 hD7 (by omega)) cm_Df_digest im_Df_digest se_Df_digest rfl ml_Df_232 d_Df_step_62 (by decide) h120 rfl rfl (Nat.le_of_ble_eq_true rfl) (by decide) ?_
  rintro r9 f122 ⟨rfl, ⟨s79, wd79, hd7⟩, kd7⟩
  refine G_cast (st' := [.long (if (1 : Int) = 0 then dgA g1 0 c1 else dgB g1 0 c1), .ref (eA E 0)]) ?_ rfl rfl rfl rfl
  refine G_topl (show (if (1 : Int) = 0 then dgA g1 0 c1 else dgB g1 0 c1) = (dgB g1 0 c1) from if_neg (by decide)) ?_
  have h125 : f122 0 = ob 11 [.ref (eA E 1), .ref (eA E 10), .ref (eA E 13), .ref (eA E 14), .ref (eA E 22), .ref (eA E 27), .ref (eA E 29), .ref (eA E 44), .int (zI bk), .int (zI wi), .int (zI 1), .long (dgA g1 0 c1), .long n2] := (kd7 0 (by decide)).trans h120
  refine F_put hX fg_Df_240 fp_Df_12 d_Df_step_65 0 (fs' := [.ref (eA E 1), .ref (eA E 10), .ref (eA E 13), .ref (eA E 14), .ref (eA E 22), .ref (eA E 27), .ref (eA E 29), .ref (eA E 44), .int (zI bk), .int (zI wi), .int (zI 1), .long (dgA g1 0 c1), .long (dgB g1 0 c1)]) (by decide) h125 rfl rfl (Nat.le_of_ble_eq_true rfl) rfl (fun f126 h127 k128 => ?_)
  refine G_aload_n hX 1 rfl rfl d_Df_step_68 ?_
  refine G_iload_n hX 0 rfl rfl d_Df_step_69 ?_
  refine G_if_ge_z hX (tgt := 77) d_Df_step_70 rfl (by omega) (fun c129 => ?_) (fun c130 => by exfalso; omega)
  refine G_iconst hX d_Df_step_77 ?_
  refine F_put hX fg_Df_71 fp_Df_10 d_Df_step_78 0 (fs' := [.ref (eA E 1), .ref (eA E 10), .ref (eA E 13), .ref (eA E 14), .ref (eA E 22), .ref (eA E 27), .ref (eA E 29), .ref (eA E 44), .int (zI bk), .int (zI wi), .int (zI 2), .long (dgA g1 0 c1), .long (dgB g1 0 c1)]) (by decide) h127 rfl rfl (Nat.le_of_ble_eq_true rfl) rfl (fun f131 h132 k133 => ?_)
  refine G_iload_n hX 0 rfl rfl d_Df_step_81 ?_
  exact F_iret hX hE d_Df_step_82 ⟨rfl, ⟨h132, ((k133 1 (by decide)).trans ((k128 1 (by decide)).trans ((kd7 1 (by decide)).trans ((k121 1 (by decide)).trans ((kd6 1 (by decide)).trans ((k8 1 (by decide)).trans ((k9 1 (by decide)).trans hF.2)))))))⟩, ⟨gd, (t_hR2 k133 (by decide) (t_hR2 k128 (by decide) (t_hR2 kd7 (by decide) (t_hR2 k121 (by decide) (t_hR2 kd6 (by decide) q5))))), q6, q7⟩, (t_hPl k133 (by decide) (t_hPl k128 (by decide) (t_hPl kd7 (by decide) (t_hPl k121 (by decide) (t_hPl kd6 (by decide) (t_hPl k8 (by decide) q1)))))), q2, (t_hSg k133 (by decide) (t_hSg k128 (by decide) (t_hSg kd7 (by decide) (t_hSg k121 (by decide) (t_hSg kd6 (by decide) (t_hSg k8 (by decide) ⟨⟨(k9 14 (by decide)).trans hSs.1, (k9 18 (by decide)).trans hSs.2.1, (k9 19 (by decide)).trans hSs.2.2.1, (k9 20 (by decide)).trans hSs.2.2.2⟩, s1, wd1, y0, y1, y2, y3, q3, (k9 21 (by decide)).trans hSv⟩)))))), (t_hDg k133 (by decide) (t_hDg k128 (by decide) ⟨s79, wd79, x70, x71, x72, x73, hd7, (kd7 13 (by decide)).trans hV7⟩)), (t_hWt k133 (by decide) (t_hWt k128 (by decide) (t_hWt kd7 (by decide) (t_hWt k121 (by decide) (t_hWt kd6 (by decide) ⟨nx1, go1, co1, v1, v2, v3⟩))))), (Fr.tr (Fr.tr (Fr.tr (Fr.tr (Fr.tr (Fr.tr (Fr.tr Fr.rf k9 (by decide)) k8 (by decide)) kd6 (by decide)) k121 (by decide)) kd7 (by decide)) k128 (by decide)) k133 (by decide))⟩
theorem c_Df_step1_large (E : EV) (f : Nat → va_E) (bk wi : Int) (n1 n2 : Int64) (W Fs L : Nat → Int64) (bl ct : Int) (g1 g2 : Int → Int) (c1 c2 : Int) (P : PS) (pm pw ps : Int) (hF : isDf E f bk wi 1 n1 n2) (hSg : gSg E f W Fs L 1 bl ct) (hDg : gDg E f) (hR1 : isR E f 4 5 300 g1 c1) (hR2 : isR E f 6 7 700 g2 c2) (hPl : isPl E f P pm pw ps) (hWt : gWt E f) (hc1 : 0 ≤ c1 ∧ c1 ≤ 300) (hc2 : 0 ≤ c2 ∧ c2 ≤ 700) (hB1 : isB g1) (hPB : plB P) (hwi : 16 ≤ wi ∧ wi ≤ 256) (hbl : (4 ≤ bl ∧ bl ≤ 64) ∧ 0 ≤ ct ∧ ct ≤ 75 ∧ ct * bl ≤ 300) (hlg : 700 < ((enF (scF W Fs L g1 bl ct c1 wi P) wi (ct * bl) g1 c1 1).length : Int)) : CF yn_Df_step cd_Df_step 3 (some (.int)) 6 E [.ref (eA E 0)] f (fun r f' => r = some (.int (zI (-4))) ∧ isDf E f' bk wi 0 (dgA g1 0 c1) (dgB g1 0 c1) ∧ isR E f' 6 7 700 g2 c2 ∧ isPl E f' (scF W Fs L g1 bl ct c1 wi P) 1 wi (ct * bl) ∧ plOK (scF W Fs L g1 bl ct c1 wi P) c1 ∧ gSg E f' W Fs L 1 bl ct ∧ gDg E f' ∧ gWt E f' ∧ Fr [0, 6, 7, 11, 12, 13, 16, 17, 22, 23, 24, 25, 26, 29, 30, 31, 32, 33, 34, 35, 36, 37, 38, 39, 40, 41, 42, 43] f f') := by
  refine CF.of (by decide +kernel) (Nat.le_of_ble_eq_true rfl) fun X hX hE => ?_
  have hX : Ok E X "DeltaFerry" "step" cd_Df_step 3 (some (.int)) (rl 6) := hX
  refine G_cast (lv' := [(0, .ref (eA E 0))]) ?_ rfl rfl rfl rfl
  have hct0 : 0 ≤ ct * bl := Int.mul_nonneg hbl.2.1 (by omega)
  have hVp := plV_sc (W := W) (F := Fs) (L := L) (g := g1) (w := wi) (P := P) (by omega) hbl.1 hbl.2.1 hbl.2.2.2 hc1.1
  have hWp := plV_W hVp hc1.2
  refine G_aload_n hX 0 rfl rfl d_Df_step_0 ?_
  refine F_get hX fg_Df_71 d_Df_step_1 0 (by decide) hF.1 rfl ?_
  refine G_if_ne_z hX (tgt := 21) d_Df_step_4 rfl (by omega) (fun c101 => ?_) (fun c102 => by exfalso; omega)
  refine G_aload_n hX 0 rfl rfl d_Df_step_21 ?_
  refine F_get hX fg_Df_71 d_Df_step_22 0 (by decide) hF.1 rfl ?_
  refine G_iconst hX d_Df_step_25 ?_
  refine G_icmp_ne_z hX (tgt := 83) d_Df_step_26 rfl (by omega) (fun c103 => by exfalso; omega) (fun c104 => ?_)
  refine G_aload_n hX 0 rfl rfl d_Df_step_29 ?_
  refine G_aload_n hX 0 rfl rfl d_Df_step_30 ?_
  refine F_get hX fg_Df_68 d_Df_step_31 0 (by decide) hF.1 rfl ?_
  obtain ⟨hSs, s0, wd0, y0, y1, y2, y3, hSd, hSv⟩ := hSg
  obtain ⟨s5, wd5, x0, x1, x2, x3, hD5, hV5⟩ := hDg
  refine F_callV hX (st := []) (c_Df_scan E f bk wi 1 n1 n2 W Fs L 1 bl ct s0 wd0 x0 x1 x2 x3 g1 c1 wi P pm pw ps ⟨hF.1, hF.2⟩ hSs hSd hV5 hR1 hc1 hPl hPB hwi rfl hbl) cm_Df_scan im_Df_scan se_Df_scan rfl ml_Df_225 d_Df_step_34 (by decide) hF.1 rfl rfl (Nat.le_of_ble_eq_true rfl) (by decide) ?_
  rintro r9 f105 ⟨rfl, q1, q2, ⟨s1, wd1, z0, z1, z2, z3, q3, q4⟩, k9⟩
  refine G_cast (st' := [.int (zI (pC (scF W Fs L g1 bl ct c1 wi P)))]) ?_ rfl rfl rfl rfl
  refine G_istore_n hX (lv' := [(1, .int (zI (pC (scF W Fs L g1 bl ct c1 wi P)))), (0, .ref (eA E 0))]) rfl (by decide) rfl d_Df_step_37 ?_
  have hpc := hWp.1
  refine G_iload_n hX 0 rfl rfl d_Df_step_38 ?_
  refine G_if_lt_z hX (tgt := 48) d_Df_step_39 rfl (by omega) (fun c108 => by exfalso; omega) (fun c109 => ?_)
  refine G_aload_n hX 1 rfl rfl d_Df_step_42 ?_
  refine G_iconst hX d_Df_step_43 ?_
  have h110 : f105 0 = ob 11 [.ref (eA E 1), .ref (eA E 10), .ref (eA E 13), .ref (eA E 14), .ref (eA E 22), .ref (eA E 27), .ref (eA E 29), .ref (eA E 44), .int (zI bk), .int (zI wi), .int (zI 1), .long n1, .long n2] := (k9 0 (by decide)).trans hF.1
  obtain ⟨nx, go, co, u1, u2, u3⟩ := (t_hWt k9 (by decide) hWt)
  refine F_callV hX (st := []) (c_Df_encode E f105 bk wi 1 n1 n2 (scF W Fs L g1 bl ct c1 wi P) 1 wi (ct * bl) g1 g2 go c1 c2 co nx 1 ⟨h110, ((k9 1 (by decide)).trans hF.2)⟩ q1 rfl q2.2.2.2 (t_hR1 k9 (by decide) hR1) hB1 (t_hR2 k9 (by decide) hR2) u1 u2 u3 hWp hwi hc1 ⟨hct0, hbl.2.2.2⟩ hc2 (by decide)) cm_Df_encode im_Df_encode se_Df_encode rfl ml_Df_228 d_Df_step_44 (by decide) h110 rfl rfl (Nat.le_of_ble_eq_true rfl) (by decide) ?_
  rintro r9 f111 ⟨h8, ⟨go1, co1, nx1, v1, v2, v3⟩, k8⟩
  rw [if_pos hlg] at h8
  obtain ⟨rfl, q5⟩ := h8
  refine G_cast (st' := [.int (zI (-4))]) ?_ rfl rfl rfl rfl
  refine G_istore_n hX (lv' := [(1, .int (zI (-4))), (0, .ref (eA E 0))]) rfl (by decide) rfl d_Df_step_47 ?_
  refine G_aload_n hX 1 rfl rfl d_Df_step_48 ?_
  refine G_aload_n hX 1 rfl rfl d_Df_step_49 ?_
  refine G_iconst hX d_Df_step_50 ?_
  refine G_iconst hX d_Df_step_51 ?_
  have h114 : f111 0 = ob 11 [.ref (eA E 1), .ref (eA E 10), .ref (eA E 13), .ref (eA E 14), .ref (eA E 22), .ref (eA E 27), .ref (eA E 29), .ref (eA E 44), .int (zI bk), .int (zI wi), .int (zI 1), .long n1, .long n2] := (k8 0 (by decide)).trans h110
  obtain ⟨s6, wd6, x60, x61, x62, x63, hD6, hV6⟩ := (show gDg E f111 from (t_hDg k8 (by decide) ⟨s5, wd5, z0, z1, z2, z3, ⟨(k9 10 (by decide)).trans hD5.1, (k9 11 (by decide)).trans hD5.2.1, (k9 12 (by decide)).trans hD5.2.2⟩, q4⟩))
  refine F_callV hX (st := [.ref (eA E 0)]) (c_Df_digest_1 E f111 bk wi 1 n1 n2 g1 c1 s6 wd6 0 ⟨h114, ((k8 1 (by decide)).trans ((k9 1 (by decide)).trans hF.2))⟩ (t_hR1 k8 (by decide) (t_hR1 k9 (by decide) hR1)) hc1 hD6 (by omega)) cm_Df_digest im_Df_digest se_Df_digest rfl ml_Df_232 d_Df_step_52 (by decide) h114 rfl rfl (Nat.le_of_ble_eq_true rfl) (by decide) ?_
  rintro r9 f115 ⟨rfl, ⟨s69, wd69, hd6⟩, kd6⟩
  refine G_cast (st' := [.long (if (0 : Int) = 0 then dgA g1 0 c1 else dgB g1 0 c1), .ref (eA E 0)]) ?_ rfl rfl rfl rfl
  refine G_topl (show (if (0 : Int) = 0 then dgA g1 0 c1 else dgB g1 0 c1) = (dgA g1 0 c1) from if_pos rfl) ?_
  have h118 : f115 0 = ob 11 [.ref (eA E 1), .ref (eA E 10), .ref (eA E 13), .ref (eA E 14), .ref (eA E 22), .ref (eA E 27), .ref (eA E 29), .ref (eA E 44), .int (zI bk), .int (zI wi), .int (zI 1), .long n1, .long n2] := (kd6 0 (by decide)).trans h114
  refine F_put hX fg_Df_236 fp_Df_11 d_Df_step_55 0 (fs' := [.ref (eA E 1), .ref (eA E 10), .ref (eA E 13), .ref (eA E 14), .ref (eA E 22), .ref (eA E 27), .ref (eA E 29), .ref (eA E 44), .int (zI bk), .int (zI wi), .int (zI 1), .long (dgA g1 0 c1), .long n2]) (by decide) h118 rfl rfl (Nat.le_of_ble_eq_true rfl) rfl (fun f119 h120 k121 => ?_)
  refine G_aload_n hX 1 rfl rfl d_Df_step_58 ?_
  refine G_aload_n hX 1 rfl rfl d_Df_step_59 ?_
  refine G_iconst hX d_Df_step_60 ?_
  refine G_iconst hX d_Df_step_61 ?_
  obtain ⟨s7, wd7, x70, x71, x72, x73, hD7, hV7⟩ := (show gDg E f119 from (t_hDg k121 (by decide) ⟨s69, wd69, x60, x61, x62, x63, hd6, (kd6 13 (by decide)).trans hV6⟩))
  refine F_callV hX (st := [.ref (eA E 0)]) (c_Df_digest_1 E f119 bk wi 1 (dgA g1 0 c1) n2 g1 c1 s7 wd7 1 ⟨h120, ((k121 1 (by decide)).trans ((kd6 1 (by decide)).trans ((k8 1 (by decide)).trans ((k9 1 (by decide)).trans hF.2))))⟩ (t_hR1 k121 (by decide) (t_hR1 kd6 (by decide) (t_hR1 k8 (by decide) (t_hR1 k9 (by decide) hR1)))) hc1 hD7 (by omega)) cm_Df_digest im_Df_digest se_Df_digest rfl ml_Df_232 d_Df_step_62 (by decide) h120 rfl rfl (Nat.le_of_ble_eq_true rfl) (by decide) ?_
  rintro r9 f122 ⟨rfl, ⟨s79, wd79, hd7⟩, kd7⟩
  refine G_cast (st' := [.long (if (1 : Int) = 0 then dgA g1 0 c1 else dgB g1 0 c1), .ref (eA E 0)]) ?_ rfl rfl rfl rfl
  refine G_topl (show (if (1 : Int) = 0 then dgA g1 0 c1 else dgB g1 0 c1) = (dgB g1 0 c1) from if_neg (by decide)) ?_
  have h125 : f122 0 = ob 11 [.ref (eA E 1), .ref (eA E 10), .ref (eA E 13), .ref (eA E 14), .ref (eA E 22), .ref (eA E 27), .ref (eA E 29), .ref (eA E 44), .int (zI bk), .int (zI wi), .int (zI 1), .long (dgA g1 0 c1), .long n2] := (kd7 0 (by decide)).trans h120
  refine F_put hX fg_Df_240 fp_Df_12 d_Df_step_65 0 (fs' := [.ref (eA E 1), .ref (eA E 10), .ref (eA E 13), .ref (eA E 14), .ref (eA E 22), .ref (eA E 27), .ref (eA E 29), .ref (eA E 44), .int (zI bk), .int (zI wi), .int (zI 1), .long (dgA g1 0 c1), .long (dgB g1 0 c1)]) (by decide) h125 rfl rfl (Nat.le_of_ble_eq_true rfl) rfl (fun f126 h127 k128 => ?_)
  refine G_aload_n hX 1 rfl rfl d_Df_step_68 ?_
  refine G_iload_n hX 0 rfl rfl d_Df_step_69 ?_
  refine G_if_ge_z hX (tgt := 77) d_Df_step_70 rfl (by omega) (fun c129 => by exfalso; omega) (fun c130 => ?_)
  refine G_iconst hX d_Df_step_73 ?_
  refine G_goto hX (tgt := 78) d_Df_step_74 rfl ?_
  refine F_put hX fg_Df_71 fp_Df_10 d_Df_step_78 0 (fs' := [.ref (eA E 1), .ref (eA E 10), .ref (eA E 13), .ref (eA E 14), .ref (eA E 22), .ref (eA E 27), .ref (eA E 29), .ref (eA E 44), .int (zI bk), .int (zI wi), .int (zI 0), .long (dgA g1 0 c1), .long (dgB g1 0 c1)]) (by decide) h127 rfl rfl (Nat.le_of_ble_eq_true rfl) rfl (fun f131 h132 k133 => ?_)
  refine G_iload_n hX 0 rfl rfl d_Df_step_81 ?_
  exact F_iret hX hE d_Df_step_82 ⟨rfl, ⟨h132, ((k133 1 (by decide)).trans ((k128 1 (by decide)).trans ((kd7 1 (by decide)).trans ((k121 1 (by decide)).trans ((kd6 1 (by decide)).trans ((k8 1 (by decide)).trans ((k9 1 (by decide)).trans hF.2)))))))⟩, (t_hR2 k133 (by decide) (t_hR2 k128 (by decide) (t_hR2 kd7 (by decide) (t_hR2 k121 (by decide) (t_hR2 kd6 (by decide) q5))))), (t_hPl k133 (by decide) (t_hPl k128 (by decide) (t_hPl kd7 (by decide) (t_hPl k121 (by decide) (t_hPl kd6 (by decide) (t_hPl k8 (by decide) q1)))))), q2, (t_hSg k133 (by decide) (t_hSg k128 (by decide) (t_hSg kd7 (by decide) (t_hSg k121 (by decide) (t_hSg kd6 (by decide) (t_hSg k8 (by decide) ⟨⟨(k9 14 (by decide)).trans hSs.1, (k9 18 (by decide)).trans hSs.2.1, (k9 19 (by decide)).trans hSs.2.2.1, (k9 20 (by decide)).trans hSs.2.2.2⟩, s1, wd1, y0, y1, y2, y3, q3, (k9 21 (by decide)).trans hSv⟩)))))), (t_hDg k133 (by decide) (t_hDg k128 (by decide) ⟨s79, wd79, x70, x71, x72, x73, hd7, (kd7 13 (by decide)).trans hV7⟩)), (t_hWt k133 (by decide) (t_hWt k128 (by decide) (t_hWt kd7 (by decide) (t_hWt k121 (by decide) (t_hWt kd6 (by decide) ⟨nx1, go1, co1, v1, v2, v3⟩))))), (Fr.tr (Fr.tr (Fr.tr (Fr.tr (Fr.tr (Fr.tr (Fr.tr Fr.rf k9 (by decide)) k8 (by decide)) kd6 (by decide)) k121 (by decide)) kd7 (by decide)) k128 (by decide)) k133 (by decide))⟩
theorem c_Df_step2 (E : EV) (f : Nat → va_E) (bk wi : Int) (n1 n2 : Int64) (g0 g2 g3 st mR mT : Int → Int) (c0 c2 c3 cR cT : Int) (hF : isDf E f bk wi 2 n1 n2) (hDg : gDg E f) (hR0 : isR E f 2 3 300 g0 c0) (hR2 : isR E f 6 7 700 g2 c2) (hR3 : isR E f 8 9 300 g3 c3) (i1 : rdS E f) (i2 : cuS E f 51) (i3 : cuS E f 52) (i4 : wdS E f) (i5 : isR E f 45 46 300 mR cR) (i6 : isB mR) (j1 : isR E f 47 48 1536 mT cT) (j2 : isB mT) (i9 : isR E f 49 50 1536 st 1536) (hsB : isB st) (hs3 : ∀ k, 0 ≤ k → k < 512 → st k ≤ 3) (hB0 : isB g0) (hB2 : isB g2) (hc : 0 ≤ c2 ∧ c2 ≤ 700 ∧ 0 ≤ c0 ∧ c0 ≤ 300 ∧ 0 ≤ c3 ∧ c3 ≤ 300 ∧ 0 ≤ cR ∧ cR ≤ 300 ∧ 0 ≤ cT ∧ cT ≤ 1536) (hok : (dcF g2 c2 st g0 c0 mR mT).1 = 0) : CF yn_Df_step cd_Df_step 3 (some (.int)) 6 E [.ref (eA E 0)] f (fun r f' => r = some (.int (zI (if dgA (cz (dcF g2 c2 st g0 c0 mR mT).2.1 g3 0 0 (dcF g2 c2 st g0 c0 mR mT).2.2) 0 (dcF g2 c2 st g0 c0 mR mT).2.2 = n1 ∧ dgB (cz (dcF g2 c2 st g0 c0 mR mT).2.1 g3 0 0 (dcF g2 c2 st g0 c0 mR mT).2.2) 0 (dcF g2 c2 st g0 c0 mR mT).2.2 = n2 then (dcF g2 c2 st g0 c0 mR mT).2.2 else -7))) ∧ isDf E f' bk wi 0 n1 n2 ∧ isR E f' 8 9 300 (cz (dcF g2 c2 st g0 c0 mR mT).2.1 g3 0 0 (dcF g2 c2 st g0 c0 mR mT).2.2) (dcF g2 c2 st g0 c0 mR mT).2.2 ∧ isB (dcF g2 c2 st g0 c0 mR mT).2.1 ∧ (0 ≤ (dcF g2 c2 st g0 c0 mR mT).2.2 ∧ (dcF g2 c2 st g0 c0 mR mT).2.2 ≤ 300) ∧ gDg E f' ∧ rdI E f' st ∧ Fr [0, 8, 9, 11, 12, 44, 45, 46, 47, 48, 51, 52, 53, 54, 55, 56, 57, 58, 59, 60] f f') := by
  refine CF.of (by decide +kernel) (Nat.le_of_ble_eq_true rfl) fun X hX hE => ?_
  have hX : Ok E X "DeltaFerry" "step" cd_Df_step 3 (some (.int)) (rl 6) := hX
  refine G_cast (lv' := [(0, .ref (eA E 0))]) ?_ rfl rfl rfl rfl
  refine G_aload_n hX 0 rfl rfl d_Df_step_0 ?_
  refine F_get hX fg_Df_71 d_Df_step_1 0 (by decide) hF.1 rfl ?_
  refine G_if_ne_z hX (tgt := 21) d_Df_step_4 rfl (by omega) (fun c101 => ?_) (fun c102 => by exfalso; omega)
  refine G_aload_n hX 0 rfl rfl d_Df_step_21 ?_
  refine F_get hX fg_Df_71 d_Df_step_22 0 (by decide) hF.1 rfl ?_
  refine G_iconst hX d_Df_step_25 ?_
  refine G_icmp_ne_z hX (tgt := 83) d_Df_step_26 rfl (by omega) (fun c103 => ?_) (fun c104 => by exfalso; omega)
  refine G_aload_n hX 0 rfl rfl d_Df_step_83 ?_
  refine G_iconst hX d_Df_step_84 ?_
  refine F_put hX fg_Df_71 fp_Df_10 d_Df_step_85 0 (fs' := [.ref (eA E 1), .ref (eA E 10), .ref (eA E 13), .ref (eA E 14), .ref (eA E 22), .ref (eA E 27), .ref (eA E 29), .ref (eA E 44), .int (zI bk), .int (zI wi), .int (zI 0), .long n1, .long n2]) (by decide) hF.1 rfl rfl (Nat.le_of_ble_eq_true rfl) rfl (fun f105 h106 k107 => ?_)
  refine G_aload_n hX 0 rfl rfl d_Df_step_88 ?_
  have hRI : rdI E f105 st := t_hRd k107 (by decide) ⟨i1, i2, i3, i4, ⟨mR, cR, i5, i6, by omega, by omega⟩, ⟨mT, cT, j1, j2, by omega, by omega⟩, i9⟩
  refine F_callV hX (st := []) (c_Df_decode E f105 bk wi 0 n1 n2 g2 g0 st mR mT g3 c2 c0 cR cT c3 ⟨h106, ((k107 1 (by decide)).trans hF.2)⟩ hRI.1 hRI.2.1 hRI.2.2.1 hRI.2.2.2.1 ⟨((k107 45 (by decide)).trans i5.1), ((k107 46 (by decide)).trans i5.2)⟩ i6 ⟨((k107 47 (by decide)).trans j1.1), ((k107 48 (by decide)).trans j1.2)⟩ j2 hRI.2.2.2.2.2.2 hsB hs3 (t_hR0 k107 (by decide) hR0) hB0 (t_hR2 k107 (by decide) hR2) hB2 (t_hR3 k107 (by decide) hR3) hc) cm_Df_decode im_Df_decode se_Df_decode rfl ml_Df_243 d_Df_step_89 (by decide) h106 rfl rfl (Nat.le_of_ble_eq_true rfl) (by decide) ?_
  rintro r9 f108 ⟨h8, q8, k8⟩
  obtain ⟨rfl, q1, q2, q3⟩ : r9 = some (.int (zI (dcF g2 c2 st g0 c0 mR mT).2.2)) ∧ isR E f108 8 9 300 (cz (dcF g2 c2 st g0 c0 mR mT).2.1 g3 0 0 (dcF g2 c2 st g0 c0 mR mT).2.2) (dcF g2 c2 st g0 c0 mR mT).2.2 ∧ isB (dcF g2 c2 st g0 c0 mR mT).2.1 ∧ (0 ≤ (dcF g2 c2 st g0 c0 mR mT).2.2 ∧ (dcF g2 c2 st g0 c0 mR mT).2.2 ≤ 300) := by rcases h8 with h9 | h9; exact ⟨h9.2.1, h9.2.2.1, h9.2.2.2.1, h9.2.2.2.2⟩; exact absurd hok h9.1
  refine G_cast (st' := [.int (zI ((dcF g2 c2 st g0 c0 mR mT).2.2))]) ?_ rfl rfl rfl rfl
  refine G_istore_n hX (lv' := [(1, .int (zI ((dcF g2 c2 st g0 c0 mR mT).2.2))), (0, .ref (eA E 0))]) rfl (by decide) rfl d_Df_step_92 ?_
  refine G_aload_n hX 1 rfl rfl d_Df_step_93 ?_
  refine G_iconst hX d_Df_step_94 ?_
  refine G_iconst hX d_Df_step_95 ?_
  have h111 : f108 0 = ob 11 [.ref (eA E 1), .ref (eA E 10), .ref (eA E 13), .ref (eA E 14), .ref (eA E 22), .ref (eA E 27), .ref (eA E 29), .ref (eA E 44), .int (zI bk), .int (zI wi), .int (zI 0), .long n1, .long n2] := (k8 0 (by decide)).trans h106
  obtain ⟨s6, wd6, x60, x61, x62, x63, hD6, hV6⟩ := (show gDg E f108 from (t_hDg k8 (by decide) (t_hDg k107 (by decide) hDg)))
  refine F_callV hX (st := []) (c_Df_digest_3 E f108 bk wi 0 n1 n2 (cz (dcF g2 c2 st g0 c0 mR mT).2.1 g3 0 0 (dcF g2 c2 st g0 c0 mR mT).2.2) ((dcF g2 c2 st g0 c0 mR mT).2.2) s6 wd6 0 ⟨h111, ((k8 1 (by decide)).trans ((k107 1 (by decide)).trans hF.2))⟩ q1 q3 hD6 (by omega)) cm_Df_digest im_Df_digest se_Df_digest rfl ml_Df_232 d_Df_step_96 (by decide) h111 rfl rfl (Nat.le_of_ble_eq_true rfl) (by decide) ?_
  rintro r9 f112 ⟨rfl, ⟨s69, wd69, hd6⟩, kd6⟩
  refine G_cast (st' := [.long (if (0 : Int) = 0 then dgA (cz (dcF g2 c2 st g0 c0 mR mT).2.1 g3 0 0 (dcF g2 c2 st g0 c0 mR mT).2.2) 0 ((dcF g2 c2 st g0 c0 mR mT).2.2) else dgB (cz (dcF g2 c2 st g0 c0 mR mT).2.1 g3 0 0 (dcF g2 c2 st g0 c0 mR mT).2.2) 0 ((dcF g2 c2 st g0 c0 mR mT).2.2))]) ?_ rfl rfl rfl rfl
  refine G_topl (show (if (0 : Int) = 0 then dgA (cz (dcF g2 c2 st g0 c0 mR mT).2.1 g3 0 0 (dcF g2 c2 st g0 c0 mR mT).2.2) 0 ((dcF g2 c2 st g0 c0 mR mT).2.2) else dgB (cz (dcF g2 c2 st g0 c0 mR mT).2.1 g3 0 0 (dcF g2 c2 st g0 c0 mR mT).2.2) 0 ((dcF g2 c2 st g0 c0 mR mT).2.2)) = (dgA (cz (dcF g2 c2 st g0 c0 mR mT).2.1 g3 0 0 (dcF g2 c2 st g0 c0 mR mT).2.2) 0 ((dcF g2 c2 st g0 c0 mR mT).2.2)) from if_pos rfl) ?_
  refine G_aload_n hX 1 rfl rfl d_Df_step_99 ?_
  have h115 : f112 0 = ob 11 [.ref (eA E 1), .ref (eA E 10), .ref (eA E 13), .ref (eA E 14), .ref (eA E 22), .ref (eA E 27), .ref (eA E 29), .ref (eA E 44), .int (zI bk), .int (zI wi), .int (zI 0), .long n1, .long n2] := (kd6 0 (by decide)).trans h111
  refine F_get hX fg_Df_236 d_Df_step_100 0 (by decide) h115 rfl ?_
  refine G_lcmp hX d_Df_step_103 ?_
  refine G_if_ne hX (tgt := 125) d_Df_step_104 rfl (fun c116 => ?_) (fun c117 => ?_)
  · skip
    refine G_iconst hX d_Df_step_125 ?_
    refine G_istore_n hX (lv' := [(2, .int (zI 0)), (1, .int (zI ((dcF g2 c2 st g0 c0 mR mT).2.2))), (0, .ref (eA E 0))]) rfl (by decide) rfl d_Df_step_126 ?_
    refine G_iload_n hX 1 rfl rfl d_Df_step_127 ?_
    refine G_if_lt_z hX (tgt := 140) d_Df_step_128 rfl (by omega) (fun c118 => by exfalso; omega) (fun c119 => ?_)
    refine G_iload_n hX 0 rfl rfl d_Df_step_131 ?_
    refine G_if_ne_z hX (tgt := 140) d_Df_step_132 rfl (by omega) (fun c120 => by exfalso; omega) (fun c121 => ?_)
    refine G_bipush hX (by decide) d_Df_step_135 ?_
    refine G_goto hX (tgt := 141) d_Df_step_137 rfl ?_
    exact F_iret hX hE d_Df_step_141 ⟨by rw [if_neg (fun q => c116 ((lg_cmp_eq _ _).mpr q.1))], ⟨h115, ((kd6 1 (by decide)).trans ((k8 1 (by decide)).trans ((k107 1 (by decide)).trans hF.2)))⟩, (t_hR3 kd6 (by decide) q1), q2, q3, ⟨s69, wd69, x60, x61, x62, x63, hd6, (kd6 13 (by decide)).trans hV6⟩, (t_hRd kd6 (by decide) q8), (Fr.tr (Fr.tr (Fr.tr Fr.rf k107 (by decide)) k8 (by decide)) kd6 (by decide))⟩
  · skip
    refine G_aload_n hX 1 rfl rfl d_Df_step_107 ?_
    refine G_iconst hX d_Df_step_108 ?_
    refine G_iconst hX d_Df_step_109 ?_
    obtain ⟨s7, wd7, x70, x71, x72, x73, hD7, hV7⟩ := (show gDg E f112 from ⟨s69, wd69, x60, x61, x62, x63, hd6, (kd6 13 (by decide)).trans hV6⟩)
    refine F_callV hX (st := []) (c_Df_digest_3 E f112 bk wi 0 n1 n2 (cz (dcF g2 c2 st g0 c0 mR mT).2.1 g3 0 0 (dcF g2 c2 st g0 c0 mR mT).2.2) ((dcF g2 c2 st g0 c0 mR mT).2.2) s7 wd7 1 ⟨h115, ((kd6 1 (by decide)).trans ((k8 1 (by decide)).trans ((k107 1 (by decide)).trans hF.2)))⟩ (t_hR3 kd6 (by decide) q1) q3 hD7 (by omega)) cm_Df_digest im_Df_digest se_Df_digest rfl ml_Df_232 d_Df_step_110 (by decide) h115 rfl rfl (Nat.le_of_ble_eq_true rfl) (by decide) ?_
    rintro r9 f122 ⟨rfl, ⟨s79, wd79, hd7⟩, kd7⟩
    refine G_cast (st' := [.long (if (1 : Int) = 0 then dgA (cz (dcF g2 c2 st g0 c0 mR mT).2.1 g3 0 0 (dcF g2 c2 st g0 c0 mR mT).2.2) 0 ((dcF g2 c2 st g0 c0 mR mT).2.2) else dgB (cz (dcF g2 c2 st g0 c0 mR mT).2.1 g3 0 0 (dcF g2 c2 st g0 c0 mR mT).2.2) 0 ((dcF g2 c2 st g0 c0 mR mT).2.2))]) ?_ rfl rfl rfl rfl
    refine G_topl (show (if (1 : Int) = 0 then dgA (cz (dcF g2 c2 st g0 c0 mR mT).2.1 g3 0 0 (dcF g2 c2 st g0 c0 mR mT).2.2) 0 ((dcF g2 c2 st g0 c0 mR mT).2.2) else dgB (cz (dcF g2 c2 st g0 c0 mR mT).2.1 g3 0 0 (dcF g2 c2 st g0 c0 mR mT).2.2) 0 ((dcF g2 c2 st g0 c0 mR mT).2.2)) = (dgB (cz (dcF g2 c2 st g0 c0 mR mT).2.1 g3 0 0 (dcF g2 c2 st g0 c0 mR mT).2.2) 0 ((dcF g2 c2 st g0 c0 mR mT).2.2)) from if_neg (by decide)) ?_
    refine G_aload_n hX 1 rfl rfl d_Df_step_113 ?_
    have h125 : f122 0 = ob 11 [.ref (eA E 1), .ref (eA E 10), .ref (eA E 13), .ref (eA E 14), .ref (eA E 22), .ref (eA E 27), .ref (eA E 29), .ref (eA E 44), .int (zI bk), .int (zI wi), .int (zI 0), .long n1, .long n2] := (kd7 0 (by decide)).trans h115
    refine F_get hX fg_Df_240 d_Df_step_114 0 (by decide) h125 rfl ?_
    refine G_lcmp hX d_Df_step_117 ?_
    refine G_if_ne hX (tgt := 125) d_Df_step_118 rfl (fun c126 => ?_) (fun c127 => ?_)
    · skip
      refine G_iconst hX d_Df_step_125 ?_
      refine G_istore_n hX (lv' := [(2, .int (zI 0)), (1, .int (zI ((dcF g2 c2 st g0 c0 mR mT).2.2))), (0, .ref (eA E 0))]) rfl (by decide) rfl d_Df_step_126 ?_
      refine G_iload_n hX 1 rfl rfl d_Df_step_127 ?_
      refine G_if_lt_z hX (tgt := 140) d_Df_step_128 rfl (by omega) (fun c128 => by exfalso; omega) (fun c129 => ?_)
      refine G_iload_n hX 0 rfl rfl d_Df_step_131 ?_
      refine G_if_ne_z hX (tgt := 140) d_Df_step_132 rfl (by omega) (fun c130 => by exfalso; omega) (fun c131 => ?_)
      refine G_bipush hX (by decide) d_Df_step_135 ?_
      refine G_goto hX (tgt := 141) d_Df_step_137 rfl ?_
      exact F_iret hX hE d_Df_step_141 ⟨by rw [if_neg (fun q => c126 ((lg_cmp_eq _ _).mpr q.2))], ⟨h125, ((kd7 1 (by decide)).trans ((kd6 1 (by decide)).trans ((k8 1 (by decide)).trans ((k107 1 (by decide)).trans hF.2))))⟩, (t_hR3 kd7 (by decide) (t_hR3 kd6 (by decide) q1)), q2, q3, ⟨s79, wd79, x70, x71, x72, x73, hd7, (kd7 13 (by decide)).trans hV7⟩, (t_hRd kd7 (by decide) (t_hRd kd6 (by decide) q8)), (Fr.tr (Fr.tr (Fr.tr (Fr.tr Fr.rf k107 (by decide)) k8 (by decide)) kd6 (by decide)) kd7 (by decide))⟩
    · skip
      refine G_iconst hX d_Df_step_121 ?_
      refine G_goto hX (tgt := 126) d_Df_step_122 rfl ?_
      refine G_istore_n hX (lv' := [(2, .int (zI 1)), (1, .int (zI ((dcF g2 c2 st g0 c0 mR mT).2.2))), (0, .ref (eA E 0))]) rfl (by decide) rfl d_Df_step_126 ?_
      refine G_iload_n hX 1 rfl rfl d_Df_step_127 ?_
      refine G_if_lt_z hX (tgt := 140) d_Df_step_128 rfl (by omega) (fun c132 => by exfalso; omega) (fun c133 => ?_)
      refine G_iload_n hX 0 rfl rfl d_Df_step_131 ?_
      refine G_if_ne_z hX (tgt := 140) d_Df_step_132 rfl (by omega) (fun c134 => ?_) (fun c135 => by exfalso; omega)
      refine G_iload_n hX 1 rfl rfl d_Df_step_140 ?_
      exact F_iret hX hE d_Df_step_141 ⟨by rw [if_pos ⟨(lg_cmp_eq _ _).mp c117, (lg_cmp_eq _ _).mp c127⟩], ⟨h125, ((kd7 1 (by decide)).trans ((kd6 1 (by decide)).trans ((k8 1 (by decide)).trans ((k107 1 (by decide)).trans hF.2))))⟩, (t_hR3 kd7 (by decide) (t_hR3 kd6 (by decide) q1)), q2, q3, ⟨s79, wd79, x70, x71, x72, x73, hd7, (kd7 13 (by decide)).trans hV7⟩, (t_hRd kd7 (by decide) (t_hRd kd6 (by decide) q8)), (Fr.tr (Fr.tr (Fr.tr (Fr.tr Fr.rf k107 (by decide)) k8 (by decide)) kd6 (by decide)) kd7 (by decide))⟩
theorem c_Df_step2_no (E : EV) (f : Nat → va_E) (bk wi : Int) (n1 n2 : Int64) (g0 g2 g3 st mR mT : Int → Int) (c0 c2 c3 cR cT : Int) (hF : isDf E f bk wi 2 n1 n2) (hDg : gDg E f) (hR0 : isR E f 2 3 300 g0 c0) (hR2 : isR E f 6 7 700 g2 c2) (hR3 : isR E f 8 9 300 g3 c3) (i1 : rdS E f) (i2 : cuS E f 51) (i3 : cuS E f 52) (i4 : wdS E f) (i5 : isR E f 45 46 300 mR cR) (i6 : isB mR) (j1 : isR E f 47 48 1536 mT cT) (j2 : isB mT) (i9 : isR E f 49 50 1536 st 1536) (hsB : isB st) (hs3 : ∀ k, 0 ≤ k → k < 512 → st k ≤ 3) (hB0 : isB g0) (hB2 : isB g2) (hc : 0 ≤ c2 ∧ c2 ≤ 700 ∧ 0 ≤ c0 ∧ c0 ≤ 300 ∧ 0 ≤ c3 ∧ c3 ≤ 300 ∧ 0 ≤ cR ∧ cR ≤ 300 ∧ 0 ≤ cT ∧ cT ≤ 1536) (hok : ¬ (dcF g2 c2 st g0 c0 mR mT).1 = 0) : CF yn_Df_step cd_Df_step 3 (some (.int)) 6 E [.ref (eA E 0)] f (fun r f' => r = some (.int (zI ((dcF g2 c2 st g0 c0 mR mT).1))) ∧ isDf E f' bk wi 0 n1 n2 ∧ isR E f' 8 9 300 g3 c3 ∧ (dcF g2 c2 st g0 c0 mR mT).1 ≤ 0 ∧ gDg E f' ∧ rdI E f' st ∧ Fr [0, 8, 9, 11, 12, 44, 45, 46, 47, 48, 51, 52, 53, 54, 55, 56, 57, 58, 59, 60] f f') := by
  refine CF.of (by decide +kernel) (Nat.le_of_ble_eq_true rfl) fun X hX hE => ?_
  have hX : Ok E X "DeltaFerry" "step" cd_Df_step 3 (some (.int)) (rl 6) := hX
  refine G_cast (lv' := [(0, .ref (eA E 0))]) ?_ rfl rfl rfl rfl
  have hneg : (dcF g2 c2 st g0 c0 mR mT).1 < 0 ∨ 0 ≤ (dcF g2 c2 st g0 c0 mR mT).1 := by omega
  refine G_aload_n hX 0 rfl rfl d_Df_step_0 ?_
  refine F_get hX fg_Df_71 d_Df_step_1 0 (by decide) hF.1 rfl ?_
  refine G_if_ne_z hX (tgt := 21) d_Df_step_4 rfl (by omega) (fun c101 => ?_) (fun c102 => by exfalso; omega)
  refine G_aload_n hX 0 rfl rfl d_Df_step_21 ?_
  refine F_get hX fg_Df_71 d_Df_step_22 0 (by decide) hF.1 rfl ?_
  refine G_iconst hX d_Df_step_25 ?_
  refine G_icmp_ne_z hX (tgt := 83) d_Df_step_26 rfl (by omega) (fun c103 => ?_) (fun c104 => by exfalso; omega)
  refine G_aload_n hX 0 rfl rfl d_Df_step_83 ?_
  refine G_iconst hX d_Df_step_84 ?_
  refine F_put hX fg_Df_71 fp_Df_10 d_Df_step_85 0 (fs' := [.ref (eA E 1), .ref (eA E 10), .ref (eA E 13), .ref (eA E 14), .ref (eA E 22), .ref (eA E 27), .ref (eA E 29), .ref (eA E 44), .int (zI bk), .int (zI wi), .int (zI 0), .long n1, .long n2]) (by decide) hF.1 rfl rfl (Nat.le_of_ble_eq_true rfl) rfl (fun f105 h106 k107 => ?_)
  refine G_aload_n hX 0 rfl rfl d_Df_step_88 ?_
  have hRI : rdI E f105 st := t_hRd k107 (by decide) ⟨i1, i2, i3, i4, ⟨mR, cR, i5, i6, by omega, by omega⟩, ⟨mT, cT, j1, j2, by omega, by omega⟩, i9⟩
  refine F_callV hX (st := []) (c_Df_decode E f105 bk wi 0 n1 n2 g2 g0 st mR mT g3 c2 c0 cR cT c3 ⟨h106, ((k107 1 (by decide)).trans hF.2)⟩ hRI.1 hRI.2.1 hRI.2.2.1 hRI.2.2.2.1 ⟨((k107 45 (by decide)).trans i5.1), ((k107 46 (by decide)).trans i5.2)⟩ i6 ⟨((k107 47 (by decide)).trans j1.1), ((k107 48 (by decide)).trans j1.2)⟩ j2 hRI.2.2.2.2.2.2 hsB hs3 (t_hR0 k107 (by decide) hR0) hB0 (t_hR2 k107 (by decide) hR2) hB2 (t_hR3 k107 (by decide) hR3) hc) cm_Df_decode im_Df_decode se_Df_decode rfl ml_Df_243 d_Df_step_89 (by decide) h106 rfl rfl (Nat.le_of_ble_eq_true rfl) (by decide) ?_
  rintro r9 f108 ⟨h8, q8, k8⟩
  obtain ⟨rfl, q1, q3⟩ : r9 = some (.int (zI (dcF g2 c2 st g0 c0 mR mT).1)) ∧ isR E f108 8 9 300 g3 c3 ∧ (-6 ≤ (dcF g2 c2 st g0 c0 mR mT).1 ∧ (dcF g2 c2 st g0 c0 mR mT).1 ≤ 0) := by rcases h8 with h9 | h9; exact absurd h9.1 hok; exact ⟨h9.2.2.1, h9.2.2.2, h9.2.1⟩
  refine G_cast (st' := [.int (zI ((dcF g2 c2 st g0 c0 mR mT).1))]) ?_ rfl rfl rfl rfl
  refine G_istore_n hX (lv' := [(1, .int (zI ((dcF g2 c2 st g0 c0 mR mT).1))), (0, .ref (eA E 0))]) rfl (by decide) rfl d_Df_step_92 ?_
  refine G_aload_n hX 1 rfl rfl d_Df_step_93 ?_
  refine G_iconst hX d_Df_step_94 ?_
  refine G_iconst hX d_Df_step_95 ?_
  have h111 : f108 0 = ob 11 [.ref (eA E 1), .ref (eA E 10), .ref (eA E 13), .ref (eA E 14), .ref (eA E 22), .ref (eA E 27), .ref (eA E 29), .ref (eA E 44), .int (zI bk), .int (zI wi), .int (zI 0), .long n1, .long n2] := (k8 0 (by decide)).trans h106
  obtain ⟨s6, wd6, x60, x61, x62, x63, hD6, hV6⟩ := (show gDg E f108 from (t_hDg k8 (by decide) (t_hDg k107 (by decide) hDg)))
  refine F_callV hX (st := []) (c_Df_digest_3 E f108 bk wi 0 n1 n2 g3 c3 s6 wd6 0 ⟨h111, ((k8 1 (by decide)).trans ((k107 1 (by decide)).trans hF.2))⟩ q1 (show 0 ≤ c3 ∧ c3 ≤ 300 by omega) hD6 (by omega)) cm_Df_digest im_Df_digest se_Df_digest rfl ml_Df_232 d_Df_step_96 (by decide) h111 rfl rfl (Nat.le_of_ble_eq_true rfl) (by decide) ?_
  rintro r9 f112 ⟨rfl, ⟨s69, wd69, hd6⟩, kd6⟩
  refine G_cast (st' := [.long (if (0 : Int) = 0 then dgA g3 0 c3 else dgB g3 0 c3)]) ?_ rfl rfl rfl rfl
  refine G_topl (show (if (0 : Int) = 0 then dgA g3 0 c3 else dgB g3 0 c3) = (dgA g3 0 c3) from if_pos rfl) ?_
  refine G_aload_n hX 1 rfl rfl d_Df_step_99 ?_
  have h115 : f112 0 = ob 11 [.ref (eA E 1), .ref (eA E 10), .ref (eA E 13), .ref (eA E 14), .ref (eA E 22), .ref (eA E 27), .ref (eA E 29), .ref (eA E 44), .int (zI bk), .int (zI wi), .int (zI 0), .long n1, .long n2] := (kd6 0 (by decide)).trans h111
  refine F_get hX fg_Df_236 d_Df_step_100 0 (by decide) h115 rfl ?_
  refine G_lcmp hX d_Df_step_103 ?_
  refine G_if_ne hX (tgt := 125) d_Df_step_104 rfl (fun c116 => ?_) (fun c117 => ?_)
  · skip
    refine G_iconst hX d_Df_step_125 ?_
    refine G_istore_n hX (lv' := [(2, .int (zI 0)), (1, .int (zI ((dcF g2 c2 st g0 c0 mR mT).1))), (0, .ref (eA E 0))]) rfl (by decide) rfl d_Df_step_126 ?_
    refine G_iload_n hX 1 rfl rfl d_Df_step_127 ?_
    refine G_if_lt_z hX (tgt := 140) d_Df_step_128 rfl (by omega) (fun c118 => ?_) (fun c119 => by exfalso; omega)
    refine G_iload_n hX 1 rfl rfl d_Df_step_140 ?_
    exact F_iret hX hE d_Df_step_141 ⟨rfl, ⟨h115, ((kd6 1 (by decide)).trans ((k8 1 (by decide)).trans ((k107 1 (by decide)).trans hF.2)))⟩, (t_hR3 kd6 (by decide) q1), q3.2, ⟨s69, wd69, x60, x61, x62, x63, hd6, (kd6 13 (by decide)).trans hV6⟩, (t_hRd kd6 (by decide) q8), (Fr.tr (Fr.tr (Fr.tr Fr.rf k107 (by decide)) k8 (by decide)) kd6 (by decide))⟩
  · skip
    refine G_aload_n hX 1 rfl rfl d_Df_step_107 ?_
    refine G_iconst hX d_Df_step_108 ?_
    refine G_iconst hX d_Df_step_109 ?_
    obtain ⟨s7, wd7, x70, x71, x72, x73, hD7, hV7⟩ := (show gDg E f112 from ⟨s69, wd69, x60, x61, x62, x63, hd6, (kd6 13 (by decide)).trans hV6⟩)
    refine F_callV hX (st := []) (c_Df_digest_3 E f112 bk wi 0 n1 n2 g3 c3 s7 wd7 1 ⟨h115, ((kd6 1 (by decide)).trans ((k8 1 (by decide)).trans ((k107 1 (by decide)).trans hF.2)))⟩ (t_hR3 kd6 (by decide) q1) (show 0 ≤ c3 ∧ c3 ≤ 300 by omega) hD7 (by omega)) cm_Df_digest im_Df_digest se_Df_digest rfl ml_Df_232 d_Df_step_110 (by decide) h115 rfl rfl (Nat.le_of_ble_eq_true rfl) (by decide) ?_
    rintro r9 f120 ⟨rfl, ⟨s79, wd79, hd7⟩, kd7⟩
    refine G_cast (st' := [.long (if (1 : Int) = 0 then dgA g3 0 c3 else dgB g3 0 c3)]) ?_ rfl rfl rfl rfl
    refine G_topl (show (if (1 : Int) = 0 then dgA g3 0 c3 else dgB g3 0 c3) = (dgB g3 0 c3) from if_neg (by decide)) ?_
    refine G_aload_n hX 1 rfl rfl d_Df_step_113 ?_
    have h123 : f120 0 = ob 11 [.ref (eA E 1), .ref (eA E 10), .ref (eA E 13), .ref (eA E 14), .ref (eA E 22), .ref (eA E 27), .ref (eA E 29), .ref (eA E 44), .int (zI bk), .int (zI wi), .int (zI 0), .long n1, .long n2] := (kd7 0 (by decide)).trans h115
    refine F_get hX fg_Df_240 d_Df_step_114 0 (by decide) h123 rfl ?_
    refine G_lcmp hX d_Df_step_117 ?_
    refine G_if_ne hX (tgt := 125) d_Df_step_118 rfl (fun c124 => ?_) (fun c125 => ?_)
    · skip
      refine G_iconst hX d_Df_step_125 ?_
      refine G_istore_n hX (lv' := [(2, .int (zI 0)), (1, .int (zI ((dcF g2 c2 st g0 c0 mR mT).1))), (0, .ref (eA E 0))]) rfl (by decide) rfl d_Df_step_126 ?_
      refine G_iload_n hX 1 rfl rfl d_Df_step_127 ?_
      refine G_if_lt_z hX (tgt := 140) d_Df_step_128 rfl (by omega) (fun c126 => ?_) (fun c127 => by exfalso; omega)
      refine G_iload_n hX 1 rfl rfl d_Df_step_140 ?_
      exact F_iret hX hE d_Df_step_141 ⟨rfl, ⟨h123, ((kd7 1 (by decide)).trans ((kd6 1 (by decide)).trans ((k8 1 (by decide)).trans ((k107 1 (by decide)).trans hF.2))))⟩, (t_hR3 kd7 (by decide) (t_hR3 kd6 (by decide) q1)), q3.2, ⟨s79, wd79, x70, x71, x72, x73, hd7, (kd7 13 (by decide)).trans hV7⟩, (t_hRd kd7 (by decide) (t_hRd kd6 (by decide) q8)), (Fr.tr (Fr.tr (Fr.tr (Fr.tr Fr.rf k107 (by decide)) k8 (by decide)) kd6 (by decide)) kd7 (by decide))⟩
    · skip
      refine G_iconst hX d_Df_step_121 ?_
      refine G_goto hX (tgt := 126) d_Df_step_122 rfl ?_
      refine G_istore_n hX (lv' := [(2, .int (zI 1)), (1, .int (zI ((dcF g2 c2 st g0 c0 mR mT).1))), (0, .ref (eA E 0))]) rfl (by decide) rfl d_Df_step_126 ?_
      refine G_iload_n hX 1 rfl rfl d_Df_step_127 ?_
      refine G_if_lt_z hX (tgt := 140) d_Df_step_128 rfl (by omega) (fun c128 => ?_) (fun c129 => by exfalso; omega)
      refine G_iload_n hX 1 rfl rfl d_Df_step_140 ?_
      exact F_iret hX hE d_Df_step_141 ⟨rfl, ⟨h123, ((kd7 1 (by decide)).trans ((kd6 1 (by decide)).trans ((k8 1 (by decide)).trans ((k107 1 (by decide)).trans hF.2))))⟩, (t_hR3 kd7 (by decide) (t_hR3 kd6 (by decide) q1)), q3.2, ⟨s79, wd79, x70, x71, x72, x73, hd7, (kd7 13 (by decide)).trans hV7⟩, (t_hRd kd7 (by decide) (t_hRd kd6 (by decide) q8)), (Fr.tr (Fr.tr (Fr.tr (Fr.tr Fr.rf k107 (by decide)) k8 (by decide)) kd6 (by decide)) kd7 (by decide))⟩
