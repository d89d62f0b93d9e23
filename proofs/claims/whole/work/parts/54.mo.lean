/-! DeltaFerryModel: digests, sum, sign; printed by wip/tools/m_mo4.py -/
theorem m5_ini (st : Nat → Int64) : ∀ q, q < 4 → vp_updL (vp_updL (vp_updL (vp_updL st (0 : Int).toNat (zL 1732584193)) (1 : Int).toNat (zL 4023233417)) (2 : Int).toNat (zL 2562383102)) (3 : Int).toNat (zL 271733878) q = zx (m4 m5I q) := by
  intro q hq
  rcases (show q = 0 ∨ q = 1 ∨ q = 2 ∨ q = 3 by omega) with rfl | rfl | rfl | rfl
  · show zL 1732584193 = zx (zI 1732584193); decide
  · show zL 4023233417 = zx (zI (-271733879)); decide
  · show zL 2562383102 = zx (zI (-1732584194)); decide
  · show zL 271733878 = zx (zI 271733878); decide
theorem dgA_d (g : Int → Int) (p m : Int) : dgA g p m = (lwF (m5T g p m ((m + 8) / 64 + 1).toNat).1 <<< ((zI 32).toInt64 &&& 63)) ||| lwF (m5T g p m ((m + 8) / 64 + 1).toNat).2.1 := rfl
theorem dgB_d (g : Int → Int) (p m : Int) : dgB g p m = (lwF (m5T g p m ((m + 8) / 64 + 1).toNat).2.2.1 <<< ((zI 32).toInt64 &&& 63)) ||| lwF (m5T g p m ((m + 8) / 64 + 1).toNat).2.2.2 := rfl
theorem c_Mo_digestOf (E : EV) (f : Nat → va_E) (F : Nat → Value) (bg : Int) (n : Int) (b : Int → Int) (gF : Int → Int) (p : Int) (st : Nat → Int64) (hMo : f 61 = mob F) (hmk : moK E F) (hc63 : f 63 = iz E 1600 b) (hc62 : f 62 = la E 32 kkF) (hc65 : f 65 = la E 4 st) (hG : isB gF) (hag : ∀ i, 0 ≤ i → i < n → b (bg + i) = gF (p + i)) (hb : 0 ≤ bg ∧ 0 ≤ n ∧ bg + n ≤ 1600 ∧ n ≤ 700) : CF yn_Mo_digestOf cd_Mo_digestOf 5 none 2 E [.ref (eA E 61), .int (zI bg), .int (zI n)] f (fun r f' => r = none ∧ ∃ (F' : Nat → Value) (st' : Nat → Int64), f' 61 = mob F' ∧ F' 4 = .long (dgA gF p n) ∧ F' 5 = .long (dgB gF p n) ∧ FrF [4, 5] F F' ∧ f' 65 = la E 4 st' ∧ Fr [65, 61] f f') := by
  refine CF.of (by decide +kernel) (Nat.le_of_ble_eq_true rfl) fun X hX hE => ?_
  have hX : Ok E X "DeltaFerryModel" "digestOf" cd_Mo_digestOf 5 none (rl 2) := hX
  refine G_cast (lv' := [(0, .ref (eA E 61)), (1, .int (zI bg)), (2, .int (zI n))]) ?_ rfl rfl rfl rfl
  have hpd : pdF n = ((n + 8) / 64 + 1) * 64 := rfl
  refine G_aload_n hX 0 rfl rfl d_Mo_digestOf_0 ?_
  refine M_get hX fg_Mo_84 d_Mo_digestOf_1 hMo (by decide) (hmk 3 65 (by decide)) ?_
  refine G_iconst hX d_Mo_digestOf_4 ?_
  refine G_ldc2 hX kn_Mo_204 d_Mo_digestOf_5 ?_
  refine G_topl (show (1732584193 : Int64) = zL (1732584193) from by decide) ?_
  refine F_last hX d_Mo_digestOf_8 65 (by decide) hc65 (by omega) (fun f1 h2 k3 => ?_)
  refine G_aload_n hX 0 rfl rfl d_Mo_digestOf_9 ?_
  have h4 : f1 61 = mob F := (k3 61 (by decide)).trans hMo
  refine M_get hX fg_Mo_84 d_Mo_digestOf_10 h4 (by decide) (hmk 3 65 (by decide)) ?_
  refine G_iconst hX d_Mo_digestOf_13 ?_
  refine G_ldc2 hX kn_Mo_206 d_Mo_digestOf_14 ?_
  refine G_topl (show (4023233417 : Int64) = zL (4023233417) from by decide) ?_
  refine F_last hX d_Mo_digestOf_17 65 (by decide) h2 (by omega) (fun f5 h6 k7 => ?_)
  refine G_aload_n hX 0 rfl rfl d_Mo_digestOf_18 ?_
  have h8 : f5 61 = mob F := (k7 61 (by decide)).trans h4
  refine M_get hX fg_Mo_84 d_Mo_digestOf_19 h8 (by decide) (hmk 3 65 (by decide)) ?_
  refine G_iconst hX d_Mo_digestOf_22 ?_
  refine G_ldc2 hX kn_Mo_208 d_Mo_digestOf_23 ?_
  refine G_topl (show (2562383102 : Int64) = zL (2562383102) from by decide) ?_
  refine F_last hX d_Mo_digestOf_26 65 (by decide) h6 (by omega) (fun f9 h10 k11 => ?_)
  refine G_aload_n hX 0 rfl rfl d_Mo_digestOf_27 ?_
  have h12 : f9 61 = mob F := (k11 61 (by decide)).trans h8
  refine M_get hX fg_Mo_84 d_Mo_digestOf_28 h12 (by decide) (hmk 3 65 (by decide)) ?_
  refine G_iconst hX d_Mo_digestOf_31 ?_
  refine G_ldc2 hX kn_Mo_210 d_Mo_digestOf_32 ?_
  refine G_topl (show (271733878 : Int64) = zL (271733878) from by decide) ?_
  refine F_last hX d_Mo_digestOf_35 65 (by decide) h10 (by omega) (fun f13 h14 k15 => ?_)
  refine G_iload_n hX 2 rfl rfl d_Mo_digestOf_36 ?_
  refine G_bipush hX (by decide) d_Mo_digestOf_37 ?_
  refine G_iadd_z hX d_Mo_digestOf_39 ?_
  refine G_bipush hX (by decide) d_Mo_digestOf_40 ?_
  refine G_idiv_z hX (by omega) d_Mo_digestOf_42 ?_
  refine G_bipush hX (by decide) d_Mo_digestOf_43 ?_
  refine G_imul_z hX d_Mo_digestOf_45 ?_
  refine G_bipush hX (by decide) d_Mo_digestOf_46 ?_
  refine G_iadd_z hX d_Mo_digestOf_48 ?_
  refine G_top (show zI ((((n + 8) / 64) * 64) + 64) = zI (pdF n) from by unfold pdF; congr 1; omega) ?_
  refine F_nrml 65 (fun k => zx (m4 m5I k)) (by decide) h14 (m5_ini st) (fun f16 h17 k18 => ?_)
  refine G_istore_n hX (lv' := [(3, .int (zI (pdF n))), (0, .ref (eA E 61)), (1, .int (zI bg)), (2, .int (zI n))]) rfl (by decide) rfl d_Mo_digestOf_49 ?_
  refine G_iconst hX d_Mo_digestOf_50 ?_
  refine G_istore hX (lv' := [(4, .int (zI 0)), (3, .int (zI (pdF n))), (0, .ref (eA E 61)), (1, .int (zI bg)), (2, .int (zI n))]) (by decide) rfl d_Mo_digestOf_51 ?_
  have loop19 : ∀ (q : Nat) (t : Int) (f20 : Nat → va_E), ((n + 8) / 64 + 1 - t).toNat < q → (0 ≤ t ∧ t ≤ (n + 8) / 64 + 1) → f20 65 = la E 4 (fun k => zx (m4 (m5T gF p n t.toNat) k)) → Fr [65] f16 f20 → G E X 0 0 53 [(0, .ref (eA E 61)), (1, .int (zI bg)), (2, .int (zI n)), (3, .int (zI (pdF n))), (4, .int (zI (64 * t)))] [] (wl E f20) := by
    intro q
    induction q with
    | zero => intro t f20 hms22; exact absurd hms22 (Nat.not_lt_zero _)
    | succ q ih23 =>
      intro t f20 hms22 ht h24 k21
      refine G_iload hX 4 rfl d_Mo_digestOf_53 ?_
      refine G_iload_n hX 3 rfl rfl d_Mo_digestOf_55 ?_
      refine G_icmp_ge_z hX (tgt := 74) d_Mo_digestOf_56 rfl (by omega) (fun c25 => ?_) (fun c26 => ?_)
      · skip
        have et : t = (n + 8) / 64 + 1 := by omega
        refine G_aload_n hX 0 rfl rfl d_Mo_digestOf_74 ?_
        refine G_aload_n hX 0 rfl rfl d_Mo_digestOf_75 ?_
        have h27 : f20 61 = mob F := (k21 61 (by decide)).trans ((k18 61 (by decide)).trans ((k15 61 (by decide)).trans h12))
        refine M_get hX fg_Mo_84 d_Mo_digestOf_76 h27 (by decide) (hmk 3 65 (by decide)) ?_
        refine G_iconst hX d_Mo_digestOf_79 ?_
        refine F_lald hX d_Mo_digestOf_80 65 (by decide) h24 (by omega) ?_
        refine G_topl (show ((fun k => zx (m4 (m5T gF p n t.toNat) k)) (0 : Int).toNat) = (zx (m5T gF p n ((n + 8) / 64 + 1).toNat).1) from by rw [← et]; rfl) ?_
        refine F_callS hX (st := [.ref (eA E 61)]) (c_Mo_around E f20 ((m5T gF p n ((n + 8) / 64 + 1).toNat).1)) cm_Mo_around sm_Mo_around ml_Mo_216 d_Mo_digestOf_81 rfl rfl (Nat.le_of_ble_eq_true rfl) (by decide) ?_
        rintro _ f28 ⟨rfl, e31⟩
        obtain rfl := e31.symm
        refine G_cast (st' := [.long (lwF ((m5T gF p n ((n + 8) / 64 + 1).toNat).1)), .ref (eA E 61)]) ?_ rfl rfl rfl rfl
        refine G_bipush hX (by decide) d_Mo_digestOf_84 ?_
        refine G_lshl hX (v := (lwF ((m5T gF p n ((n + 8) / 64 + 1).toNat).1)) <<< ((zI 32).toInt64 &&& 63)) rfl d_Mo_digestOf_86 ?_
        refine G_aload_n hX 0 rfl rfl d_Mo_digestOf_87 ?_
        refine M_get hX fg_Mo_84 d_Mo_digestOf_88 h27 (by decide) (hmk 3 65 (by decide)) ?_
        refine G_iconst hX d_Mo_digestOf_91 ?_
        refine F_lald hX d_Mo_digestOf_92 65 (by decide) h24 (by omega) ?_
        refine G_topl (show ((fun k => zx (m4 (m5T gF p n t.toNat) k)) (1 : Int).toNat) = (zx (m5T gF p n ((n + 8) / 64 + 1).toNat).2.1) from by rw [← et]; rfl) ?_
        refine F_callS hX (st := [.long ((lwF ((m5T gF p n ((n + 8) / 64 + 1).toNat).1)) <<< ((zI 32).toInt64 &&& 63)), .ref (eA E 61)]) (c_Mo_around E f20 ((m5T gF p n ((n + 8) / 64 + 1).toNat).2.1)) cm_Mo_around sm_Mo_around ml_Mo_216 d_Mo_digestOf_93 rfl rfl (Nat.le_of_ble_eq_true rfl) (by decide) ?_
        rintro _ f32 ⟨rfl, e35⟩
        obtain rfl := e35.symm
        refine G_cast (st' := [.long (lwF ((m5T gF p n ((n + 8) / 64 + 1).toNat).2.1)), .long ((lwF ((m5T gF p n ((n + 8) / 64 + 1).toNat).1)) <<< ((zI 32).toInt64 &&& 63)), .ref (eA E 61)]) ?_ rfl rfl rfl rfl
        refine G_lor hX d_Mo_digestOf_96 ?_
        refine G_topl (show (((lwF ((m5T gF p n ((n + 8) / 64 + 1).toNat).1)) <<< ((zI 32).toInt64 &&& 63)) ||| (lwF ((m5T gF p n ((n + 8) / 64 + 1).toNat).2.1))) = (dgA gF p n) from (dgA_d gF p n).symm) ?_
        refine M_put hX fg_Mo_220 fp_Mo_4 d_Mo_digestOf_97 h27 rfl rfl (by decide) (fun f36 F37 h38 h39 k40 k41 => ?_)
        refine G_aload_n hX 0 rfl rfl d_Mo_digestOf_100 ?_
        refine G_aload_n hX 0 rfl rfl d_Mo_digestOf_101 ?_
        have h42 : F37 3 = .ref (eA E 65) := (k40 3 (by decide)).trans (hmk 3 65 (by decide))
        refine M_get hX fg_Mo_84 d_Mo_digestOf_102 h38 (by decide) h42 ?_
        refine G_iconst hX d_Mo_digestOf_105 ?_
        have h43 : f36 65 = la E 4 (fun k => zx (m4 (m5T gF p n t.toNat) k)) := (k41 65 (by decide)).trans h24
        refine F_lald hX d_Mo_digestOf_106 65 (by decide) h43 (by omega) ?_
        refine G_topl (show ((fun k => zx (m4 (m5T gF p n t.toNat) k)) (2 : Int).toNat) = (zx (m5T gF p n ((n + 8) / 64 + 1).toNat).2.2.1) from by rw [← et]; rfl) ?_
        refine F_callS hX (st := [.ref (eA E 61)]) (c_Mo_around E f36 ((m5T gF p n ((n + 8) / 64 + 1).toNat).2.2.1)) cm_Mo_around sm_Mo_around ml_Mo_216 d_Mo_digestOf_107 rfl rfl (Nat.le_of_ble_eq_true rfl) (by decide) ?_
        rintro _ f44 ⟨rfl, e47⟩
        obtain rfl := e47.symm
        refine G_cast (st' := [.long (lwF ((m5T gF p n ((n + 8) / 64 + 1).toNat).2.2.1)), .ref (eA E 61)]) ?_ rfl rfl rfl rfl
        refine G_bipush hX (by decide) d_Mo_digestOf_110 ?_
        refine G_lshl hX (v := (lwF ((m5T gF p n ((n + 8) / 64 + 1).toNat).2.2.1)) <<< ((zI 32).toInt64 &&& 63)) rfl d_Mo_digestOf_112 ?_
        refine G_aload_n hX 0 rfl rfl d_Mo_digestOf_113 ?_
        refine M_get hX fg_Mo_84 d_Mo_digestOf_114 h38 (by decide) h42 ?_
        refine G_iconst hX d_Mo_digestOf_117 ?_
        refine F_lald hX d_Mo_digestOf_118 65 (by decide) h43 (by omega) ?_
        refine G_topl (show ((fun k => zx (m4 (m5T gF p n t.toNat) k)) (3 : Int).toNat) = (zx (m5T gF p n ((n + 8) / 64 + 1).toNat).2.2.2) from by rw [← et]; rfl) ?_
        refine F_callS hX (st := [.long ((lwF ((m5T gF p n ((n + 8) / 64 + 1).toNat).2.2.1)) <<< ((zI 32).toInt64 &&& 63)), .ref (eA E 61)]) (c_Mo_around E f36 ((m5T gF p n ((n + 8) / 64 + 1).toNat).2.2.2)) cm_Mo_around sm_Mo_around ml_Mo_216 d_Mo_digestOf_119 rfl rfl (Nat.le_of_ble_eq_true rfl) (by decide) ?_
        rintro _ f48 ⟨rfl, e51⟩
        obtain rfl := e51.symm
        refine G_cast (st' := [.long (lwF ((m5T gF p n ((n + 8) / 64 + 1).toNat).2.2.2)), .long ((lwF ((m5T gF p n ((n + 8) / 64 + 1).toNat).2.2.1)) <<< ((zI 32).toInt64 &&& 63)), .ref (eA E 61)]) ?_ rfl rfl rfl rfl
        refine G_lor hX d_Mo_digestOf_122 ?_
        refine G_topl (show (((lwF ((m5T gF p n ((n + 8) / 64 + 1).toNat).2.2.1)) <<< ((zI 32).toInt64 &&& 63)) ||| (lwF ((m5T gF p n ((n + 8) / 64 + 1).toNat).2.2.2))) = (dgB gF p n) from (dgB_d gF p n).symm) ?_
        refine M_put hX fg_Mo_224 fp_Mo_5 d_Mo_digestOf_123 h38 rfl rfl (by decide) (fun f52 F53 h54 h55 k56 k57 => ?_)
        have h58 : F53 4 = .long (dgA gF p n) := (k56 4 (by decide)).trans h39
        have h59 : f52 65 = la E 4 (fun k => zx (m4 (m5T gF p n t.toNat) k)) := (k57 65 (by decide)).trans h43
        exact F_vret hX hE d_Mo_digestOf_126 ⟨rfl, F53, _, h54, h58, h55, (FrF.tr (FrF.tr FrF.rf k40 (by decide)) k56 (by decide)), h59, (Fr.tr (Fr.tr (Fr.tr (Fr.tr (Fr.tr (Fr.tr (Fr.tr (Fr.tr Fr.rf k3 (by decide)) k7 (by decide)) k11 (by decide)) k15 (by decide)) k18 (by decide)) k21 (by decide)) k41 (by decide)) k57 (by decide))⟩
      · skip
        refine G_aload_n hX 0 rfl rfl d_Mo_digestOf_59 ?_
        refine G_iload_n hX 1 rfl rfl d_Mo_digestOf_60 ?_
        refine G_iload_n hX 2 rfl rfl d_Mo_digestOf_61 ?_
        refine G_iload_n hX 3 rfl rfl d_Mo_digestOf_62 ?_
        refine G_iload hX 4 rfl d_Mo_digestOf_63 ?_
        have h60 : f20 61 = mob F := (k21 61 (by decide)).trans ((k18 61 (by decide)).trans ((k15 61 (by decide)).trans h12))
        have h61 : f20 63 = iz E 1600 b := (k21 63 (by decide)).trans ((k18 63 (by decide)).trans ((k15 63 (by decide)).trans ((k11 63 (by decide)).trans ((k7 63 (by decide)).trans ((k3 63 (by decide)).trans hc63)))))
        have h62 : f20 62 = la E 32 kkF := (k21 62 (by decide)).trans ((k18 62 (by decide)).trans ((k15 62 (by decide)).trans ((k11 62 (by decide)).trans ((k7 62 (by decide)).trans ((k3 62 (by decide)).trans hc62)))))
        refine F_callV hX (st := []) (c_Mo_digestBlock E f20 F bg n (pdF n) (64 * t) b gF p (wbF gF p n (64 * t)) (m5T gF p n t.toNat) h60 hmk h61 h62 h24 hG hag (by omega) rfl (by omega) (fun k h1 h2 => wb_eq hG (by omega) (by omega) ⟨h1, h2⟩)) cm_Mo_digestBlock im_Mo_digestBlock se_Mo_digestBlock rfl ml_Mo_212 d_Mo_digestOf_65 (by decide) h60 rfl rfl (Nat.le_of_ble_eq_true rfl) (by decide) ?_
        rintro _ f63 ⟨rfl, h66, k67⟩
        refine G_cast (st' := []) ?_ rfl rfl rfl rfl
        refine G_iinc_z hX (lv' := [(4, .int (zI ((64 * t) + 64))), (0, .ref (eA E 61)), (1, .int (zI bg)), (2, .int (zI n)), (3, .int (zI (pdF n)))]) 4 rfl (by decide) rfl d_Mo_digestOf_68 ?_
        refine G_goto hX (tgt := 53) d_Mo_digestOf_71 rfl ?_
        refine G_loc (lv' := [(0, .ref (eA E 61)), (1, .int (zI bg)), (2, .int (zI n)), (3, .int (zI (pdF n))), (4, .int (zI ((64 * t) + 64)))]) [1, 2, 3, 4, 0] rfl ?_
        refine G_cast (ih23 (t + 1) f63 (by omega) (by omega) (by rw [m5T_s ht.1]; exact h66) (Fr.tr (Fr.tr Fr.rf k21 (by decide)) k67 (by decide))) rfl (by rw [show 64 * (t + 1) = 64 * t + 64 by omega]) rfl rfl
  refine G_loc (lv' := [(0, .ref (eA E 61)), (1, .int (zI bg)), (2, .int (zI n)), (3, .int (zI (pdF n))), (4, .int (zI 0))]) [2, 3, 4, 1, 0] rfl ?_
  refine G_cast (loop19 (_ + 1) 0 f16 (Nat.lt_succ_self _) (by omega) h17 Fr.rf) rfl (by rfl) rfl rfl
theorem c_Mo_digest (E : EV) (f : Nat → va_E) (F : Nat → Value) (k : Int) (h : Int) (b : Int → Int) (sz : Int → Int) (gF : Int → Int) (st : Nat → Int64) (hMo : f 61 = mob F) (hmk : moK E F) (hc63 : f 63 = iz E 1600 b) (hc64 : f 64 = iz E 4 sz) (hc62 : f 62 = la E 32 kkF) (hc65 : f 65 = la E 4 st) (hsz : ∀ k, 0 ≤ k → k ≤ 3 → 0 ≤ sz k ∧ sz k ≤ (if k = 2 then 700 else 300)) (hk : 0 ≤ k ∧ k ≤ 3) (hh : -2147483648 ≤ h ∧ h < 2147483648) (hG : isB gF) (hag : ∀ i, 0 ≤ i → i < sz k → b ((if k < 3 then 300 * k else 1300) + i) = gF i) : CF yn_Mo_digest cd_Mo_digest 3 (some (.long)) 3 E [.ref (eA E 61), .int (zI k), .int (zI h)] f (fun r f' => r = some (.long (if h = 0 then dgA gF 0 (sz k) else dgB gF 0 (sz k))) ∧ ∃ (F' : Nat → Value) (st' : Nat → Int64), f' 61 = mob F' ∧ F' 4 = .long (dgA gF 0 (sz k)) ∧ F' 5 = .long (dgB gF 0 (sz k)) ∧ FrF [4, 5] F F' ∧ f' 65 = la E 4 st' ∧ Fr [65, 61] f f') := by
  refine CF.of (by decide +kernel) (Nat.le_of_ble_eq_true rfl) fun X hX hE => ?_
  have hX : Ok E X "DeltaFerryModel" "digest" cd_Mo_digest 3 (some (.long)) (rl 3) := hX
  refine G_cast (lv' := [(0, .ref (eA E 61)), (1, .int (zI k)), (2, .int (zI h))]) ?_ rfl rfl rfl rfl
  have hszk := hsz k (by omega) (by omega)
  have hrm : ∀ k : Int, (if k = 2 then (700 : Int) else 300) = 300 ∨ (k = 2 ∧ (if k = 2 then (700 : Int) else 300) = 700) := fun k => by by_cases q : k = 2; exact Or.inr ⟨q, if_pos q⟩; exact Or.inl (if_neg q)
  have hrk := hrm k
  have hbk : (k < 3 ∧ (if k < 3 then 300 * k else 1300) = 300 * k) ∨ (k = 3 ∧ (if k < 3 then 300 * k else 1300) = 1300) := by by_cases q : k < 3; exact Or.inl ⟨q, if_pos q⟩; exact Or.inr ⟨by omega, if_neg q⟩
  refine G_iload_n hX 1 rfl rfl d_Mo_digest_0 ?_
  refine F_callS hX (st := []) (c_Mo_isFile E f k (by omega)) cm_Mo_isFile sm_Mo_isFile ml_Mo_170 d_Mo_digest_1 rfl rfl (Nat.le_of_ble_eq_true rfl) (by decide) ?_
  rintro _ f1 ⟨rfl, e4⟩
  obtain rfl := e4.symm
  refine G_cast (st' := [.int (zI (if 0 ≤ k ∧ k ≤ 3 then 1 else 0))]) ?_ rfl rfl rfl rfl
  refine G_top (show zI (if 0 ≤ k ∧ k ≤ 3 then 1 else 0) = zI 1 from by rw [if_pos (by omega)]) ?_
  refine G_if_ne_z hX (tgt := 9) d_Mo_digest_4 rfl (by omega) (fun c5 => ?_) (fun c6 => by exfalso; omega)
  refine G_aload_n hX 0 rfl rfl d_Mo_digest_9 ?_
  refine G_iload_n hX 1 rfl rfl d_Mo_digest_10 ?_
  refine F_callS hX (st := [.ref (eA E 61)]) (c_Mo_base E f k (by omega)) cm_Mo_base sm_Mo_base ml_Mo_161 d_Mo_digest_11 rfl rfl (Nat.le_of_ble_eq_true rfl) (by decide) ?_
  rintro _ f7 ⟨rfl, e10⟩
  obtain rfl := e10.symm
  refine G_cast (st' := [.int (zI (if k < 3 then 300 * k else 1300)), .ref (eA E 61)]) ?_ rfl rfl rfl rfl
  refine G_aload_n hX 0 rfl rfl d_Mo_digest_14 ?_
  refine M_get hX fg_Mo_81 d_Mo_digest_15 hMo (by decide) (hmk 2 64 (by decide)) ?_
  refine G_iload_n hX 1 rfl rfl d_Mo_digest_18 ?_
  refine F_iald hX d_Mo_digest_19 64 (by decide) hc64 (by omega) ?_
  refine F_callV hX (st := []) (c_Mo_digestOf E f F (if k < 3 then 300 * k else 1300) (sz k) b gF 0 st hMo hmk hc63 hc62 hc65 hG (fun i h1 h2 => by rw [hag i h1 h2, Int.zero_add]) (by omega)) cm_Mo_digestOf im_Mo_digestOf se_Mo_digestOf rfl ml_Mo_227 d_Mo_digest_20 (by decide) hMo rfl rfl (Nat.le_of_ble_eq_true rfl) (by decide) ?_
  rintro _ f11 ⟨rfl, F14, st'_15, h16, h17, h18, k19, h20, k21⟩
  refine G_cast (st' := []) ?_ rfl rfl rfl rfl
  refine G_iload_n hX 2 rfl rfl d_Mo_digest_23 ?_
  refine G_if_ne_z hX (tgt := 34) d_Mo_digest_24 rfl (by omega) (fun c22 => ?_) (fun c23 => ?_)
  · skip
    refine G_aload_n hX 0 rfl rfl d_Mo_digest_34 ?_
    refine M_get hX fg_Mo_224 d_Mo_digest_35 h16 (by decide) h18 ?_
    exact F_lret hX hE d_Mo_digest_38 ⟨by rw [if_neg (by omega)], F14, _, h16, h17, h18, (FrF.tr FrF.rf k19 (by decide)), h20, (Fr.tr Fr.rf k21 (by decide))⟩
  · skip
    refine G_aload_n hX 0 rfl rfl d_Mo_digest_27 ?_
    refine M_get hX fg_Mo_220 d_Mo_digest_28 h16 (by decide) h17 ?_
    refine G_goto hX (tgt := 38) d_Mo_digest_31 rfl ?_
    exact F_lret hX hE d_Mo_digest_38 ⟨by rw [if_pos (by omega)], F14, _, h16, h17, h18, (FrF.tr FrF.rf k19 (by decide)), h20, (Fr.tr Fr.rf k21 (by decide))⟩
theorem c_Mo_digest_no (E : EV) (f : Nat → va_E) (F : Nat → Value) (k : Int) (h : Int) (hMo : f 61 = mob F) (hmk : moK E F) (hk : k < 0 ∨ 3 < k) (hk2 : -2147483648 ≤ k ∧ k < 2147483648) : CF yn_Mo_digest cd_Mo_digest 3 (some (.long)) 3 E [.ref (eA E 61), .int (zI k), .int (zI h)] f (fun r f' => r = some (.long (zL 0)) ∧ f' = f) := by
  refine CF.of (by decide +kernel) (Nat.le_of_ble_eq_true rfl) fun X hX hE => ?_
  have hX : Ok E X "DeltaFerryModel" "digest" cd_Mo_digest 3 (some (.long)) (rl 3) := hX
  refine G_cast (lv' := [(0, .ref (eA E 61)), (1, .int (zI k)), (2, .int (zI h))]) ?_ rfl rfl rfl rfl
  refine G_iload_n hX 1 rfl rfl d_Mo_digest_0 ?_
  refine F_callS hX (st := []) (c_Mo_isFile E f k (by omega)) cm_Mo_isFile sm_Mo_isFile ml_Mo_170 d_Mo_digest_1 rfl rfl (Nat.le_of_ble_eq_true rfl) (by decide) ?_
  rintro _ f1 ⟨rfl, e4⟩
  obtain rfl := e4.symm
  refine G_cast (st' := [.int (zI (if 0 ≤ k ∧ k ≤ 3 then 1 else 0))]) ?_ rfl rfl rfl rfl
  refine G_top (show zI (if 0 ≤ k ∧ k ≤ 3 then 1 else 0) = zI 0 from by rw [if_neg (by omega)]) ?_
  refine G_if_ne_z hX (tgt := 9) d_Mo_digest_4 rfl (by omega) (fun c5 => by exfalso; omega) (fun c6 => ?_)
  refine G_lconst hX (v := zL 0) (by decide) d_Mo_digest_7 ?_
  exact F_lret hX hE d_Mo_digest_8 ⟨rfl, rfl⟩
theorem c_Mo_sum (E : EV) (f : Nat → va_E) (F : Nat → Value) (k : Int) (a : Int) (n : Int) (b : Int → Int) (sz : Int → Int) (gF : Int → Int) (hMo : f 61 = mob F) (hmk : moK E F) (hc63 : f 63 = iz E 1600 b) (hc64 : f 64 = iz E 4 sz) (hsz : ∀ k, 0 ≤ k → k ≤ 3 → 0 ≤ sz k ∧ sz k ≤ (if k = 2 then 700 else 300)) (hk : 0 ≤ k ∧ k ≤ 3) (hh : -2147483648 ≤ a ∧ a < 2147483648 ∧ -2147483648 ≤ n ∧ n < 2147483648) (hG : isB gF) (hag : ∀ i, 0 ≤ i → i < sz k → b ((if k < 3 then 300 * k else 1300) + i) = gF i) : CF yn_Mo_sum cd_Mo_sum 9 (some (.long)) 1 E [.ref (eA E 61), .int (zI k), .int (zI a), .int (zI n)] f (fun r f' => r = some (.long (zL (if a = 0 ∧ n = 0 then adV gF 0 (sz k) else if a < 0 ∨ n < 1 ∨ sz k - n < a then -1 else wkV gF a n))) ∧ f' = f) := by
  refine CF.of (by decide +kernel) (Nat.le_of_ble_eq_true rfl) fun X hX hE => ?_
  have hX : Ok E X "DeltaFerryModel" "sum" cd_Mo_sum 9 (some (.long)) (rl 1) := hX
  refine G_cast (lv' := [(0, .ref (eA E 61)), (1, .int (zI k)), (2, .int (zI a)), (3, .int (zI n))]) ?_ rfl rfl rfl rfl
  have hszk := hsz k (by omega) (by omega)
  have hrm : ∀ k : Int, (if k = 2 then (700 : Int) else 300) = 300 ∨ (k = 2 ∧ (if k = 2 then (700 : Int) else 300) = 700) := fun k => by by_cases q : k = 2; exact Or.inr ⟨q, if_pos q⟩; exact Or.inl (if_neg q)
  have hrk := hrm k
  have hbk : (k < 3 ∧ (if k < 3 then 300 * k else 1300) = 300 * k) ∨ (k = 3 ∧ (if k < 3 then 300 * k else 1300) = 1300) := by by_cases q : k < 3; exact Or.inl ⟨q, if_pos q⟩; exact Or.inr ⟨by omega, if_neg q⟩
  refine G_iload_n hX 1 rfl rfl d_Mo_sum_0 ?_
  refine F_callS hX (st := []) (c_Mo_isFile E f k (by omega)) cm_Mo_isFile sm_Mo_isFile ml_Mo_170 d_Mo_sum_1 rfl rfl (Nat.le_of_ble_eq_true rfl) (by decide) ?_
  rintro _ f1 ⟨rfl, e4⟩
  obtain rfl := e4.symm
  refine G_cast (st' := [.int (zI (if 0 ≤ k ∧ k ≤ 3 then 1 else 0))]) ?_ rfl rfl rfl rfl
  refine G_top (show zI (if 0 ≤ k ∧ k ≤ 3 then 1 else 0) = zI 1 from by rw [if_pos (by omega)]) ?_
  refine G_if_ne_z hX (tgt := 11) d_Mo_sum_4 rfl (by omega) (fun c5 => ?_) (fun c6 => by exfalso; omega)
  refine G_iload_n hX 2 rfl rfl d_Mo_sum_11 ?_
  refine G_if_ne_z hX (tgt := 88) d_Mo_sum_12 rfl (by omega) (fun c7 => ?_) (fun c8 => ?_)
  · skip
    refine G_iload_n hX 2 rfl rfl d_Mo_sum_88 ?_
    refine G_if_lt_z hX (tgt := 109) d_Mo_sum_89 rfl (by omega) (fun c9 => ?_) (fun c10 => ?_)
    · skip
      refine G_ldc2 hX kn_Mo_178 d_Mo_sum_109 ?_
      refine G_topl (show (-1 : Int64) = zL (-1) from by decide) ?_
      refine G_goto hX (tgt := 126) d_Mo_sum_112 rfl ?_
      exact F_lret hX hE d_Mo_sum_126 ⟨by rw [if_neg (by omega), if_pos (by omega)], rfl⟩
    · skip
      refine G_iload_n hX 3 rfl rfl d_Mo_sum_92 ?_
      refine G_iconst hX d_Mo_sum_93 ?_
      refine G_icmp_lt_z hX (tgt := 109) d_Mo_sum_94 rfl (by omega) (fun c11 => ?_) (fun c12 => ?_)
      · skip
        refine G_ldc2 hX kn_Mo_178 d_Mo_sum_109 ?_
        refine G_topl (show (-1 : Int64) = zL (-1) from by decide) ?_
        refine G_goto hX (tgt := 126) d_Mo_sum_112 rfl ?_
        exact F_lret hX hE d_Mo_sum_126 ⟨by rw [if_neg (by omega), if_pos (by omega)], rfl⟩
      · skip
        refine G_iload_n hX 2 rfl rfl d_Mo_sum_97 ?_
        refine G_aload_n hX 0 rfl rfl d_Mo_sum_98 ?_
        refine M_get hX fg_Mo_81 d_Mo_sum_99 hMo (by decide) (hmk 2 64 (by decide)) ?_
        refine G_iload_n hX 1 rfl rfl d_Mo_sum_102 ?_
        refine F_iald hX d_Mo_sum_103 64 (by decide) hc64 (by omega) ?_
        refine G_iload_n hX 3 rfl rfl d_Mo_sum_104 ?_
        refine G_isub_z hX d_Mo_sum_105 ?_
        refine G_icmp_le_z hX (tgt := 115) d_Mo_sum_106 rfl (by omega) (fun c13 => ?_) (fun c14 => ?_)
        · skip
          refine G_aload_n hX 0 rfl rfl d_Mo_sum_115 ?_
          refine G_iload_n hX 1 rfl rfl d_Mo_sum_116 ?_
          refine F_callS hX (st := [.ref (eA E 61)]) (c_Mo_base E f k (by omega)) cm_Mo_base sm_Mo_base ml_Mo_161 d_Mo_sum_117 rfl rfl (Nat.le_of_ble_eq_true rfl) (by decide) ?_
          rintro _ f15 ⟨rfl, e18⟩
          obtain rfl := e18.symm
          refine G_cast (st' := [.int (zI (if k < 3 then 300 * k else 1300)), .ref (eA E 61)]) ?_ rfl rfl rfl rfl
          refine G_iload_n hX 2 rfl rfl d_Mo_sum_120 ?_
          refine G_iadd_z hX d_Mo_sum_121 ?_
          refine G_iload_n hX 3 rfl rfl d_Mo_sum_122 ?_
          refine F_callV hX (st := []) (c_Mo_weakOf E f F ((if k < 3 then 300 * k else 1300) + a) n b gF a hMo hmk hc63 hG (fun i h1 h2 => by rw [Int.add_assoc, hag (a + i) (by omega) (by omega)]) (by omega)) cm_Mo_weakOf im_Mo_weakOf se_Mo_weakOf rfl ml_Mo_236 d_Mo_sum_123 (by decide) hMo rfl rfl (Nat.le_of_ble_eq_true rfl) (by decide) ?_
          rintro _ f19 ⟨rfl, e22⟩
          obtain rfl := e22.symm
          refine G_cast (st' := [.long (zL (wkV gF a n))]) ?_ rfl rfl rfl rfl
          exact F_lret hX hE d_Mo_sum_126 ⟨by rw [if_neg (by omega), if_neg (by omega)], rfl⟩
        · skip
          refine G_ldc2 hX kn_Mo_178 d_Mo_sum_109 ?_
          refine G_topl (show (-1 : Int64) = zL (-1) from by decide) ?_
          refine G_goto hX (tgt := 126) d_Mo_sum_112 rfl ?_
          exact F_lret hX hE d_Mo_sum_126 ⟨by rw [if_neg (by omega), if_pos (by omega)], rfl⟩
  · skip
    refine G_iload_n hX 3 rfl rfl d_Mo_sum_15 ?_
    refine G_if_ne_z hX (tgt := 88) d_Mo_sum_16 rfl (by omega) (fun c23 => ?_) (fun c24 => ?_)
    · skip
      refine G_iload_n hX 2 rfl rfl d_Mo_sum_88 ?_
      refine G_if_lt_z hX (tgt := 109) d_Mo_sum_89 rfl (by omega) (fun c25 => ?_) (fun c26 => ?_)
      · skip
        refine G_ldc2 hX kn_Mo_178 d_Mo_sum_109 ?_
        refine G_topl (show (-1 : Int64) = zL (-1) from by decide) ?_
        refine G_goto hX (tgt := 126) d_Mo_sum_112 rfl ?_
        exact F_lret hX hE d_Mo_sum_126 ⟨by rw [if_neg (by omega), if_pos (by omega)], rfl⟩
      · skip
        refine G_iload_n hX 3 rfl rfl d_Mo_sum_92 ?_
        refine G_iconst hX d_Mo_sum_93 ?_
        refine G_icmp_lt_z hX (tgt := 109) d_Mo_sum_94 rfl (by omega) (fun c27 => ?_) (fun c28 => ?_)
        · skip
          refine G_ldc2 hX kn_Mo_178 d_Mo_sum_109 ?_
          refine G_topl (show (-1 : Int64) = zL (-1) from by decide) ?_
          refine G_goto hX (tgt := 126) d_Mo_sum_112 rfl ?_
          exact F_lret hX hE d_Mo_sum_126 ⟨by rw [if_neg (by omega), if_pos (by omega)], rfl⟩
        · skip
          refine G_iload_n hX 2 rfl rfl d_Mo_sum_97 ?_
          refine G_aload_n hX 0 rfl rfl d_Mo_sum_98 ?_
          refine M_get hX fg_Mo_81 d_Mo_sum_99 hMo (by decide) (hmk 2 64 (by decide)) ?_
          refine G_iload_n hX 1 rfl rfl d_Mo_sum_102 ?_
          refine F_iald hX d_Mo_sum_103 64 (by decide) hc64 (by omega) ?_
          refine G_iload_n hX 3 rfl rfl d_Mo_sum_104 ?_
          refine G_isub_z hX d_Mo_sum_105 ?_
          refine G_icmp_le_z hX (tgt := 115) d_Mo_sum_106 rfl (by omega) (fun c29 => ?_) (fun c30 => ?_)
          · skip
            refine G_aload_n hX 0 rfl rfl d_Mo_sum_115 ?_
            refine G_iload_n hX 1 rfl rfl d_Mo_sum_116 ?_
            refine F_callS hX (st := [.ref (eA E 61)]) (c_Mo_base E f k (by omega)) cm_Mo_base sm_Mo_base ml_Mo_161 d_Mo_sum_117 rfl rfl (Nat.le_of_ble_eq_true rfl) (by decide) ?_
            rintro _ f31 ⟨rfl, e34⟩
            obtain rfl := e34.symm
            refine G_cast (st' := [.int (zI (if k < 3 then 300 * k else 1300)), .ref (eA E 61)]) ?_ rfl rfl rfl rfl
            refine G_iload_n hX 2 rfl rfl d_Mo_sum_120 ?_
            refine G_iadd_z hX d_Mo_sum_121 ?_
            refine G_iload_n hX 3 rfl rfl d_Mo_sum_122 ?_
            refine F_callV hX (st := []) (c_Mo_weakOf E f F ((if k < 3 then 300 * k else 1300) + a) n b gF a hMo hmk hc63 hG (fun i h1 h2 => by rw [Int.add_assoc, hag (a + i) (by omega) (by omega)]) (by omega)) cm_Mo_weakOf im_Mo_weakOf se_Mo_weakOf rfl ml_Mo_236 d_Mo_sum_123 (by decide) hMo rfl rfl (Nat.le_of_ble_eq_true rfl) (by decide) ?_
            rintro _ f35 ⟨rfl, e38⟩
            obtain rfl := e38.symm
            refine G_cast (st' := [.long (zL (wkV gF a n))]) ?_ rfl rfl rfl rfl
            exact F_lret hX hE d_Mo_sum_126 ⟨by rw [if_neg (by omega), if_neg (by omega)], rfl⟩
          · skip
            refine G_ldc2 hX kn_Mo_178 d_Mo_sum_109 ?_
            refine G_topl (show (-1 : Int64) = zL (-1) from by decide) ?_
            refine G_goto hX (tgt := 126) d_Mo_sum_112 rfl ?_
            exact F_lret hX hE d_Mo_sum_126 ⟨by rw [if_neg (by omega), if_pos (by omega)], rfl⟩
    · skip
      refine G_lconst hX (v := zL 1) (by decide) d_Mo_sum_19 ?_
      refine G_lstore hX (lv' := [(4, .long (zL 1)), (0, .ref (eA E 61)), (1, .int (zI k)), (2, .int (zI a)), (3, .int (zI n))]) (by decide) rfl d_Mo_sum_20 ?_
      refine G_lconst hX (v := zL 0) (by decide) d_Mo_sum_22 ?_
      refine G_lstore hX (lv' := [(6, .long (zL 0)), (4, .long (zL 1)), (0, .ref (eA E 61)), (1, .int (zI k)), (2, .int (zI a)), (3, .int (zI n))]) (by decide) rfl d_Mo_sum_23 ?_
      refine G_iconst hX d_Mo_sum_25 ?_
      refine G_istore hX (lv' := [(8, .int (zI 0)), (6, .long (zL 0)), (4, .long (zL 1)), (0, .ref (eA E 61)), (1, .int (zI k)), (2, .int (zI a)), (3, .int (zI n))]) (by decide) rfl d_Mo_sum_26 ?_
      have loop39 : ∀ (q : Nat) (t : Int) (f40 : Nat → va_E), (sz k - t).toNat < q → (0 ≤ t ∧ t ≤ sz k) → Fr [] f f40 → G E X 0 0 28 [(0, .ref (eA E 61)), (1, .int (zI k)), (4, .long (zL ((adS gF 0 t.toNat).1))), (6, .long (zL ((adS gF 0 t.toNat).2))), (8, .int (zI t))] [] (wl E f40) := by
        intro q
        induction q with
        | zero => intro t f40 hms42; exact absurd hms42 (Nat.not_lt_zero _)
        | succ q ih43 =>
          intro t f40 hms42 ht k41
          have hab := adS_b gF 0 t.toNat
          refine G_iload hX 4 rfl d_Mo_sum_28 ?_
          refine G_aload_n hX 0 rfl rfl d_Mo_sum_30 ?_
          have h44 : f40 61 = mob F := (k41 61 (List.not_mem_nil)).trans hMo
          refine M_get hX fg_Mo_81 d_Mo_sum_31 h44 (by decide) (hmk 2 64 (by decide)) ?_
          refine G_iload_n hX 1 rfl rfl d_Mo_sum_34 ?_
          have h45 : f40 64 = iz E 4 sz := (k41 64 (List.not_mem_nil)).trans hc64
          refine F_iald hX d_Mo_sum_35 64 (by decide) h45 (by omega) ?_
          refine G_icmp_ge_z hX (tgt := 78) d_Mo_sum_36 rfl (by omega) (fun c46 => ?_) (fun c47 => ?_)
          · skip
            refine G_ldc2 hX kn_Mo_231 d_Mo_sum_78 ?_
            refine G_topl (show (65536 : Int64) = zL (65536) from by decide) ?_
            refine G_lload hX 3 rfl d_Mo_sum_81 ?_
            refine G_lmul_z hX d_Mo_sum_83 ?_
            refine G_lload hX 2 rfl d_Mo_sum_84 ?_
            refine G_ladd_z hX d_Mo_sum_86 ?_
            have et : sz k = t := by omega
            exact F_lret hX hE d_Mo_sum_87 ⟨by rw [if_pos (by omega)]; unfold adV; rw [et], Fr_nil (Fr.tr Fr.rf k41 (by decide))⟩
          · skip
            refine G_lload hX 2 rfl d_Mo_sum_39 ?_
            refine G_aload_n hX 0 rfl rfl d_Mo_sum_41 ?_
            refine M_get hX fg_Mo_77 d_Mo_sum_42 h44 (by decide) (hmk 1 63 (by decide)) ?_
            refine G_iload_n hX 1 rfl rfl d_Mo_sum_45 ?_
            refine F_callS hX (st := [.ref (eA E 63), .long (zL ((adS gF 0 t.toNat).1))]) (c_Mo_base E f40 k (by omega)) cm_Mo_base sm_Mo_base ml_Mo_161 d_Mo_sum_46 rfl rfl (Nat.le_of_ble_eq_true rfl) (by decide) ?_
            rintro _ f48 ⟨rfl, e51⟩
            obtain rfl := e51.symm
            refine G_cast (st' := [.int (zI (if k < 3 then 300 * k else 1300)), .ref (eA E 63), .long (zL ((adS gF 0 t.toNat).1))]) ?_ rfl rfl rfl rfl
            refine G_iload hX 4 rfl d_Mo_sum_49 ?_
            refine G_iadd_z hX d_Mo_sum_51 ?_
            have h52 : f40 63 = iz E 1600 b := (k41 63 (List.not_mem_nil)).trans hc63
            refine F_iald hX d_Mo_sum_52 63 (by decide) h52 (by omega) ?_
            refine G_top (show zI (b ((if k < 3 then 300 * k else 1300) + t)) = zI (gF t) from by rw [hag t (by omega) (by omega)]) ?_
            have b53 := hG t
            refine G_i2l hX (v := zL (gF t)) (zI_l (by omega)) d_Mo_sum_53 ?_
            refine G_ladd_z hX d_Mo_sum_54 ?_
            refine G_ldc2 hX kn_Mo_234 d_Mo_sum_55 ?_
            refine G_topl (show (65521 : Int64) = zL (65521) from by decide) ?_
            refine G_lrem_z hX (by omega) d_Mo_sum_58 ?_
            refine G_lstore hX (lv' := [(4, .long (zL ((((adS gF 0 t.toNat).1) + (gF t)) % 65521))), (0, .ref (eA E 61)), (1, .int (zI k)), (6, .long (zL ((adS gF 0 t.toNat).2))), (8, .int (zI t))]) (by decide) rfl d_Mo_sum_59 ?_
            refine G_lload hX 3 rfl d_Mo_sum_61 ?_
            refine G_lload hX 0 rfl d_Mo_sum_63 ?_
            refine G_ladd_z hX d_Mo_sum_65 ?_
            refine G_ldc2 hX kn_Mo_234 d_Mo_sum_66 ?_
            refine G_topl (show (65521 : Int64) = zL (65521) from by decide) ?_
            refine G_lrem_z hX (by omega) d_Mo_sum_69 ?_
            refine G_lstore hX (lv' := [(6, .long (zL ((((adS gF 0 t.toNat).2) + ((((adS gF 0 t.toNat).1) + (gF t)) % 65521)) % 65521))), (4, .long (zL ((((adS gF 0 t.toNat).1) + (gF t)) % 65521))), (0, .ref (eA E 61)), (1, .int (zI k)), (8, .int (zI t))]) (by decide) rfl d_Mo_sum_70 ?_
            refine G_iinc_z hX (lv' := [(8, .int (zI (t + 1))), (6, .long (zL ((((adS gF 0 t.toNat).2) + ((((adS gF 0 t.toNat).1) + (gF t)) % 65521)) % 65521))), (4, .long (zL ((((adS gF 0 t.toNat).1) + (gF t)) % 65521))), (0, .ref (eA E 61)), (1, .int (zI k))]) 4 rfl (by decide) rfl d_Mo_sum_72 ?_
            refine G_goto hX (tgt := 28) d_Mo_sum_75 rfl ?_
            refine G_loc (lv' := [(0, .ref (eA E 61)), (1, .int (zI k)), (4, .long (zL ((((adS gF 0 t.toNat).1) + (gF t)) % 65521))), (6, .long (zL ((((adS gF 0 t.toNat).2) + ((((adS gF 0 t.toNat).1) + (gF t)) % 65521)) % 65521))), (8, .int (zI (t + 1)))]) [3, 4, 2, 1, 0] rfl ?_
            refine G_cast (ih43 (t + 1) f40 (by omega) (by omega)  (Fr.tr Fr.rf k41 (by decide))) rfl (by rw [adS_s ht.1, Int.zero_add]) rfl rfl
      refine G_loc (lv' := [(0, .ref (eA E 61)), (1, .int (zI k)), (4, .long (zL 1)), (6, .long (zL 0)), (8, .int (zI 0))]) [3, 4, 2, 1, 0] rfl ?_
      refine G_cast (loop39 (_ + 1) 0 f (Nat.lt_succ_self _) (by omega)  Fr.rf) rfl (by rfl) rfl rfl
theorem c_Mo_sum_no (E : EV) (f : Nat → va_E) (F : Nat → Value) (k : Int) (a : Int) (n : Int) (hMo : f 61 = mob F) (hmk : moK E F) (hk : k < 0 ∨ 3 < k) (hk2 : -2147483648 ≤ k ∧ k < 2147483648) : CF yn_Mo_sum cd_Mo_sum 9 (some (.long)) 1 E [.ref (eA E 61), .int (zI k), .int (zI a), .int (zI n)] f (fun r f' => r = some (.long (zL (-1))) ∧ f' = f) := by
  refine CF.of (by decide +kernel) (Nat.le_of_ble_eq_true rfl) fun X hX hE => ?_
  have hX : Ok E X "DeltaFerryModel" "sum" cd_Mo_sum 9 (some (.long)) (rl 1) := hX
  refine G_cast (lv' := [(0, .ref (eA E 61)), (1, .int (zI k)), (2, .int (zI a)), (3, .int (zI n))]) ?_ rfl rfl rfl rfl
  refine G_iload_n hX 1 rfl rfl d_Mo_sum_0 ?_
  refine F_callS hX (st := []) (c_Mo_isFile E f k (by omega)) cm_Mo_isFile sm_Mo_isFile ml_Mo_170 d_Mo_sum_1 rfl rfl (Nat.le_of_ble_eq_true rfl) (by decide) ?_
  rintro _ f1 ⟨rfl, e4⟩
  obtain rfl := e4.symm
  refine G_cast (st' := [.int (zI (if 0 ≤ k ∧ k ≤ 3 then 1 else 0))]) ?_ rfl rfl rfl rfl
  refine G_top (show zI (if 0 ≤ k ∧ k ≤ 3 then 1 else 0) = zI 0 from by rw [if_neg (by omega)]) ?_
  refine G_if_ne_z hX (tgt := 11) d_Mo_sum_4 rfl (by omega) (fun c5 => by exfalso; omega) (fun c6 => ?_)
  refine G_ldc2 hX kn_Mo_178 d_Mo_sum_7 ?_
  refine G_topl (show (-1 : Int64) = zL (-1) from by decide) ?_
  exact F_lret hX hE d_Mo_sum_10 ⟨rfl, rfl⟩
theorem sg_s {g : Int → Int} {bl t : Int} {W A L : Nat → Int64} {x y z : Int64} (h : sgOf g bl t W A L) (ht : 0 ≤ t) (hx : x = zL (wkV g (t * bl) bl)) (hy : y = dgA g (t * bl) bl) (hz : z = dgB g (t * bl) bl) : sgOf g bl (t + 1) (vp_updL W t.toNat x) (vp_updL A t.toNat y) (vp_updL L t.toNat z) := by
  intro k h1 h2
  by_cases e : k = t
  · rw [e]
    exact ⟨(if_pos rfl).trans hx, (if_pos rfl).trans hy, (if_pos rfl).trans hz⟩
  · have h3 := h k h1 (by omega)
    have h4 : ¬ k.toNat = t.toNat := by omega
    exact ⟨(if_neg h4).trans h3.1, (if_neg h4).trans h3.2.1, (if_neg h4).trans h3.2.2⟩
theorem c_Mo_sign (E : EV) (f : Nat → va_E) (F : Nat → Value) (bl : Int) (b : Int → Int) (sz : Int → Int) (gF : Int → Int) (st : Nat → Int64) (W : Nat → Int64) (A : Nat → Int64) (L : Nat → Int64) (hMo : f 61 = mob F) (hmk : moK E F) (hc63 : f 63 = iz E 1600 b) (hc64 : f 64 = iz E 4 sz) (hc62 : f 62 = la E 32 kkF) (hc65 : f 65 = la E 4 st) (hc66 : f 66 = la E 75 W) (hc67 : f 67 = la E 75 A) (hc68 : f 68 = la E 75 L) (hsz : ∀ k, 0 ≤ k → k ≤ 3 → 0 ≤ sz k ∧ sz k ≤ (if k = 2 then 700 else 300)) (hbl : 4 ≤ bl ∧ bl ≤ 64) (hG : isB gF) (hag : ∀ i, 0 ≤ i → i < sz 0 → b i = gF i) : CF yn_Mo_sign cd_Mo_sign 3 (some (.int)) 3 E [.ref (eA E 61), .int (zI bl)] f (fun r f' => r = some (.int (zI (sz 0 / bl))) ∧ ∃ (F' : Nat → Value) (st' : Nat → Int64) (W' : Nat → Int64) (A' : Nat → Int64) (L' : Nat → Int64), f' 61 = mob F' ∧ F' 6 = .int (zI bl) ∧ F' 7 = .int (zI (sz 0 / bl)) ∧ FrF [4, 5, 6, 7] F F' ∧ f' 65 = la E 4 st' ∧ f' 66 = la E 75 W' ∧ f' 67 = la E 75 A' ∧ f' 68 = la E 75 L' ∧ (sgOf gF bl (sz 0 / bl) W' A' L') ∧ Fr [65, 66, 67, 68, 61] f f') := by
  refine CF.of (by decide +kernel) (Nat.le_of_ble_eq_true rfl) fun X hX hE => ?_
  have hX : Ok E X "DeltaFerryModel" "sign" cd_Mo_sign 3 (some (.int)) (rl 3) := hX
  refine G_cast (lv' := [(0, .ref (eA E 61)), (1, .int (zI bl))]) ?_ rfl rfl rfl rfl
  have hsz0 := hsz 0 (by decide) (by decide)
  rw [if_neg (by decide)] at hsz0
  have hdv := Int.ediv_mul_le (sz 0) (show bl ≠ 0 by omega)
  have hdv0 : 0 ≤ sz 0 / bl := Int.ediv_nonneg (by omega) (by omega)
  have hdv1 : sz 0 / bl * 4 ≤ sz 0 / bl * bl := Int.mul_le_mul_of_nonneg_left (by omega) hdv0
  refine G_iload_n hX 1 rfl rfl d_Mo_sign_0 ?_
  refine G_iconst hX d_Mo_sign_1 ?_
  refine G_icmp_lt_z hX (tgt := 11) d_Mo_sign_2 rfl (by omega) (fun c1 => by exfalso; omega) (fun c2 => ?_)
  refine G_iload_n hX 1 rfl rfl d_Mo_sign_5 ?_
  refine G_bipush hX (by decide) d_Mo_sign_6 ?_
  refine G_icmp_le_z hX (tgt := 13) d_Mo_sign_8 rfl (by omega) (fun c3 => ?_) (fun c4 => by exfalso; omega)
  refine G_aload_n hX 0 rfl rfl d_Mo_sign_13 ?_
  refine G_iload_n hX 1 rfl rfl d_Mo_sign_14 ?_
  refine M_put hX fg_Mo_240 fp_Mo_6 d_Mo_sign_15 hMo rfl rfl (by decide) (fun f5 F6 h7 h8 k9 k10 => ?_)
  refine G_aload_n hX 0 rfl rfl d_Mo_sign_18 ?_
  refine G_aload_n hX 0 rfl rfl d_Mo_sign_19 ?_
  have h11 : F6 2 = .ref (eA E 64) := (k9 2 (by decide)).trans (hmk 2 64 (by decide))
  refine M_get hX fg_Mo_81 d_Mo_sign_20 h7 (by decide) h11 ?_
  refine G_iconst hX d_Mo_sign_23 ?_
  have h12 : f5 64 = iz E 4 sz := (k10 64 (by decide)).trans hc64
  refine F_iald hX d_Mo_sign_24 64 (by decide) h12 (by omega) ?_
  refine G_aload_n hX 0 rfl rfl d_Mo_sign_25 ?_
  refine M_get hX fg_Mo_240 d_Mo_sign_26 h7 (by decide) h8 ?_
  refine G_idiv_z hX (by omega) d_Mo_sign_29 ?_
  refine M_put hX fg_Mo_87 fp_Mo_7 d_Mo_sign_30 h7 rfl rfl (by decide) (fun f13 F14 h15 h16 k17 k18 => ?_)
  refine G_iconst hX d_Mo_sign_33 ?_
  refine G_istore_n hX (lv' := [(2, .int (zI 0)), (0, .ref (eA E 61)), (1, .int (zI bl))]) rfl (by decide) rfl d_Mo_sign_34 ?_
  have loop23 : ∀ (q : Nat) (t : Int) (W1 : Nat → Int64) (A1 : Nat → Int64) (L1 : Nat → Int64) (st1 : Nat → Int64) (F19 : Nat → Value) (f24 : Nat → va_E), (sz 0 / bl - t).toNat < q → (0 ≤ t ∧ t ≤ sz 0 / bl) → (sgOf gF bl t W1 A1 L1) → (F19 6 = .int (zI bl)) → (F19 7 = .int (zI (sz 0 / bl))) → (FrF [4, 5, 6, 7] F14 F19) → f24 65 = la E 4 st1 → f24 66 = la E 75 W1 → f24 67 = la E 75 A1 → f24 68 = la E 75 L1 → f24 61 = mob F19 → Fr [65, 66, 67, 68, 61] f13 f24 → G E X 0 0 35 [(0, .ref (eA E 61)), (1, .int (zI bl)), (2, .int (zI t))] [] (wl E f24) := by
    intro q
    induction q with
    | zero => intro t W1 A1 L1 st1 F19 f24 hms26; exact absurd hms26 (Nat.not_lt_zero _)
    | succ q ih27 =>
      intro t W1 A1 L1 st1 F19 f24 hms26 ht hsg h20 h21 k22 h28 h29 h30 h31 h32 k25
      have htb : bl * t + bl ≤ sz 0 ∨ ¬ t < sz 0 / bl := by by_cases q : t < sz 0 / bl; exact Or.inl (by have h9 : (t + 1) * bl ≤ sz 0 / bl * bl := Int.mul_le_mul_of_nonneg_right (by omega) (by omega); rw [Int.add_mul, Int.one_mul, Int.mul_comm t bl] at h9; omega); exact Or.inr q
      have htb0 : 0 ≤ bl * t := Int.mul_nonneg (by omega) ht.1
      refine G_iload_n hX 2 rfl rfl d_Mo_sign_35 ?_
      refine G_aload_n hX 0 rfl rfl d_Mo_sign_36 ?_
      refine M_get hX fg_Mo_87 d_Mo_sign_37 h32 (by decide) h21 ?_
      refine G_icmp_ge_z hX (tgt := 103) d_Mo_sign_40 rfl (by omega) (fun c33 => ?_) (fun c34 => ?_)
      · skip
        refine G_aload_n hX 0 rfl rfl d_Mo_sign_103 ?_
        refine M_get hX fg_Mo_87 d_Mo_sign_104 h32 (by decide) h21 ?_
        obtain rfl : t = sz 0 / bl := by omega
        exact F_iret hX hE d_Mo_sign_107 ⟨rfl, F19, _, _, _, _, h32, h20, h21, (FrF.tr (FrF.tr (FrF.tr FrF.rf k9 (by decide)) k17 (by decide)) k22 (by decide)), h28, h29, h30, h31, hsg, (Fr.tr (Fr.tr (Fr.tr Fr.rf k10 (by decide)) k18 (by decide)) k25 (by decide))⟩
      · skip
        refine G_aload_n hX 0 rfl rfl d_Mo_sign_43 ?_
        have h35 : F19 8 = .ref (eA E 66) := (k22 8 (by decide)).trans ((k17 8 (by decide)).trans ((k9 8 (by decide)).trans (hmk 8 66 (by decide))))
        refine M_get hX fg_Mo_91 d_Mo_sign_44 h32 (by decide) h35 ?_
        refine G_iload_n hX 2 rfl rfl d_Mo_sign_47 ?_
        refine G_aload_n hX 0 rfl rfl d_Mo_sign_48 ?_
        refine G_aload_n hX 0 rfl rfl d_Mo_sign_49 ?_
        refine M_get hX fg_Mo_240 d_Mo_sign_50 h32 (by decide) h20 ?_
        refine G_iload_n hX 2 rfl rfl d_Mo_sign_53 ?_
        refine G_imul_z hX d_Mo_sign_54 ?_
        refine G_aload_n hX 0 rfl rfl d_Mo_sign_55 ?_
        refine M_get hX fg_Mo_240 d_Mo_sign_56 h32 (by decide) h20 ?_
        have h36 : f24 63 = iz E 1600 b := (k25 63 (by decide)).trans ((k18 63 (by decide)).trans ((k10 63 (by decide)).trans hc63))
        refine F_callV hX (st := [.int (zI t), .ref (eA E 66)]) (c_Mo_weakOf E f24 F19 (bl * t) bl b gF (bl * t) h32 (moK_fr hmk (FrF.tr (FrF.tr (FrF.tr (FrF.rf (S := [4, 5, 6, 7])) k9 (by decide)) k17 (by decide)) k22 (by decide)) (by decide)) h36 hG (fun i h1 h2 => by rw [hag (bl * t + i) (by omega) (by omega)]) (by omega)) cm_Mo_weakOf im_Mo_weakOf se_Mo_weakOf rfl ml_Mo_236 d_Mo_sign_59 (by decide) h32 rfl rfl (Nat.le_of_ble_eq_true rfl) (by decide) ?_
        rintro _ f37 ⟨rfl, e40⟩
        obtain rfl := e40.symm
        refine G_cast (st' := [.long (zL (wkV gF (bl * t) bl)), .int (zI t), .ref (eA E 66)]) ?_ rfl rfl rfl rfl
        refine F_last hX d_Mo_sign_62 66 (by decide) h29 (by omega) (fun f41 h42 k43 => ?_)
        refine G_aload_n hX 0 rfl rfl d_Mo_sign_63 ?_
        refine G_aload_n hX 0 rfl rfl d_Mo_sign_64 ?_
        have h44 : f41 61 = mob F19 := (k43 61 (by decide)).trans h32
        refine M_get hX fg_Mo_240 d_Mo_sign_65 h44 (by decide) h20 ?_
        refine G_iload_n hX 2 rfl rfl d_Mo_sign_68 ?_
        refine G_imul_z hX d_Mo_sign_69 ?_
        refine G_aload_n hX 0 rfl rfl d_Mo_sign_70 ?_
        refine M_get hX fg_Mo_240 d_Mo_sign_71 h44 (by decide) h20 ?_
        have h45 : f41 63 = iz E 1600 b := (k43 63 (by decide)).trans h36
        have h46 : f41 62 = la E 32 kkF := (k43 62 (by decide)).trans ((k25 62 (by decide)).trans ((k18 62 (by decide)).trans ((k10 62 (by decide)).trans hc62)))
        have h47 : f41 65 = la E 4 st1 := (k43 65 (by decide)).trans h28
        refine F_callV hX (st := []) (c_Mo_digestOf E f41 F19 (bl * t) bl b gF (bl * t) st1 h44 (moK_fr hmk (FrF.tr (FrF.tr (FrF.tr (FrF.rf (S := [4, 5, 6, 7])) k9 (by decide)) k17 (by decide)) k22 (by decide)) (by decide)) h45 h46 h47 hG (fun i h1 h2 => by rw [hag (bl * t + i) (by omega) (by omega)]) (by omega)) cm_Mo_digestOf im_Mo_digestOf se_Mo_digestOf rfl ml_Mo_227 d_Mo_sign_74 (by decide) h44 rfl rfl (Nat.le_of_ble_eq_true rfl) (by decide) ?_
        rintro _ f48 ⟨rfl, F51, st'_52, h53, h54, h55, k56, h57, k58⟩
        refine G_cast (st' := []) ?_ rfl rfl rfl rfl
        refine G_aload_n hX 0 rfl rfl d_Mo_sign_77 ?_
        have h59 : F51 9 = .ref (eA E 67) := (k56 9 (by decide)).trans ((k22 9 (by decide)).trans ((k17 9 (by decide)).trans ((k9 9 (by decide)).trans (hmk 9 67 (by decide)))))
        refine M_get hX fg_Mo_94 d_Mo_sign_78 h53 (by decide) h59 ?_
        refine G_iload_n hX 2 rfl rfl d_Mo_sign_81 ?_
        refine G_aload_n hX 0 rfl rfl d_Mo_sign_82 ?_
        refine M_get hX fg_Mo_220 d_Mo_sign_83 h53 (by decide) h54 ?_
        have h60 : f48 67 = la E 75 A1 := (k58 67 (by decide)).trans ((k43 67 (by decide)).trans h30)
        refine F_last hX d_Mo_sign_86 67 (by decide) h60 (by omega) (fun f61 h62 k63 => ?_)
        refine G_aload_n hX 0 rfl rfl d_Mo_sign_87 ?_
        have h64 : f61 61 = mob F51 := (k63 61 (by decide)).trans h53
        have h65 : F51 10 = .ref (eA E 68) := (k56 10 (by decide)).trans ((k22 10 (by decide)).trans ((k17 10 (by decide)).trans ((k9 10 (by decide)).trans (hmk 10 68 (by decide)))))
        refine M_get hX fg_Mo_97 d_Mo_sign_88 h64 (by decide) h65 ?_
        refine G_iload_n hX 2 rfl rfl d_Mo_sign_91 ?_
        refine G_aload_n hX 0 rfl rfl d_Mo_sign_92 ?_
        refine M_get hX fg_Mo_224 d_Mo_sign_93 h64 (by decide) h55 ?_
        have h66 : f61 68 = la E 75 L1 := (k63 68 (by decide)).trans ((k58 68 (by decide)).trans ((k43 68 (by decide)).trans h31))
        refine F_last hX d_Mo_sign_96 68 (by decide) h66 (by omega) (fun f67 h68 k69 => ?_)
        refine G_iinc_z hX (lv' := [(2, .int (zI (t + 1))), (0, .ref (eA E 61)), (1, .int (zI bl))]) 2 rfl (by decide) rfl d_Mo_sign_97 ?_
        refine G_goto hX (tgt := 35) d_Mo_sign_100 rfl ?_
        have h70 : f67 66 = la E 75 (vp_updL W1 (t : Int).toNat (zL (wkV gF (bl * t) bl))) := (k69 66 (by decide)).trans ((k63 66 (by decide)).trans ((k58 66 (by decide)).trans h42))
        have h71 : f67 67 = la E 75 (vp_updL A1 (t : Int).toNat (dgA gF (bl * t) bl)) := (k69 67 (by decide)).trans h62
        have h72 : f67 65 = la E 4 st'_52 := (k69 65 (by decide)).trans ((k63 65 (by decide)).trans h57)
        have h73 : F51 6 = .int (zI bl) := (k56 6 (by decide)).trans h20
        have h74 : F51 7 = .int (zI (sz 0 / bl)) := (k56 7 (by decide)).trans h21
        have h75 : f67 61 = mob F51 := (k69 61 (by decide)).trans h64
        refine G_loc (lv' := [(0, .ref (eA E 61)), (1, .int (zI bl)), (2, .int (zI (t + 1)))]) [1, 2, 0] rfl ?_
        exact ih27 (t + 1) (vp_updL W1 (t : Int).toNat (zL (wkV gF (bl * t) bl))) (vp_updL A1 (t : Int).toNat (dgA gF (bl * t) bl)) (vp_updL L1 (t : Int).toNat (dgB gF (bl * t) bl)) st'_52 F51 f67 (by omega) (by omega) (sg_s hsg ht.1 (by rw [Int.mul_comm]) (by rw [Int.mul_comm]) (by rw [Int.mul_comm])) h73 h74 (FrF.tr (FrF.tr FrF.rf k22 (by decide)) k56 (by decide)) h72 h70 h71 h68 h75 (Fr.tr (Fr.tr (Fr.tr (Fr.tr (Fr.tr Fr.rf k25 (by decide)) k43 (by decide)) k58 (by decide)) k63 (by decide)) k69 (by decide))
  have h76 : F14 6 = .int (zI bl) := (k17 6 (by decide)).trans h8
  have h77 : f13 65 = la E 4 st := (k18 65 (by decide)).trans ((k10 65 (by decide)).trans hc65)
  have h78 : f13 66 = la E 75 W := (k18 66 (by decide)).trans ((k10 66 (by decide)).trans hc66)
  have h79 : f13 67 = la E 75 A := (k18 67 (by decide)).trans ((k10 67 (by decide)).trans hc67)
  have h80 : f13 68 = la E 75 L := (k18 68 (by decide)).trans ((k10 68 (by decide)).trans hc68)
  refine G_loc (lv' := [(0, .ref (eA E 61)), (1, .int (zI bl)), (2, .int (zI 0))]) [1, 2, 0] rfl ?_
  exact loop23 (_ + 1) 0 W A L st F14 f13 (Nat.lt_succ_self _) (by omega) (fun k h1 h2 => by omega) h76 h16 FrF.rf h77 h78 h79 h80 h15 Fr.rf
theorem c_Mo_sign_no (E : EV) (f : Nat → va_E) (F : Nat → Value) (bl : Int) (hMo : f 61 = mob F) (hmk : moK E F) (hbl : bl < 4 ∨ 64 < bl) (hk2 : -2147483648 ≤ bl ∧ bl < 2147483648) : CF yn_Mo_sign cd_Mo_sign 3 (some (.int)) 3 E [.ref (eA E 61), .int (zI bl)] f (fun r f' => r = some (.int (zI (-1))) ∧ f' = f) := by
  refine CF.of (by decide +kernel) (Nat.le_of_ble_eq_true rfl) fun X hX hE => ?_
  have hX : Ok E X "DeltaFerryModel" "sign" cd_Mo_sign 3 (some (.int)) (rl 3) := hX
  refine G_cast (lv' := [(0, .ref (eA E 61)), (1, .int (zI bl))]) ?_ rfl rfl rfl rfl
  refine G_iload_n hX 1 rfl rfl d_Mo_sign_0 ?_
  refine G_iconst hX d_Mo_sign_1 ?_
  refine G_icmp_lt_z hX (tgt := 11) d_Mo_sign_2 rfl (by omega) (fun c1 => ?_) (fun c2 => ?_)
  · skip
    refine G_iconst hX d_Mo_sign_11 ?_
    exact F_iret hX hE d_Mo_sign_12 ⟨rfl, rfl⟩
  · skip
    refine G_iload_n hX 1 rfl rfl d_Mo_sign_5 ?_
    refine G_bipush hX (by decide) d_Mo_sign_6 ?_
    refine G_icmp_le_z hX (tgt := 13) d_Mo_sign_8 rfl (by omega) (fun c3 => ?_) (fun c4 => ?_)
    · skip
      exfalso; omega
    · skip
      refine G_iconst hX d_Mo_sign_11 ?_
      exact F_iret hX hE d_Mo_sign_12 ⟨rfl, rfl⟩
