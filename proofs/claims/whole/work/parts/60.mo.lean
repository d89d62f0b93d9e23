/-! DeltaFerryModel: encode; printed by wip/tools/m_mo10.py -/
theorem adV_b (g : Int → Int) (a n : Int) : 0 ≤ adV g a n ∧ adV g a n < 4294967296 := by
  have := adS_b g a n.toNat
  unfold adV
  omega
theorem ck_by {x : Int} (k : Nat) {y : Int32} (h : 0 ≤ x ∧ x < 4294967296) (hs : ((y.toInt64 &&& 63).toBitVec.smod 64#64).toNat = k) : ((zL x >>> (y.toInt64 &&& 63)) &&& zL 255).toInt32 = zI (x / 2 ^ k % 256) := by
  rw [zL_shr k (by omega) hs, zL_by]
theorem rep_sub {pt : Int → Int} {o c : Int} {L : List Int} (h : rep (fun k => pt (o + k)) c L) : sl (fun k => pt (o + k)) 0 ((L.length : Nat) : Int).toNat = L := by
  have h2 := rep_sl h
  rw [h.1] at h2
  exact h2
theorem hd0 {n v cd cc ca : Int} : hdL n 0 v cd cc ca = nbL n ++ ([0] ++ (nbL cd ++ (nbL cc ++ nbL ca))) := by
  unfold hdL; rw [if_pos rfl, List.append_nil]
theorem hd1 {n v cd cc ca : Int} : hdL n 1 v cd cc ca = nbL n ++ ([0] ++ (nbL cd ++ (nbL cc ++ (nbL ca ++ [v / 16777216 % 256, v / 65536 % 256, v / 256 % 256, v % 256])))) := by
  unfold hdL; rw [if_neg (by decide)]
theorem c_Mo_writeHead (E : EV) (f : Nat → va_E) (F : Nat → Value) (dr : Int → Int) (hMo : f 61 = mob F) (hmk : moK E F) (hc75 : f 75 = iz E 3000 dr) : CF yn_Mo_writeHead cd_Mo_writeHead 1 none 1 E [.ref (eA E 61)] f (fun r f' => r = none ∧ ∃ (F' : Nat → Value) (nd' : Int) (dr' : Int → Int), f' 61 = mob F' ∧ F' 21 = .int (zI nd') ∧ FrF [21] F F' ∧ f' 75 = iz E 3000 dr' ∧ (rep dr' nd' [214, 195, 196, 0, 0]) ∧ Fr [75, 61] f f') := by
  refine CF.of (by decide +kernel) (Nat.le_of_ble_eq_true rfl) fun X hX hE => ?_
  have hX : Ok E X "DeltaFerryModel" "writeHead" cd_Mo_writeHead 1 none (rl 1) := hX
  refine G_cast (lv' := [(0, .ref (eA E 61))]) ?_ rfl rfl rfl rfl
  refine G_aload_n hX 0 rfl rfl d_Mo_writeHead_0 ?_
  refine G_iconst hX d_Mo_writeHead_1 ?_
  refine M_put hX fg_Mo_292 fp_Mo_21 d_Mo_writeHead_2 hMo rfl rfl (by decide) (fun f1 F2 h3 h4 k5 k6 => ?_)
  refine G_aload_n hX 0 rfl rfl d_Mo_writeHead_5 ?_
  refine G_sipush hX (by decide) d_Mo_writeHead_6 ?_
  have h7 : f1 75 = iz E 3000 dr := (k6 75 (by decide)).trans hc75
  refine F_callV hX (st := []) (c_Mo_write E f1 F2 214 0 dr ([]) h3 (moK_fr hmk (FrF.tr (FrF.rf (S := [21])) k5 (by decide)) (by decide)) h4 h7 (rep_0 _) (by first | omega | (simp only [List.length_append, List.length_cons, List.length_nil]; omega))) cm_Mo_write im_Mo_write se_Mo_write rfl ml_Mo_298 d_Mo_writeHead_9 (by decide) h3 rfl rfl (Nat.le_of_ble_eq_true rfl) (by decide) ?_
  rintro _ f8 ⟨rfl, F11, nd'_12, dr'_13, h14, h15, k16, h17, p18, k19⟩
  refine G_cast (st' := []) ?_ rfl rfl rfl rfl
  refine G_aload_n hX 0 rfl rfl d_Mo_writeHead_12 ?_
  refine G_sipush hX (by decide) d_Mo_writeHead_13 ?_
  refine F_callV hX (st := []) (c_Mo_write E f8 F11 195 nd'_12 dr'_13 ([] ++ [214]) h14 (moK_fr hmk (FrF.tr (FrF.tr (FrF.rf (S := [21])) k5 (by decide)) k16 (by decide)) (by decide)) h15 h17 p18 (by first | omega | (simp only [List.length_append, List.length_cons, List.length_nil]; omega))) cm_Mo_write im_Mo_write se_Mo_write rfl ml_Mo_298 d_Mo_writeHead_16 (by decide) h14 rfl rfl (Nat.le_of_ble_eq_true rfl) (by decide) ?_
  rintro _ f20 ⟨rfl, F23, nd'_24, dr'_25, h26, h27, k28, h29, p30, k31⟩
  refine G_cast (st' := []) ?_ rfl rfl rfl rfl
  refine G_aload_n hX 0 rfl rfl d_Mo_writeHead_19 ?_
  refine G_sipush hX (by decide) d_Mo_writeHead_20 ?_
  refine F_callV hX (st := []) (c_Mo_write E f20 F23 196 nd'_24 dr'_25 (([] ++ [214]) ++ [195]) h26 (moK_fr hmk (FrF.tr (FrF.tr (FrF.tr (FrF.rf (S := [21])) k5 (by decide)) k16 (by decide)) k28 (by decide)) (by decide)) h27 h29 p30 (by first | omega | (simp only [List.length_append, List.length_cons, List.length_nil]; omega))) cm_Mo_write im_Mo_write se_Mo_write rfl ml_Mo_298 d_Mo_writeHead_23 (by decide) h26 rfl rfl (Nat.le_of_ble_eq_true rfl) (by decide) ?_
  rintro _ f32 ⟨rfl, F35, nd'_36, dr'_37, h38, h39, k40, h41, p42, k43⟩
  refine G_cast (st' := []) ?_ rfl rfl rfl rfl
  refine G_aload_n hX 0 rfl rfl d_Mo_writeHead_26 ?_
  refine G_iconst hX d_Mo_writeHead_27 ?_
  refine F_callV hX (st := []) (c_Mo_write E f32 F35 0 nd'_36 dr'_37 ((([] ++ [214]) ++ [195]) ++ [196]) h38 (moK_fr hmk (FrF.tr (FrF.tr (FrF.tr (FrF.tr (FrF.rf (S := [21])) k5 (by decide)) k16 (by decide)) k28 (by decide)) k40 (by decide)) (by decide)) h39 h41 p42 (by first | omega | (simp only [List.length_append, List.length_cons, List.length_nil]; omega))) cm_Mo_write im_Mo_write se_Mo_write rfl ml_Mo_298 d_Mo_writeHead_28 (by decide) h38 rfl rfl (Nat.le_of_ble_eq_true rfl) (by decide) ?_
  rintro _ f44 ⟨rfl, F47, nd'_48, dr'_49, h50, h51, k52, h53, p54, k55⟩
  refine G_cast (st' := []) ?_ rfl rfl rfl rfl
  refine G_aload_n hX 0 rfl rfl d_Mo_writeHead_31 ?_
  refine G_iconst hX d_Mo_writeHead_32 ?_
  refine F_callV hX (st := []) (c_Mo_write E f44 F47 0 nd'_48 dr'_49 (((([] ++ [214]) ++ [195]) ++ [196]) ++ [0]) h50 (moK_fr hmk (FrF.tr (FrF.tr (FrF.tr (FrF.tr (FrF.tr (FrF.rf (S := [21])) k5 (by decide)) k16 (by decide)) k28 (by decide)) k40 (by decide)) k52 (by decide)) (by decide)) h51 h53 p54 (by first | omega | (simp only [List.length_append, List.length_cons, List.length_nil]; omega))) cm_Mo_write im_Mo_write se_Mo_write rfl ml_Mo_298 d_Mo_writeHead_33 (by decide) h50 rfl rfl (Nat.le_of_ble_eq_true rfl) (by decide) ?_
  rintro _ f56 ⟨rfl, F59, nd'_60, dr'_61, h62, h63, k64, h65, p66, k67⟩
  refine G_cast (st' := []) ?_ rfl rfl rfl rfl
  exact F_vret hX hE d_Mo_writeHead_36 ⟨rfl, F59, _, _, h62, h63, (FrF.tr (FrF.tr (FrF.tr (FrF.tr (FrF.tr (FrF.tr FrF.rf k5 (by decide)) k16 (by decide)) k28 (by decide)) k40 (by decide)) k52 (by decide)) k64 (by decide)), h65, p66, (Fr.tr (Fr.tr (Fr.tr (Fr.tr (Fr.tr (Fr.tr Fr.rf k6 (by decide)) k19 (by decide)) k31 (by decide)) k43 (by decide)) k55 (by decide)) k67 (by decide))⟩
theorem c_Mo_writeWindow0 (E : EV) (f : Nat → va_E) (F : Nat → Value) (n : Int) (bg : Int) (s : Int) (b : Int → Int) (gF : Int → Int) (pt : Int → Int) (ps : Int → Int) (D : List Int) (C : List Int) (A : List Int) (nd : Int) (dr : Int → Int) (L : List Int) (hMo : f 61 = mob F) (hmk : moK E F) (hF12 : F 12 = .int (zI s)) (hF21 : F 21 = .int (zI nd)) (hc63 : f 63 = iz E 1600 b) (hc76 : f 76 = iz E 3 ps) (hc77 : f 77 = iz E 3000 pt) (hc75 : f 75 = iz E 3000 dr) (hpr : prt pt ps D C A) (hl : (D.length : Int) < 990 ∧ (C.length : Int) < 990 ∧ (A.length : Int) < 990) (hL : (L.length : Int) + D.length + C.length + A.length < 2900) (hr : rep dr nd L) (hs : 0 ≤ s ∧ s ≤ 300) (hn : 0 ≤ bg ∧ 0 ≤ n ∧ bg + n ≤ 300) (hG : isB gF) (hag : ∀ j, 0 ≤ j → j < bg + n → b (300 + j) = gF j) : CF yn_Mo_writeWindow cd_Mo_writeWindow 9 none 2 E [.ref (eA E 61), .int (zI n), .int (zI bg), .int (zI 0)] f (fun r f' => r = none ∧ ∃ (F' : Nat → Value) (nd' : Int) (dr' : Int → Int), f' 61 = mob F' ∧ F' 21 = .int (zI nd') ∧ FrF [21] F F' ∧ f' 75 = iz E 3000 dr' ∧ (rep dr' nd' (L ++ (wsL s 0 ++ (nbL ((((hdL n 0 (adV gF bg n) (D.length : Int) (C.length : Int) (A.length : Int))).length : Int) + (D.length : Int) + (C.length : Int) + (A.length : Int)) ++ ((hdL n 0 (adV gF bg n) (D.length : Int) (C.length : Int) (A.length : Int)) ++ (D ++ (C ++ A))))))) ∧ Fr [75, 61] f f') := by
  refine CF.of (by decide +kernel) (Nat.le_of_ble_eq_true rfl) fun X hX hE => ?_
  have hX : Ok E X "DeltaFerryModel" "writeWindow" cd_Mo_writeWindow 9 none (rl 2) := hX
  refine G_cast (lv' := [(0, .ref (eA E 61)), (1, .int (zI n)), (2, .int (zI bg)), (3, .int (zI 0))]) ?_ rfl rfl rfl rfl
  have hva := adV_b gF bg n
  have n1 := nbL_b (n)
  have n2 := wid_b (n)
  have n3 := nbL_b (s)
  have n4 := wid_b (s)
  have n5 := nbL_b (0)
  have n6 := wid_b (0)
  have n7 := nbL_b ((D.length : Int))
  have n8 := wid_b ((D.length : Int))
  have n9 := nbL_b ((C.length : Int))
  have n10 := wid_b ((C.length : Int))
  have n11 := nbL_b ((A.length : Int))
  have n12 := wid_b ((A.length : Int))
  by_cases hsp : 0 < s
  · skip
    refine G_aload_n hX 0 rfl rfl d_Mo_writeWindow_0 ?_
    refine G_aload_n hX 0 rfl rfl d_Mo_writeWindow_1 ?_
    refine M_get hX fg_Mo_249 d_Mo_writeWindow_2 hMo (by decide) hF12 ?_
    refine G_if_le_z hX (tgt := 12) d_Mo_writeWindow_5 rfl (by omega) (fun c13 => by exfalso; omega) (fun c14 => ?_)
    refine G_iconst hX d_Mo_writeWindow_8 ?_
    refine G_goto hX (tgt := 13) d_Mo_writeWindow_9 rfl ?_
    refine G_iload_n hX 3 rfl rfl d_Mo_writeWindow_13 ?_
    refine G_if_eq_z hX (tgt := 21) d_Mo_writeWindow_14 rfl (by omega) (fun c15 => ?_) (fun c16 => by exfalso; omega)
    refine G_iconst hX d_Mo_writeWindow_21 ?_
    refine G_iadd_z hX d_Mo_writeWindow_22 ?_
    refine F_callV hX (st := []) (c_Mo_write E f F (1 + 0) nd dr L hMo hmk hF21 hc75 hr (by first | omega | (simp only [List.length_append, List.length_cons, List.length_nil]; omega))) cm_Mo_write im_Mo_write se_Mo_write rfl ml_Mo_298 d_Mo_writeWindow_23 (by decide) hMo rfl rfl (Nat.le_of_ble_eq_true rfl) (by decide) ?_
    rintro _ f17 ⟨rfl, F20, nd'_21, dr'_22, h23, h24, k25, h26, p27, k28⟩
    refine G_cast (st' := []) ?_ rfl rfl rfl rfl
    refine G_aload_n hX 0 rfl rfl d_Mo_writeWindow_26 ?_
    have h29 : F20 12 = .int (zI s) := (k25 12 (by decide)).trans hF12
    refine M_get hX fg_Mo_249 d_Mo_writeWindow_27 h23 (by decide) h29 ?_
    refine G_if_le_z hX (tgt := 46) d_Mo_writeWindow_30 rfl (by omega) (fun c30 => by exfalso; omega) (fun c31 => ?_)
    refine G_aload_n hX 0 rfl rfl d_Mo_writeWindow_33 ?_
    refine G_aload_n hX 0 rfl rfl d_Mo_writeWindow_34 ?_
    refine M_get hX fg_Mo_249 d_Mo_writeWindow_35 h23 (by decide) h29 ?_
    refine F_callV hX (st := []) (c_Mo_writeNumber E f17 F20 s nd'_21 dr'_22 (L ++ [1 + 0]) h23 (moK_fr hmk (FrF.tr (FrF.rf (S := [21])) k25 (by decide)) (by decide)) h24 h26 p27 (by first | omega | (simp only [List.length_append, List.length_cons, List.length_nil]; omega)) (by omega)) cm_Mo_writeNumber im_Mo_writeNumber se_Mo_writeNumber rfl ml_Mo_328 d_Mo_writeWindow_38 (by decide) h23 rfl rfl (Nat.le_of_ble_eq_true rfl) (by decide) ?_
    rintro _ f32 ⟨rfl, F35, nd'_36, dr'_37, h38, h39, k40, h41, p42, k43⟩
    refine G_cast (st' := []) ?_ rfl rfl rfl rfl
    refine G_aload_n hX 0 rfl rfl d_Mo_writeWindow_41 ?_
    refine G_iconst hX d_Mo_writeWindow_42 ?_
    refine F_callV hX (st := []) (c_Mo_writeNumber E f32 F35 0 nd'_36 dr'_37 ((L ++ [1 + 0]) ++ nbL s) h38 (moK_fr hmk (FrF.tr (FrF.tr (FrF.rf (S := [21])) k25 (by decide)) k40 (by decide)) (by decide)) h39 h41 p42 (by first | omega | (simp only [List.length_append, List.length_cons, List.length_nil]; omega)) (by omega)) cm_Mo_writeNumber im_Mo_writeNumber se_Mo_writeNumber rfl ml_Mo_328 d_Mo_writeWindow_43 (by decide) h38 rfl rfl (Nat.le_of_ble_eq_true rfl) (by decide) ?_
    rintro _ f44 ⟨rfl, F47, nd'_48, dr'_49, h50, h51, k52, h53, p54, k55⟩
    refine G_cast (st' := []) ?_ rfl rfl rfl rfl
    refine G_iload_n hX 1 rfl rfl d_Mo_writeWindow_46 ?_
    refine F_callS hX (st := []) (c_Mo_widthOf E f44 n (by omega)) cm_Mo_widthOf sm_Mo_widthOf ml_Mo_295 d_Mo_writeWindow_47 rfl rfl (Nat.le_of_ble_eq_true rfl) (by decide) ?_
    rintro _ f56 ⟨rfl, e59⟩
    obtain rfl := e59.symm
    refine G_cast (st' := [.int (zI (wid n))]) ?_ rfl rfl rfl rfl
    refine G_iconst hX d_Mo_writeWindow_50 ?_
    refine G_iadd_z hX d_Mo_writeWindow_51 ?_
    refine G_iload_n hX 3 rfl rfl d_Mo_writeWindow_52 ?_
    refine G_if_eq_z hX (tgt := 60) d_Mo_writeWindow_53 rfl (by omega) (fun c60 => ?_) (fun c61 => by exfalso; omega)
    refine G_iconst hX d_Mo_writeWindow_60 ?_
    refine G_iadd_z hX d_Mo_writeWindow_61 ?_
    refine G_istore hX (lv' := [(4, .int (zI (((wid n) + 1) + 0))), (0, .ref (eA E 61)), (1, .int (zI n)), (2, .int (zI bg)), (3, .int (zI 0))]) (by decide) rfl d_Mo_writeWindow_62 ?_
    refine G_iconst hX d_Mo_writeWindow_64 ?_
    refine G_istore hX (lv' := [(5, .int (zI 0)), (4, .int (zI (((wid n) + 1) + 0))), (0, .ref (eA E 61)), (1, .int (zI n)), (2, .int (zI bg)), (3, .int (zI 0))]) (by decide) rfl d_Mo_writeWindow_65 ?_
    refine G_iload hX 0 rfl d_Mo_writeWindow_67 ?_
    refine G_iconst hX d_Mo_writeWindow_69 ?_
    refine G_icmp_ge_z hX (tgt := 102) d_Mo_writeWindow_70 rfl (by omega) (fun c62 => by exfalso; omega) (fun c63 => ?_)
    refine G_iload hX 1 rfl d_Mo_writeWindow_73 ?_
    refine G_aload_n hX 2 rfl rfl d_Mo_writeWindow_75 ?_
    have h64 : F47 23 = .ref (eA E 76) := (k52 23 (by decide)).trans ((k40 23 (by decide)).trans ((k25 23 (by decide)).trans (hmk 23 76 (by decide))))
    refine M_get hX fg_Mo_124 d_Mo_writeWindow_76 h50 (by decide) h64 ?_
    refine G_iload hX 0 rfl d_Mo_writeWindow_79 ?_
    have h65 : f44 76 = iz E 3 ps := (k55 76 (by decide)).trans ((k43 76 (by decide)).trans ((k28 76 (by decide)).trans hc76))
    refine F_iald hX d_Mo_writeWindow_81 76 (by decide) h65 (by omega) ?_
    refine G_top (show zI (ps 0) = zI ((D.length : Nat) : Int) from congrArg zI hpr.1.1) ?_
    refine F_callS hX (st := [.int (zI (((wid n) + 1) + 0))]) (c_Mo_widthOf E f44 ((D.length : Nat) : Int) (by omega)) cm_Mo_widthOf sm_Mo_widthOf ml_Mo_295 d_Mo_writeWindow_82 rfl rfl (Nat.le_of_ble_eq_true rfl) (by decide) ?_
    rintro _ f66 ⟨rfl, e69⟩
    obtain rfl := e69.symm
    refine G_cast (st' := [.int (zI (wid ((D.length : Nat) : Int))), .int (zI (((wid n) + 1) + 0))]) ?_ rfl rfl rfl rfl
    refine G_iadd_z hX d_Mo_writeWindow_85 ?_
    refine G_aload_n hX 2 rfl rfl d_Mo_writeWindow_86 ?_
    refine M_get hX fg_Mo_124 d_Mo_writeWindow_87 h50 (by decide) h64 ?_
    refine G_iload hX 0 rfl d_Mo_writeWindow_90 ?_
    refine F_iald hX d_Mo_writeWindow_92 76 (by decide) h65 (by omega) ?_
    refine G_top (show zI (ps 0) = zI ((D.length : Nat) : Int) from congrArg zI hpr.1.1) ?_
    refine G_iadd_z hX d_Mo_writeWindow_93 ?_
    refine G_istore hX (lv' := [(4, .int (zI (((((wid n) + 1) + 0) + (wid ((D.length : Nat) : Int))) + ((D.length : Nat) : Int)))), (5, .int (zI 0)), (0, .ref (eA E 61)), (1, .int (zI n)), (2, .int (zI bg)), (3, .int (zI 0))]) (by decide) rfl d_Mo_writeWindow_94 ?_
    refine G_iinc_z hX (lv' := [(5, .int (zI (0 + 1))), (4, .int (zI (((((wid n) + 1) + 0) + (wid ((D.length : Nat) : Int))) + ((D.length : Nat) : Int)))), (0, .ref (eA E 61)), (1, .int (zI n)), (2, .int (zI bg)), (3, .int (zI 0))]) 1 rfl (by decide) rfl d_Mo_writeWindow_96 ?_
    refine G_goto hX (tgt := 67) d_Mo_writeWindow_99 rfl ?_
    refine G_iload hX 0 rfl d_Mo_writeWindow_67 ?_
    refine G_iconst hX d_Mo_writeWindow_69 ?_
    refine G_icmp_ge_z hX (tgt := 102) d_Mo_writeWindow_70 rfl (by omega) (fun c70 => by exfalso; omega) (fun c71 => ?_)
    refine G_iload hX 1 rfl d_Mo_writeWindow_73 ?_
    refine G_aload_n hX 2 rfl rfl d_Mo_writeWindow_75 ?_
    refine M_get hX fg_Mo_124 d_Mo_writeWindow_76 h50 (by decide) h64 ?_
    refine G_iload hX 0 rfl d_Mo_writeWindow_79 ?_
    refine F_iald hX d_Mo_writeWindow_81 76 (by decide) h65 (by omega) ?_
    refine G_top (show zI (ps (0 + 1)) = zI ((C.length : Nat) : Int) from congrArg zI hpr.2.1.1) ?_
    refine F_callS hX (st := [.int (zI (((((wid n) + 1) + 0) + (wid ((D.length : Nat) : Int))) + ((D.length : Nat) : Int)))]) (c_Mo_widthOf E f44 ((C.length : Nat) : Int) (by omega)) cm_Mo_widthOf sm_Mo_widthOf ml_Mo_295 d_Mo_writeWindow_82 rfl rfl (Nat.le_of_ble_eq_true rfl) (by decide) ?_
    rintro _ f72 ⟨rfl, e75⟩
    obtain rfl := e75.symm
    refine G_cast (st' := [.int (zI (wid ((C.length : Nat) : Int))), .int (zI (((((wid n) + 1) + 0) + (wid ((D.length : Nat) : Int))) + ((D.length : Nat) : Int)))]) ?_ rfl rfl rfl rfl
    refine G_iadd_z hX d_Mo_writeWindow_85 ?_
    refine G_aload_n hX 2 rfl rfl d_Mo_writeWindow_86 ?_
    refine M_get hX fg_Mo_124 d_Mo_writeWindow_87 h50 (by decide) h64 ?_
    refine G_iload hX 0 rfl d_Mo_writeWindow_90 ?_
    refine F_iald hX d_Mo_writeWindow_92 76 (by decide) h65 (by omega) ?_
    refine G_top (show zI (ps (0 + 1)) = zI ((C.length : Nat) : Int) from congrArg zI hpr.2.1.1) ?_
    refine G_iadd_z hX d_Mo_writeWindow_93 ?_
    refine G_istore hX (lv' := [(4, .int (zI (((((((wid n) + 1) + 0) + (wid ((D.length : Nat) : Int))) + ((D.length : Nat) : Int)) + (wid ((C.length : Nat) : Int))) + ((C.length : Nat) : Int)))), (5, .int (zI (0 + 1))), (0, .ref (eA E 61)), (1, .int (zI n)), (2, .int (zI bg)), (3, .int (zI 0))]) (by decide) rfl d_Mo_writeWindow_94 ?_
    refine G_iinc_z hX (lv' := [(5, .int (zI ((0 + 1) + 1))), (4, .int (zI (((((((wid n) + 1) + 0) + (wid ((D.length : Nat) : Int))) + ((D.length : Nat) : Int)) + (wid ((C.length : Nat) : Int))) + ((C.length : Nat) : Int)))), (0, .ref (eA E 61)), (1, .int (zI n)), (2, .int (zI bg)), (3, .int (zI 0))]) 1 rfl (by decide) rfl d_Mo_writeWindow_96 ?_
    refine G_goto hX (tgt := 67) d_Mo_writeWindow_99 rfl ?_
    refine G_iload hX 0 rfl d_Mo_writeWindow_67 ?_
    refine G_iconst hX d_Mo_writeWindow_69 ?_
    refine G_icmp_ge_z hX (tgt := 102) d_Mo_writeWindow_70 rfl (by omega) (fun c76 => by exfalso; omega) (fun c77 => ?_)
    refine G_iload hX 1 rfl d_Mo_writeWindow_73 ?_
    refine G_aload_n hX 2 rfl rfl d_Mo_writeWindow_75 ?_
    refine M_get hX fg_Mo_124 d_Mo_writeWindow_76 h50 (by decide) h64 ?_
    refine G_iload hX 0 rfl d_Mo_writeWindow_79 ?_
    refine F_iald hX d_Mo_writeWindow_81 76 (by decide) h65 (by omega) ?_
    refine G_top (show zI (ps ((0 + 1) + 1)) = zI ((A.length : Nat) : Int) from congrArg zI hpr.2.2.1) ?_
    refine F_callS hX (st := [.int (zI (((((((wid n) + 1) + 0) + (wid ((D.length : Nat) : Int))) + ((D.length : Nat) : Int)) + (wid ((C.length : Nat) : Int))) + ((C.length : Nat) : Int)))]) (c_Mo_widthOf E f44 ((A.length : Nat) : Int) (by omega)) cm_Mo_widthOf sm_Mo_widthOf ml_Mo_295 d_Mo_writeWindow_82 rfl rfl (Nat.le_of_ble_eq_true rfl) (by decide) ?_
    rintro _ f78 ⟨rfl, e81⟩
    obtain rfl := e81.symm
    refine G_cast (st' := [.int (zI (wid ((A.length : Nat) : Int))), .int (zI (((((((wid n) + 1) + 0) + (wid ((D.length : Nat) : Int))) + ((D.length : Nat) : Int)) + (wid ((C.length : Nat) : Int))) + ((C.length : Nat) : Int)))]) ?_ rfl rfl rfl rfl
    refine G_iadd_z hX d_Mo_writeWindow_85 ?_
    refine G_aload_n hX 2 rfl rfl d_Mo_writeWindow_86 ?_
    refine M_get hX fg_Mo_124 d_Mo_writeWindow_87 h50 (by decide) h64 ?_
    refine G_iload hX 0 rfl d_Mo_writeWindow_90 ?_
    refine F_iald hX d_Mo_writeWindow_92 76 (by decide) h65 (by omega) ?_
    refine G_top (show zI (ps ((0 + 1) + 1)) = zI ((A.length : Nat) : Int) from congrArg zI hpr.2.2.1) ?_
    refine G_iadd_z hX d_Mo_writeWindow_93 ?_
    refine G_istore hX (lv' := [(4, .int (zI (((((((((wid n) + 1) + 0) + (wid ((D.length : Nat) : Int))) + ((D.length : Nat) : Int)) + (wid ((C.length : Nat) : Int))) + ((C.length : Nat) : Int)) + (wid ((A.length : Nat) : Int))) + ((A.length : Nat) : Int)))), (5, .int (zI ((0 + 1) + 1))), (0, .ref (eA E 61)), (1, .int (zI n)), (2, .int (zI bg)), (3, .int (zI 0))]) (by decide) rfl d_Mo_writeWindow_94 ?_
    refine G_iinc_z hX (lv' := [(5, .int (zI (((0 + 1) + 1) + 1))), (4, .int (zI (((((((((wid n) + 1) + 0) + (wid ((D.length : Nat) : Int))) + ((D.length : Nat) : Int)) + (wid ((C.length : Nat) : Int))) + ((C.length : Nat) : Int)) + (wid ((A.length : Nat) : Int))) + ((A.length : Nat) : Int)))), (0, .ref (eA E 61)), (1, .int (zI n)), (2, .int (zI bg)), (3, .int (zI 0))]) 1 rfl (by decide) rfl d_Mo_writeWindow_96 ?_
    refine G_goto hX (tgt := 67) d_Mo_writeWindow_99 rfl ?_
    refine G_iload hX 0 rfl d_Mo_writeWindow_67 ?_
    refine G_iconst hX d_Mo_writeWindow_69 ?_
    refine G_icmp_ge_z hX (tgt := 102) d_Mo_writeWindow_70 rfl (by omega) (fun c82 => ?_) (fun c83 => by exfalso; omega)
    refine G_aload_n hX 2 rfl rfl d_Mo_writeWindow_102 ?_
    refine G_iload hX 1 rfl d_Mo_writeWindow_103 ?_
    have hhl := hdL_l (n := n) (ck := 0) (v := adV gF bg n) (cd := (D.length : Int)) (cc := (C.length : Int)) (ca := (A.length : Int))
    rw [if_pos rfl] at hhl
    refine G_top (show zI (((((((((wid n) + 1) + 0) + (wid ((D.length : Nat) : Int))) + ((D.length : Nat) : Int)) + (wid ((C.length : Nat) : Int))) + ((C.length : Nat) : Int)) + (wid ((A.length : Nat) : Int))) + ((A.length : Nat) : Int)) = zI ((((hdL n 0 (adV gF bg n) (D.length : Int) (C.length : Int) (A.length : Int))).length : Int) + (D.length : Int) + (C.length : Int) + (A.length : Int)) from congrArg zI (by omega)) ?_
    have n84 := nbL_b ((((hdL n 0 (adV gF bg n) (D.length : Int) (C.length : Int) (A.length : Int))).length : Int) + (D.length : Int) + (C.length : Int) + (A.length : Int))
    refine F_callV hX (st := []) (c_Mo_writeNumber E f44 F47 ((((hdL n 0 (adV gF bg n) (D.length : Int) (C.length : Int) (A.length : Int))).length : Int) + (D.length : Int) + (C.length : Int) + (A.length : Int)) nd'_48 dr'_49 (((L ++ [1 + 0]) ++ nbL s) ++ nbL 0) h50 (moK_fr hmk (FrF.tr (FrF.tr (FrF.tr (FrF.rf (S := [21])) k25 (by decide)) k40 (by decide)) k52 (by decide)) (by decide)) h51 h53 p54 (by first | omega | (simp only [List.length_append, List.length_cons, List.length_nil]; omega)) (by omega)) cm_Mo_writeNumber im_Mo_writeNumber se_Mo_writeNumber rfl ml_Mo_328 d_Mo_writeWindow_105 (by decide) h50 rfl rfl (Nat.le_of_ble_eq_true rfl) (by decide) ?_
    rintro _ f85 ⟨rfl, F88, nd'_89, dr'_90, h91, h92, k93, h94, p95, k96⟩
    refine G_cast (st' := []) ?_ rfl rfl rfl rfl
    refine G_aload_n hX 2 rfl rfl d_Mo_writeWindow_108 ?_
    refine G_iload_n hX 3 rfl rfl d_Mo_writeWindow_109 ?_
    refine F_callV hX (st := []) (c_Mo_writeNumber E f85 F88 n nd'_89 dr'_90 ((((L ++ [1 + 0]) ++ nbL s) ++ nbL 0) ++ nbL ((((hdL n 0 (adV gF bg n) (D.length : Int) (C.length : Int) (A.length : Int))).length : Int) + (D.length : Int) + (C.length : Int) + (A.length : Int))) h91 (moK_fr hmk (FrF.tr (FrF.tr (FrF.tr (FrF.tr (FrF.rf (S := [21])) k25 (by decide)) k40 (by decide)) k52 (by decide)) k93 (by decide)) (by decide)) h92 h94 p95 (by first | omega | (simp only [List.length_append, List.length_cons, List.length_nil]; omega)) (by omega)) cm_Mo_writeNumber im_Mo_writeNumber se_Mo_writeNumber rfl ml_Mo_328 d_Mo_writeWindow_110 (by decide) h91 rfl rfl (Nat.le_of_ble_eq_true rfl) (by decide) ?_
    rintro _ f97 ⟨rfl, F100, nd'_101, dr'_102, h103, h104, k105, h106, p107, k108⟩
    refine G_cast (st' := []) ?_ rfl rfl rfl rfl
    refine G_aload_n hX 2 rfl rfl d_Mo_writeWindow_113 ?_
    refine G_iconst hX d_Mo_writeWindow_114 ?_
    refine F_callV hX (st := []) (c_Mo_write E f97 F100 0 nd'_101 dr'_102 (((((L ++ [1 + 0]) ++ nbL s) ++ nbL 0) ++ nbL ((((hdL n 0 (adV gF bg n) (D.length : Int) (C.length : Int) (A.length : Int))).length : Int) + (D.length : Int) + (C.length : Int) + (A.length : Int))) ++ nbL n) h103 (moK_fr hmk (FrF.tr (FrF.tr (FrF.tr (FrF.tr (FrF.tr (FrF.rf (S := [21])) k25 (by decide)) k40 (by decide)) k52 (by decide)) k93 (by decide)) k105 (by decide)) (by decide)) h104 h106 p107 (by first | omega | (simp only [List.length_append, List.length_cons, List.length_nil]; omega))) cm_Mo_write im_Mo_write se_Mo_write rfl ml_Mo_298 d_Mo_writeWindow_115 (by decide) h103 rfl rfl (Nat.le_of_ble_eq_true rfl) (by decide) ?_
    rintro _ f109 ⟨rfl, F112, nd'_113, dr'_114, h115, h116, k117, h118, p119, k120⟩
    refine G_cast (st' := []) ?_ rfl rfl rfl rfl
    refine G_iconst hX d_Mo_writeWindow_118 ?_
    refine G_istore hX (lv' := [(5, .int (zI 0)), (4, .int (zI (((((((((wid n) + 1) + 0) + (wid ((D.length : Nat) : Int))) + ((D.length : Nat) : Int)) + (wid ((C.length : Nat) : Int))) + ((C.length : Nat) : Int)) + (wid ((A.length : Nat) : Int))) + ((A.length : Nat) : Int)))), (0, .ref (eA E 61)), (1, .int (zI n)), (2, .int (zI bg)), (3, .int (zI 0))]) (by decide) rfl d_Mo_writeWindow_119 ?_
    refine G_iload hX 0 rfl d_Mo_writeWindow_121 ?_
    refine G_iconst hX d_Mo_writeWindow_123 ?_
    refine G_icmp_ge_z hX (tgt := 144) d_Mo_writeWindow_124 rfl (by omega) (fun c121 => by exfalso; omega) (fun c122 => ?_)
    refine G_aload_n hX 2 rfl rfl d_Mo_writeWindow_127 ?_
    refine G_aload_n hX 2 rfl rfl d_Mo_writeWindow_128 ?_
    have h123 : F112 23 = .ref (eA E 76) := (k117 23 (by decide)).trans ((k105 23 (by decide)).trans ((k93 23 (by decide)).trans h64))
    refine M_get hX fg_Mo_124 d_Mo_writeWindow_129 h115 (by decide) h123 ?_
    refine G_iload hX 0 rfl d_Mo_writeWindow_132 ?_
    have h124 : f109 76 = iz E 3 ps := (k120 76 (by decide)).trans ((k108 76 (by decide)).trans ((k96 76 (by decide)).trans h65))
    refine F_iald hX d_Mo_writeWindow_134 76 (by decide) h124 (by omega) ?_
    refine G_top (show zI (ps 0) = zI ((D.length : Nat) : Int) from congrArg zI hpr.1.1) ?_
    refine F_callV hX (st := []) (c_Mo_writeNumber E f109 F112 ((D.length : Nat) : Int) nd'_113 dr'_114 ((((((L ++ [1 + 0]) ++ nbL s) ++ nbL 0) ++ nbL ((((hdL n 0 (adV gF bg n) (D.length : Int) (C.length : Int) (A.length : Int))).length : Int) + (D.length : Int) + (C.length : Int) + (A.length : Int))) ++ nbL n) ++ [0]) h115 (moK_fr hmk (FrF.tr (FrF.tr (FrF.tr (FrF.tr (FrF.tr (FrF.tr (FrF.rf (S := [21])) k25 (by decide)) k40 (by decide)) k52 (by decide)) k93 (by decide)) k105 (by decide)) k117 (by decide)) (by decide)) h116 h118 p119 (by first | omega | (simp only [List.length_append, List.length_cons, List.length_nil]; omega)) (by omega)) cm_Mo_writeNumber im_Mo_writeNumber se_Mo_writeNumber rfl ml_Mo_328 d_Mo_writeWindow_135 (by decide) h115 rfl rfl (Nat.le_of_ble_eq_true rfl) (by decide) ?_
    rintro _ f125 ⟨rfl, F128, nd'_129, dr'_130, h131, h132, k133, h134, p135, k136⟩
    refine G_cast (st' := []) ?_ rfl rfl rfl rfl
    refine G_iinc_z hX (lv' := [(5, .int (zI (0 + 1))), (4, .int (zI (((((((((wid n) + 1) + 0) + (wid ((D.length : Nat) : Int))) + ((D.length : Nat) : Int)) + (wid ((C.length : Nat) : Int))) + ((C.length : Nat) : Int)) + (wid ((A.length : Nat) : Int))) + ((A.length : Nat) : Int)))), (0, .ref (eA E 61)), (1, .int (zI n)), (2, .int (zI bg)), (3, .int (zI 0))]) 0 rfl (by decide) rfl d_Mo_writeWindow_138 ?_
    refine G_goto hX (tgt := 121) d_Mo_writeWindow_141 rfl ?_
    refine G_iload hX 0 rfl d_Mo_writeWindow_121 ?_
    refine G_iconst hX d_Mo_writeWindow_123 ?_
    refine G_icmp_ge_z hX (tgt := 144) d_Mo_writeWindow_124 rfl (by omega) (fun c137 => by exfalso; omega) (fun c138 => ?_)
    refine G_aload_n hX 2 rfl rfl d_Mo_writeWindow_127 ?_
    refine G_aload_n hX 2 rfl rfl d_Mo_writeWindow_128 ?_
    have h139 : F128 23 = .ref (eA E 76) := (k133 23 (by decide)).trans h123
    refine M_get hX fg_Mo_124 d_Mo_writeWindow_129 h131 (by decide) h139 ?_
    refine G_iload hX 0 rfl d_Mo_writeWindow_132 ?_
    have h140 : f125 76 = iz E 3 ps := (k136 76 (by decide)).trans h124
    refine F_iald hX d_Mo_writeWindow_134 76 (by decide) h140 (by omega) ?_
    refine G_top (show zI (ps (0 + 1)) = zI ((C.length : Nat) : Int) from congrArg zI hpr.2.1.1) ?_
    refine F_callV hX (st := []) (c_Mo_writeNumber E f125 F128 ((C.length : Nat) : Int) nd'_129 dr'_130 (((((((L ++ [1 + 0]) ++ nbL s) ++ nbL 0) ++ nbL ((((hdL n 0 (adV gF bg n) (D.length : Int) (C.length : Int) (A.length : Int))).length : Int) + (D.length : Int) + (C.length : Int) + (A.length : Int))) ++ nbL n) ++ [0]) ++ nbL ((D.length : Nat) : Int)) h131 (moK_fr hmk (FrF.tr (FrF.tr (FrF.tr (FrF.tr (FrF.tr (FrF.tr (FrF.tr (FrF.rf (S := [21])) k25 (by decide)) k40 (by decide)) k52 (by decide)) k93 (by decide)) k105 (by decide)) k117 (by decide)) k133 (by decide)) (by decide)) h132 h134 p135 (by first | omega | (simp only [List.length_append, List.length_cons, List.length_nil]; omega)) (by omega)) cm_Mo_writeNumber im_Mo_writeNumber se_Mo_writeNumber rfl ml_Mo_328 d_Mo_writeWindow_135 (by decide) h131 rfl rfl (Nat.le_of_ble_eq_true rfl) (by decide) ?_
    rintro _ f141 ⟨rfl, F144, nd'_145, dr'_146, h147, h148, k149, h150, p151, k152⟩
    refine G_cast (st' := []) ?_ rfl rfl rfl rfl
    refine G_iinc_z hX (lv' := [(5, .int (zI ((0 + 1) + 1))), (4, .int (zI (((((((((wid n) + 1) + 0) + (wid ((D.length : Nat) : Int))) + ((D.length : Nat) : Int)) + (wid ((C.length : Nat) : Int))) + ((C.length : Nat) : Int)) + (wid ((A.length : Nat) : Int))) + ((A.length : Nat) : Int)))), (0, .ref (eA E 61)), (1, .int (zI n)), (2, .int (zI bg)), (3, .int (zI 0))]) 0 rfl (by decide) rfl d_Mo_writeWindow_138 ?_
    refine G_goto hX (tgt := 121) d_Mo_writeWindow_141 rfl ?_
    refine G_iload hX 0 rfl d_Mo_writeWindow_121 ?_
    refine G_iconst hX d_Mo_writeWindow_123 ?_
    refine G_icmp_ge_z hX (tgt := 144) d_Mo_writeWindow_124 rfl (by omega) (fun c153 => by exfalso; omega) (fun c154 => ?_)
    refine G_aload_n hX 2 rfl rfl d_Mo_writeWindow_127 ?_
    refine G_aload_n hX 2 rfl rfl d_Mo_writeWindow_128 ?_
    have h155 : F144 23 = .ref (eA E 76) := (k149 23 (by decide)).trans h139
    refine M_get hX fg_Mo_124 d_Mo_writeWindow_129 h147 (by decide) h155 ?_
    refine G_iload hX 0 rfl d_Mo_writeWindow_132 ?_
    have h156 : f141 76 = iz E 3 ps := (k152 76 (by decide)).trans h140
    refine F_iald hX d_Mo_writeWindow_134 76 (by decide) h156 (by omega) ?_
    refine G_top (show zI (ps ((0 + 1) + 1)) = zI ((A.length : Nat) : Int) from congrArg zI hpr.2.2.1) ?_
    refine F_callV hX (st := []) (c_Mo_writeNumber E f141 F144 ((A.length : Nat) : Int) nd'_145 dr'_146 ((((((((L ++ [1 + 0]) ++ nbL s) ++ nbL 0) ++ nbL ((((hdL n 0 (adV gF bg n) (D.length : Int) (C.length : Int) (A.length : Int))).length : Int) + (D.length : Int) + (C.length : Int) + (A.length : Int))) ++ nbL n) ++ [0]) ++ nbL ((D.length : Nat) : Int)) ++ nbL ((C.length : Nat) : Int)) h147 (moK_fr hmk (FrF.tr (FrF.tr (FrF.tr (FrF.tr (FrF.tr (FrF.tr (FrF.tr (FrF.tr (FrF.rf (S := [21])) k25 (by decide)) k40 (by decide)) k52 (by decide)) k93 (by decide)) k105 (by decide)) k117 (by decide)) k133 (by decide)) k149 (by decide)) (by decide)) h148 h150 p151 (by first | omega | (simp only [List.length_append, List.length_cons, List.length_nil]; omega)) (by omega)) cm_Mo_writeNumber im_Mo_writeNumber se_Mo_writeNumber rfl ml_Mo_328 d_Mo_writeWindow_135 (by decide) h147 rfl rfl (Nat.le_of_ble_eq_true rfl) (by decide) ?_
    rintro _ f157 ⟨rfl, F160, nd'_161, dr'_162, h163, h164, k165, h166, p167, k168⟩
    refine G_cast (st' := []) ?_ rfl rfl rfl rfl
    refine G_iinc_z hX (lv' := [(5, .int (zI (((0 + 1) + 1) + 1))), (4, .int (zI (((((((((wid n) + 1) + 0) + (wid ((D.length : Nat) : Int))) + ((D.length : Nat) : Int)) + (wid ((C.length : Nat) : Int))) + ((C.length : Nat) : Int)) + (wid ((A.length : Nat) : Int))) + ((A.length : Nat) : Int)))), (0, .ref (eA E 61)), (1, .int (zI n)), (2, .int (zI bg)), (3, .int (zI 0))]) 0 rfl (by decide) rfl d_Mo_writeWindow_138 ?_
    refine G_goto hX (tgt := 121) d_Mo_writeWindow_141 rfl ?_
    refine G_iload hX 0 rfl d_Mo_writeWindow_121 ?_
    refine G_iconst hX d_Mo_writeWindow_123 ?_
    refine G_icmp_ge_z hX (tgt := 144) d_Mo_writeWindow_124 rfl (by omega) (fun c169 => ?_) (fun c170 => by exfalso; omega)
    refine G_aload_n hX 2 rfl rfl d_Mo_writeWindow_144 ?_
    refine G_iconst hX d_Mo_writeWindow_145 ?_
    refine G_iload_n hX 4 rfl rfl d_Mo_writeWindow_146 ?_
    refine G_iload_n hX 3 rfl rfl d_Mo_writeWindow_147 ?_
    have h171 : f157 63 = iz E 1600 b := (k168 63 (by decide)).trans ((k152 63 (by decide)).trans ((k136 63 (by decide)).trans ((k120 63 (by decide)).trans ((k108 63 (by decide)).trans ((k96 63 (by decide)).trans ((k55 63 (by decide)).trans ((k43 63 (by decide)).trans ((k28 63 (by decide)).trans hc63))))))))
    refine F_callV hX (st := []) (c_Mo_checkNew E f157 F160 bg n b gF bg h163 (moK_fr hmk (FrF.tr (FrF.tr (FrF.tr (FrF.tr (FrF.tr (FrF.tr (FrF.tr (FrF.tr (FrF.tr (FrF.rf (S := [21])) k25 (by decide)) k40 (by decide)) k52 (by decide)) k93 (by decide)) k105 (by decide)) k117 (by decide)) k133 (by decide)) k149 (by decide)) k165 (by decide)) (by decide)) h171 hG (fun i h1 h2 => by rw [Int.add_assoc]; exact hag (bg + i) (by omega) (by omega)) (by omega)) cm_Mo_checkOf im_Mo_checkOf se_Mo_checkOf rfl ml_Mo_331 d_Mo_writeWindow_148 (by decide) h163 rfl rfl (Nat.le_of_ble_eq_true rfl) (by decide) ?_
    rintro _ f172 ⟨rfl, e175⟩
    obtain rfl := e175.symm
    refine G_cast (st' := [.long (zL (adV gF bg n))]) ?_ rfl rfl rfl rfl
    refine G_lstore hX (lv' := [(5, .long (zL (adV gF bg n))), (4, .int (zI (((((((((wid n) + 1) + 0) + (wid ((D.length : Nat) : Int))) + ((D.length : Nat) : Int)) + (wid ((C.length : Nat) : Int))) + ((C.length : Nat) : Int)) + (wid ((A.length : Nat) : Int))) + ((A.length : Nat) : Int)))), (0, .ref (eA E 61)), (1, .int (zI n)), (2, .int (zI bg)), (3, .int (zI 0))]) (by decide) rfl d_Mo_writeWindow_151 ?_
    refine G_bipush hX (by decide) d_Mo_writeWindow_153 ?_
    refine G_istore hX (lv' := [(7, .int (zI 24)), (5, .long (zL (adV gF bg n))), (4, .int (zI (((((((((wid n) + 1) + 0) + (wid ((D.length : Nat) : Int))) + ((D.length : Nat) : Int)) + (wid ((C.length : Nat) : Int))) + ((C.length : Nat) : Int)) + (wid ((A.length : Nat) : Int))) + ((A.length : Nat) : Int)))), (0, .ref (eA E 61)), (1, .int (zI n)), (2, .int (zI bg)), (3, .int (zI 0))]) (by decide) rfl d_Mo_writeWindow_155 ?_
    refine G_iload hX 0 rfl d_Mo_writeWindow_157 ?_
    refine G_if_lt_z hX (tgt := 186) d_Mo_writeWindow_159 rfl (by omega) (fun c176 => by exfalso; omega) (fun c177 => ?_)
    refine G_iload_n hX 6 rfl rfl d_Mo_writeWindow_162 ?_
    refine G_if_eq_z hX (tgt := 186) d_Mo_writeWindow_163 rfl (by omega) (fun c178 => ?_) (fun c179 => by exfalso; omega)
    refine G_iconst hX d_Mo_writeWindow_186 ?_
    refine G_istore hX (lv' := [(7, .int (zI 0)), (5, .long (zL (adV gF bg n))), (4, .int (zI (((((((((wid n) + 1) + 0) + (wid ((D.length : Nat) : Int))) + ((D.length : Nat) : Int)) + (wid ((C.length : Nat) : Int))) + ((C.length : Nat) : Int)) + (wid ((A.length : Nat) : Int))) + ((A.length : Nat) : Int)))), (0, .ref (eA E 61)), (1, .int (zI n)), (2, .int (zI bg)), (3, .int (zI 0))]) (by decide) rfl d_Mo_writeWindow_187 ?_
    refine G_iload hX 0 rfl d_Mo_writeWindow_189 ?_
    refine G_iconst hX d_Mo_writeWindow_191 ?_
    refine G_icmp_ge_z hX (tgt := 240) d_Mo_writeWindow_192 rfl (by omega) (fun c180 => by exfalso; omega) (fun c181 => ?_)
    refine G_iconst hX d_Mo_writeWindow_195 ?_
    refine G_istore hX (lv' := [(8, .int (zI 0)), (7, .int (zI 0)), (5, .long (zL (adV gF bg n))), (4, .int (zI (((((((((wid n) + 1) + 0) + (wid ((D.length : Nat) : Int))) + ((D.length : Nat) : Int)) + (wid ((C.length : Nat) : Int))) + ((C.length : Nat) : Int)) + (wid ((A.length : Nat) : Int))) + ((A.length : Nat) : Int)))), (0, .ref (eA E 61)), (1, .int (zI n)), (2, .int (zI bg)), (3, .int (zI 0))]) (by decide) rfl d_Mo_writeWindow_196 ?_
    have loop185 : ∀ (q : Nat) (t0 : Int) (nd0 : Int) (dr0 : Int → Int) (F182 : Nat → Value) (f186 : Nat → va_E), ((D.length : Int) - t0).toNat < q → (0 ≤ t0 ∧ t0 ≤ (D.length : Int)) → (rep dr0 nd0 ((((((((((L ++ [1 + 0]) ++ nbL s) ++ nbL 0) ++ nbL ((((hdL n 0 (adV gF bg n) (D.length : Int) (C.length : Int) (A.length : Int))).length : Int) + (D.length : Int) + (C.length : Int) + (A.length : Int))) ++ nbL n) ++ [0]) ++ nbL ((D.length : Nat) : Int)) ++ nbL ((C.length : Nat) : Int)) ++ nbL ((A.length : Nat) : Int)) ++ sl (fun k => pt (0 + k)) 0 t0.toNat)) → (F182 21 = .int (zI nd0)) → (FrF [21] F160 F182) → f186 75 = iz E 3000 dr0 → f186 61 = mob F182 → Fr [75, 61] f157 f186 → G E X 0 0 198 [(0, .ref (eA E 61)), (7, .int (zI 0)), (8, .int (zI t0))] [] (wl E f186) := by
      intro q
      induction q with
      | zero => intro t0 nd0 dr0 F182 f186 hms188; exact absurd hms188 (Nat.not_lt_zero _)
      | succ q ih189 =>
        intro t0 nd0 dr0 F182 f186 hms188 ht0 hr0 h183 k184 h190 h191 k187
        refine G_iload hX 2 rfl d_Mo_writeWindow_198 ?_
        refine G_aload_n hX 0 rfl rfl d_Mo_writeWindow_200 ?_
        have h192 : F182 23 = .ref (eA E 76) := (k184 23 (by decide)).trans ((k165 23 (by decide)).trans h155)
        refine M_get hX fg_Mo_124 d_Mo_writeWindow_201 h191 (by decide) h192 ?_
        refine G_iload hX 1 rfl d_Mo_writeWindow_204 ?_
        have h193 : f186 76 = iz E 3 ps := (k187 76 (by decide)).trans ((k168 76 (by decide)).trans h156)
        refine F_iald hX d_Mo_writeWindow_206 76 (by decide) h193 (by omega) ?_
        refine G_top (show zI (ps 0) = zI ((D.length : Nat) : Int) from congrArg zI hpr.1.1) ?_
        refine G_icmp_ge_z hX (tgt := 234) d_Mo_writeWindow_207 rfl (by omega) (fun c194 => ?_) (fun c195 => ?_)
        · skip
          have et0 : t0 = (D.length : Int) := by omega
          have hs0 : (((((((((L ++ [1 + 0]) ++ nbL s) ++ nbL 0) ++ nbL ((((hdL n 0 (adV gF bg n) (D.length : Int) (C.length : Int) (A.length : Int))).length : Int) + (D.length : Int) + (C.length : Int) + (A.length : Int))) ++ nbL n) ++ [0]) ++ nbL ((D.length : Nat) : Int)) ++ nbL ((C.length : Nat) : Int)) ++ nbL ((A.length : Nat) : Int)) ++ sl (fun k => pt (0 + k)) 0 t0.toNat = (((((((((L ++ [1 + 0]) ++ nbL s) ++ nbL 0) ++ nbL ((((hdL n 0 (adV gF bg n) (D.length : Int) (C.length : Int) (A.length : Int))).length : Int) + (D.length : Int) + (C.length : Int) + (A.length : Int))) ++ nbL n) ++ [0]) ++ nbL ((D.length : Nat) : Int)) ++ nbL ((C.length : Nat) : Int)) ++ nbL ((A.length : Nat) : Int)) ++ D := by rw [et0, rep_sub hpr.1]
          have hz0 := hr0
          rw [hs0] at hz0
          refine G_iinc_z hX (lv' := [(7, .int (zI (0 + 1))), (0, .ref (eA E 61)), (8, .int (zI t0))]) 1 rfl (by decide) rfl d_Mo_writeWindow_234 ?_
          refine G_goto hX (tgt := 189) d_Mo_writeWindow_237 rfl ?_
          refine G_iload hX 0 rfl d_Mo_writeWindow_189 ?_
          refine G_iconst hX d_Mo_writeWindow_191 ?_
          refine G_icmp_ge_z hX (tgt := 240) d_Mo_writeWindow_192 rfl (by omega) (fun c196 => by exfalso; omega) (fun c197 => ?_)
          refine G_iconst hX d_Mo_writeWindow_195 ?_
          refine G_istore hX (lv' := [(8, .int (zI 0)), (7, .int (zI (0 + 1))), (0, .ref (eA E 61))]) (by decide) rfl d_Mo_writeWindow_196 ?_
          have loop201 : ∀ (q : Nat) (t1 : Int) (nd1 : Int) (dr1 : Int → Int) (F198 : Nat → Value) (f202 : Nat → va_E), ((C.length : Int) - t1).toNat < q → (0 ≤ t1 ∧ t1 ≤ (C.length : Int)) → (rep dr1 nd1 (((((((((((L ++ [1 + 0]) ++ nbL s) ++ nbL 0) ++ nbL ((((hdL n 0 (adV gF bg n) (D.length : Int) (C.length : Int) (A.length : Int))).length : Int) + (D.length : Int) + (C.length : Int) + (A.length : Int))) ++ nbL n) ++ [0]) ++ nbL ((D.length : Nat) : Int)) ++ nbL ((C.length : Nat) : Int)) ++ nbL ((A.length : Nat) : Int)) ++ D) ++ sl (fun k => pt (1000 + k)) 0 t1.toNat)) → (F198 21 = .int (zI nd1)) → (FrF [21] F182 F198) → f202 75 = iz E 3000 dr1 → f202 61 = mob F198 → Fr [75, 61] f186 f202 → G E X 0 0 198 [(0, .ref (eA E 61)), (7, .int (zI (0 + 1))), (8, .int (zI t1))] [] (wl E f202) := by
            intro q
            induction q with
            | zero => intro t1 nd1 dr1 F198 f202 hms204; exact absurd hms204 (Nat.not_lt_zero _)
            | succ q ih205 =>
              intro t1 nd1 dr1 F198 f202 hms204 ht1 hr1 h199 k200 h206 h207 k203
              refine G_iload hX 2 rfl d_Mo_writeWindow_198 ?_
              refine G_aload_n hX 0 rfl rfl d_Mo_writeWindow_200 ?_
              have h208 : F198 23 = .ref (eA E 76) := (k200 23 (by decide)).trans h192
              refine M_get hX fg_Mo_124 d_Mo_writeWindow_201 h207 (by decide) h208 ?_
              refine G_iload hX 1 rfl d_Mo_writeWindow_204 ?_
              have h209 : f202 76 = iz E 3 ps := (k203 76 (by decide)).trans h193
              refine F_iald hX d_Mo_writeWindow_206 76 (by decide) h209 (by omega) ?_
              refine G_top (show zI (ps (0 + 1)) = zI ((C.length : Nat) : Int) from congrArg zI hpr.2.1.1) ?_
              refine G_icmp_ge_z hX (tgt := 234) d_Mo_writeWindow_207 rfl (by omega) (fun c210 => ?_) (fun c211 => ?_)
              · skip
                have et1 : t1 = (C.length : Int) := by omega
                have hs1 : ((((((((((L ++ [1 + 0]) ++ nbL s) ++ nbL 0) ++ nbL ((((hdL n 0 (adV gF bg n) (D.length : Int) (C.length : Int) (A.length : Int))).length : Int) + (D.length : Int) + (C.length : Int) + (A.length : Int))) ++ nbL n) ++ [0]) ++ nbL ((D.length : Nat) : Int)) ++ nbL ((C.length : Nat) : Int)) ++ nbL ((A.length : Nat) : Int)) ++ D) ++ sl (fun k => pt (1000 + k)) 0 t1.toNat = ((((((((((L ++ [1 + 0]) ++ nbL s) ++ nbL 0) ++ nbL ((((hdL n 0 (adV gF bg n) (D.length : Int) (C.length : Int) (A.length : Int))).length : Int) + (D.length : Int) + (C.length : Int) + (A.length : Int))) ++ nbL n) ++ [0]) ++ nbL ((D.length : Nat) : Int)) ++ nbL ((C.length : Nat) : Int)) ++ nbL ((A.length : Nat) : Int)) ++ D) ++ C := by rw [et1, rep_sub hpr.2.1]
                have hz1 := hr1
                rw [hs1] at hz1
                refine G_iinc_z hX (lv' := [(7, .int (zI ((0 + 1) + 1))), (0, .ref (eA E 61)), (8, .int (zI t1))]) 1 rfl (by decide) rfl d_Mo_writeWindow_234 ?_
                refine G_goto hX (tgt := 189) d_Mo_writeWindow_237 rfl ?_
                refine G_iload hX 0 rfl d_Mo_writeWindow_189 ?_
                refine G_iconst hX d_Mo_writeWindow_191 ?_
                refine G_icmp_ge_z hX (tgt := 240) d_Mo_writeWindow_192 rfl (by omega) (fun c212 => by exfalso; omega) (fun c213 => ?_)
                refine G_iconst hX d_Mo_writeWindow_195 ?_
                refine G_istore hX (lv' := [(8, .int (zI 0)), (7, .int (zI ((0 + 1) + 1))), (0, .ref (eA E 61))]) (by decide) rfl d_Mo_writeWindow_196 ?_
                have loop217 : ∀ (q : Nat) (t2 : Int) (nd2 : Int) (dr2 : Int → Int) (F214 : Nat → Value) (f218 : Nat → va_E), ((A.length : Int) - t2).toNat < q → (0 ≤ t2 ∧ t2 ≤ (A.length : Int)) → (rep dr2 nd2 ((((((((((((L ++ [1 + 0]) ++ nbL s) ++ nbL 0) ++ nbL ((((hdL n 0 (adV gF bg n) (D.length : Int) (C.length : Int) (A.length : Int))).length : Int) + (D.length : Int) + (C.length : Int) + (A.length : Int))) ++ nbL n) ++ [0]) ++ nbL ((D.length : Nat) : Int)) ++ nbL ((C.length : Nat) : Int)) ++ nbL ((A.length : Nat) : Int)) ++ D) ++ C) ++ sl (fun k => pt (2000 + k)) 0 t2.toNat)) → (F214 21 = .int (zI nd2)) → (FrF [21] F198 F214) → f218 75 = iz E 3000 dr2 → f218 61 = mob F214 → Fr [75, 61] f202 f218 → G E X 0 0 198 [(0, .ref (eA E 61)), (7, .int (zI ((0 + 1) + 1))), (8, .int (zI t2))] [] (wl E f218) := by
                  intro q
                  induction q with
                  | zero => intro t2 nd2 dr2 F214 f218 hms220; exact absurd hms220 (Nat.not_lt_zero _)
                  | succ q ih221 =>
                    intro t2 nd2 dr2 F214 f218 hms220 ht2 hr2 h215 k216 h222 h223 k219
                    refine G_iload hX 2 rfl d_Mo_writeWindow_198 ?_
                    refine G_aload_n hX 0 rfl rfl d_Mo_writeWindow_200 ?_
                    have h224 : F214 23 = .ref (eA E 76) := (k216 23 (by decide)).trans h208
                    refine M_get hX fg_Mo_124 d_Mo_writeWindow_201 h223 (by decide) h224 ?_
                    refine G_iload hX 1 rfl d_Mo_writeWindow_204 ?_
                    have h225 : f218 76 = iz E 3 ps := (k219 76 (by decide)).trans h209
                    refine F_iald hX d_Mo_writeWindow_206 76 (by decide) h225 (by omega) ?_
                    refine G_top (show zI (ps ((0 + 1) + 1)) = zI ((A.length : Nat) : Int) from congrArg zI hpr.2.2.1) ?_
                    refine G_icmp_ge_z hX (tgt := 234) d_Mo_writeWindow_207 rfl (by omega) (fun c226 => ?_) (fun c227 => ?_)
                    · skip
                      have et2 : t2 = (A.length : Int) := by omega
                      have hs2 : (((((((((((L ++ [1 + 0]) ++ nbL s) ++ nbL 0) ++ nbL ((((hdL n 0 (adV gF bg n) (D.length : Int) (C.length : Int) (A.length : Int))).length : Int) + (D.length : Int) + (C.length : Int) + (A.length : Int))) ++ nbL n) ++ [0]) ++ nbL ((D.length : Nat) : Int)) ++ nbL ((C.length : Nat) : Int)) ++ nbL ((A.length : Nat) : Int)) ++ D) ++ C) ++ sl (fun k => pt (2000 + k)) 0 t2.toNat = (((((((((((L ++ [1 + 0]) ++ nbL s) ++ nbL 0) ++ nbL ((((hdL n 0 (adV gF bg n) (D.length : Int) (C.length : Int) (A.length : Int))).length : Int) + (D.length : Int) + (C.length : Int) + (A.length : Int))) ++ nbL n) ++ [0]) ++ nbL ((D.length : Nat) : Int)) ++ nbL ((C.length : Nat) : Int)) ++ nbL ((A.length : Nat) : Int)) ++ D) ++ C) ++ A := by rw [et2, rep_sub hpr.2.2]
                      have hz2 := hr2
                      rw [hs2] at hz2
                      refine G_iinc_z hX (lv' := [(7, .int (zI (((0 + 1) + 1) + 1))), (0, .ref (eA E 61)), (8, .int (zI t2))]) 1 rfl (by decide) rfl d_Mo_writeWindow_234 ?_
                      refine G_goto hX (tgt := 189) d_Mo_writeWindow_237 rfl ?_
                      refine G_iload hX 0 rfl d_Mo_writeWindow_189 ?_
                      refine G_iconst hX d_Mo_writeWindow_191 ?_
                      refine G_icmp_ge_z hX (tgt := 240) d_Mo_writeWindow_192 rfl (by omega) (fun c228 => ?_) (fun c229 => by exfalso; omega)
                      have ews : wsL s 0 = [1 + 0] ++ (nbL s ++ nbL 0) := by unfold wsL; rw [if_pos hsp, if_pos hsp, if_pos rfl]
                      have eal : ∀ Z : List Int, (hdL n 0 (adV gF bg n) (D.length : Int) (C.length : Int) (A.length : Int)) ++ Z = (nbL n ++ ([0] ++ (nbL (D.length : Int) ++ (nbL (C.length : Int) ++ nbL (A.length : Int))))) ++ Z := fun Z => by rw [hd0]
                      exact F_vret hX hE d_Mo_writeWindow_240 ⟨rfl, F214, _, _, h223, h215, (FrF.tr (FrF.tr (FrF.tr (FrF.tr (FrF.tr (FrF.tr (FrF.tr (FrF.tr (FrF.tr (FrF.tr (FrF.tr (FrF.tr FrF.rf k25 (by decide)) k40 (by decide)) k52 (by decide)) k93 (by decide)) k105 (by decide)) k117 (by decide)) k133 (by decide)) k149 (by decide)) k165 (by decide)) k184 (by decide)) k200 (by decide)) k216 (by decide)), h222, (by rw [ews, eal]; simpa only [List.append_assoc, List.cons_append, List.nil_append] using hz2), (Fr.tr (Fr.tr (Fr.tr (Fr.tr (Fr.tr (Fr.tr (Fr.tr (Fr.tr (Fr.tr (Fr.tr (Fr.tr (Fr.tr Fr.rf k28 (by decide)) k43 (by decide)) k55 (by decide)) k96 (by decide)) k108 (by decide)) k120 (by decide)) k136 (by decide)) k152 (by decide)) k168 (by decide)) k187 (by decide)) k203 (by decide)) k219 (by decide))⟩
                    · skip
                      refine G_aload_n hX 0 rfl rfl d_Mo_writeWindow_210 ?_
                      refine G_aload_n hX 0 rfl rfl d_Mo_writeWindow_211 ?_
                      have h230 : F214 24 = .ref (eA E 77) := (k216 24 (by decide)).trans ((k200 24 (by decide)).trans ((k184 24 (by decide)).trans ((k165 24 (by decide)).trans ((k149 24 (by decide)).trans ((k133 24 (by decide)).trans ((k117 24 (by decide)).trans ((k105 24 (by decide)).trans ((k93 24 (by decide)).trans ((k52 24 (by decide)).trans ((k40 24 (by decide)).trans ((k25 24 (by decide)).trans (hmk 24 77 (by decide)))))))))))))
                      refine M_get hX fg_Mo_127 d_Mo_writeWindow_212 h223 (by decide) h230 ?_
                      refine G_sipush hX (by decide) d_Mo_writeWindow_215 ?_
                      refine G_iload hX 1 rfl d_Mo_writeWindow_218 ?_
                      refine G_imul_z hX d_Mo_writeWindow_220 ?_
                      refine G_iload hX 2 rfl d_Mo_writeWindow_221 ?_
                      refine G_iadd_z hX d_Mo_writeWindow_223 ?_
                      have h231 : f218 77 = iz E 3000 pt := (k219 77 (by decide)).trans ((k203 77 (by decide)).trans ((k187 77 (by decide)).trans ((k168 77 (by decide)).trans ((k152 77 (by decide)).trans ((k136 77 (by decide)).trans ((k120 77 (by decide)).trans ((k108 77 (by decide)).trans ((k96 77 (by decide)).trans ((k55 77 (by decide)).trans ((k43 77 (by decide)).trans ((k28 77 (by decide)).trans hc77)))))))))))
                      refine F_iald hX d_Mo_writeWindow_224 77 (by decide) h231 (by omega) ?_
                      refine G_top (show zI (pt ((1000 * ((0 + 1) + 1)) + t2)) = zI (pt (2000 + (0 + t2))) from congrArg (fun z => zI (pt z)) (by omega)) ?_
                      refine F_callV hX (st := []) (c_Mo_write E f218 F214 (pt (2000 + (0 + t2))) nd2 dr2 ((((((((((((L ++ [1 + 0]) ++ nbL s) ++ nbL 0) ++ nbL ((((hdL n 0 (adV gF bg n) (D.length : Int) (C.length : Int) (A.length : Int))).length : Int) + (D.length : Int) + (C.length : Int) + (A.length : Int))) ++ nbL n) ++ [0]) ++ nbL ((D.length : Nat) : Int)) ++ nbL ((C.length : Nat) : Int)) ++ nbL ((A.length : Nat) : Int)) ++ D) ++ C) ++ sl (fun k => pt (2000 + k)) 0 t2.toNat) h223 (moK_fr hmk (FrF.tr (FrF.tr (FrF.tr (FrF.tr (FrF.tr (FrF.tr (FrF.tr (FrF.tr (FrF.tr (FrF.tr (FrF.tr (FrF.tr (FrF.rf (S := [21])) k25 (by decide)) k40 (by decide)) k52 (by decide)) k93 (by decide)) k105 (by decide)) k117 (by decide)) k133 (by decide)) k149 (by decide)) k165 (by decide)) k184 (by decide)) k200 (by decide)) k216 (by decide)) (by decide)) h215 h222 hr2 (by simp only [List.length_append, List.length_cons, List.length_nil, sl_len]; omega)) cm_Mo_write im_Mo_write se_Mo_write rfl ml_Mo_298 d_Mo_writeWindow_225 (by decide) h223 rfl rfl (Nat.le_of_ble_eq_true rfl) (by decide) ?_
                      rintro _ f232 ⟨rfl, F235, nd'_236, dr'_237, h238, h239, k240, h241, p242, k243⟩
                      refine G_cast (st' := []) ?_ rfl rfl rfl rfl
                      refine G_iinc_z hX (lv' := [(8, .int (zI (t2 + 1))), (0, .ref (eA E 61)), (7, .int (zI ((0 + 1) + 1)))]) 2 rfl (by decide) rfl d_Mo_writeWindow_228 ?_
                      refine G_goto hX (tgt := 198) d_Mo_writeWindow_231 rfl ?_
                      refine G_loc (lv' := [(0, .ref (eA E 61)), (7, .int (zI ((0 + 1) + 1))), (8, .int (zI (t2 + 1)))]) [1, 2, 0] rfl ?_
                      exact ih221 (t2 + 1) nd'_236 dr'_237 F235 f232 (by omega) (by omega) (by rw [sl_s (fun k => pt (2000 + k)) 0 ht2.1, ← List.append_assoc]; exact p242) h239 (FrF.tr (FrF.tr FrF.rf k216 (by decide)) k240 (by decide)) h241 h238 (Fr.tr (Fr.tr Fr.rf k219 (by decide)) k243 (by decide))
                refine G_loc (lv' := [(0, .ref (eA E 61)), (7, .int (zI ((0 + 1) + 1))), (8, .int (zI 0))]) [2, 1, 0] rfl ?_
                exact loop217 (_ + 1) 0 nd1 dr1 F198 f202 (Nat.lt_succ_self _) (by omega) (by rw [show sl (fun k => pt (2000 + k)) 0 (0 : Int).toNat = [] from rfl, List.append_nil]; exact hz1) h199 FrF.rf h206 h207 Fr.rf
              · skip
                refine G_aload_n hX 0 rfl rfl d_Mo_writeWindow_210 ?_
                refine G_aload_n hX 0 rfl rfl d_Mo_writeWindow_211 ?_
                have h244 : F198 24 = .ref (eA E 77) := (k200 24 (by decide)).trans ((k184 24 (by decide)).trans ((k165 24 (by decide)).trans ((k149 24 (by decide)).trans ((k133 24 (by decide)).trans ((k117 24 (by decide)).trans ((k105 24 (by decide)).trans ((k93 24 (by decide)).trans ((k52 24 (by decide)).trans ((k40 24 (by decide)).trans ((k25 24 (by decide)).trans (hmk 24 77 (by decide))))))))))))
                refine M_get hX fg_Mo_127 d_Mo_writeWindow_212 h207 (by decide) h244 ?_
                refine G_sipush hX (by decide) d_Mo_writeWindow_215 ?_
                refine G_iload hX 1 rfl d_Mo_writeWindow_218 ?_
                refine G_imul_z hX d_Mo_writeWindow_220 ?_
                refine G_iload hX 2 rfl d_Mo_writeWindow_221 ?_
                refine G_iadd_z hX d_Mo_writeWindow_223 ?_
                have h245 : f202 77 = iz E 3000 pt := (k203 77 (by decide)).trans ((k187 77 (by decide)).trans ((k168 77 (by decide)).trans ((k152 77 (by decide)).trans ((k136 77 (by decide)).trans ((k120 77 (by decide)).trans ((k108 77 (by decide)).trans ((k96 77 (by decide)).trans ((k55 77 (by decide)).trans ((k43 77 (by decide)).trans ((k28 77 (by decide)).trans hc77))))))))))
                refine F_iald hX d_Mo_writeWindow_224 77 (by decide) h245 (by omega) ?_
                refine G_top (show zI (pt ((1000 * (0 + 1)) + t1)) = zI (pt (1000 + (0 + t1))) from congrArg (fun z => zI (pt z)) (by omega)) ?_
                refine F_callV hX (st := []) (c_Mo_write E f202 F198 (pt (1000 + (0 + t1))) nd1 dr1 (((((((((((L ++ [1 + 0]) ++ nbL s) ++ nbL 0) ++ nbL ((((hdL n 0 (adV gF bg n) (D.length : Int) (C.length : Int) (A.length : Int))).length : Int) + (D.length : Int) + (C.length : Int) + (A.length : Int))) ++ nbL n) ++ [0]) ++ nbL ((D.length : Nat) : Int)) ++ nbL ((C.length : Nat) : Int)) ++ nbL ((A.length : Nat) : Int)) ++ D) ++ sl (fun k => pt (1000 + k)) 0 t1.toNat) h207 (moK_fr hmk (FrF.tr (FrF.tr (FrF.tr (FrF.tr (FrF.tr (FrF.tr (FrF.tr (FrF.tr (FrF.tr (FrF.tr (FrF.tr (FrF.rf (S := [21])) k25 (by decide)) k40 (by decide)) k52 (by decide)) k93 (by decide)) k105 (by decide)) k117 (by decide)) k133 (by decide)) k149 (by decide)) k165 (by decide)) k184 (by decide)) k200 (by decide)) (by decide)) h199 h206 hr1 (by simp only [List.length_append, List.length_cons, List.length_nil, sl_len]; omega)) cm_Mo_write im_Mo_write se_Mo_write rfl ml_Mo_298 d_Mo_writeWindow_225 (by decide) h207 rfl rfl (Nat.le_of_ble_eq_true rfl) (by decide) ?_
                rintro _ f246 ⟨rfl, F249, nd'_250, dr'_251, h252, h253, k254, h255, p256, k257⟩
                refine G_cast (st' := []) ?_ rfl rfl rfl rfl
                refine G_iinc_z hX (lv' := [(8, .int (zI (t1 + 1))), (0, .ref (eA E 61)), (7, .int (zI (0 + 1)))]) 2 rfl (by decide) rfl d_Mo_writeWindow_228 ?_
                refine G_goto hX (tgt := 198) d_Mo_writeWindow_231 rfl ?_
                refine G_loc (lv' := [(0, .ref (eA E 61)), (7, .int (zI (0 + 1))), (8, .int (zI (t1 + 1)))]) [1, 2, 0] rfl ?_
                exact ih205 (t1 + 1) nd'_250 dr'_251 F249 f246 (by omega) (by omega) (by rw [sl_s (fun k => pt (1000 + k)) 0 ht1.1, ← List.append_assoc]; exact p256) h253 (FrF.tr (FrF.tr FrF.rf k200 (by decide)) k254 (by decide)) h255 h252 (Fr.tr (Fr.tr Fr.rf k203 (by decide)) k257 (by decide))
          refine G_loc (lv' := [(0, .ref (eA E 61)), (7, .int (zI (0 + 1))), (8, .int (zI 0))]) [2, 1, 0] rfl ?_
          exact loop201 (_ + 1) 0 nd0 dr0 F182 f186 (Nat.lt_succ_self _) (by omega) (by rw [show sl (fun k => pt (1000 + k)) 0 (0 : Int).toNat = [] from rfl, List.append_nil]; exact hz0) h183 FrF.rf h190 h191 Fr.rf
        · skip
          refine G_aload_n hX 0 rfl rfl d_Mo_writeWindow_210 ?_
          refine G_aload_n hX 0 rfl rfl d_Mo_writeWindow_211 ?_
          have h258 : F182 24 = .ref (eA E 77) := (k184 24 (by decide)).trans ((k165 24 (by decide)).trans ((k149 24 (by decide)).trans ((k133 24 (by decide)).trans ((k117 24 (by decide)).trans ((k105 24 (by decide)).trans ((k93 24 (by decide)).trans ((k52 24 (by decide)).trans ((k40 24 (by decide)).trans ((k25 24 (by decide)).trans (hmk 24 77 (by decide)))))))))))
          refine M_get hX fg_Mo_127 d_Mo_writeWindow_212 h191 (by decide) h258 ?_
          refine G_sipush hX (by decide) d_Mo_writeWindow_215 ?_
          refine G_iload hX 1 rfl d_Mo_writeWindow_218 ?_
          refine G_imul_z hX d_Mo_writeWindow_220 ?_
          refine G_iload hX 2 rfl d_Mo_writeWindow_221 ?_
          refine G_iadd_z hX d_Mo_writeWindow_223 ?_
          have h259 : f186 77 = iz E 3000 pt := (k187 77 (by decide)).trans ((k168 77 (by decide)).trans ((k152 77 (by decide)).trans ((k136 77 (by decide)).trans ((k120 77 (by decide)).trans ((k108 77 (by decide)).trans ((k96 77 (by decide)).trans ((k55 77 (by decide)).trans ((k43 77 (by decide)).trans ((k28 77 (by decide)).trans hc77)))))))))
          refine F_iald hX d_Mo_writeWindow_224 77 (by decide) h259 (by omega) ?_
          refine G_top (show zI (pt ((1000 * 0) + t0)) = zI (pt (0 + (0 + t0))) from congrArg (fun z => zI (pt z)) (by omega)) ?_
          refine F_callV hX (st := []) (c_Mo_write E f186 F182 (pt (0 + (0 + t0))) nd0 dr0 ((((((((((L ++ [1 + 0]) ++ nbL s) ++ nbL 0) ++ nbL ((((hdL n 0 (adV gF bg n) (D.length : Int) (C.length : Int) (A.length : Int))).length : Int) + (D.length : Int) + (C.length : Int) + (A.length : Int))) ++ nbL n) ++ [0]) ++ nbL ((D.length : Nat) : Int)) ++ nbL ((C.length : Nat) : Int)) ++ nbL ((A.length : Nat) : Int)) ++ sl (fun k => pt (0 + k)) 0 t0.toNat) h191 (moK_fr hmk (FrF.tr (FrF.tr (FrF.tr (FrF.tr (FrF.tr (FrF.tr (FrF.tr (FrF.tr (FrF.tr (FrF.tr (FrF.rf (S := [21])) k25 (by decide)) k40 (by decide)) k52 (by decide)) k93 (by decide)) k105 (by decide)) k117 (by decide)) k133 (by decide)) k149 (by decide)) k165 (by decide)) k184 (by decide)) (by decide)) h183 h190 hr0 (by simp only [List.length_append, List.length_cons, List.length_nil, sl_len]; omega)) cm_Mo_write im_Mo_write se_Mo_write rfl ml_Mo_298 d_Mo_writeWindow_225 (by decide) h191 rfl rfl (Nat.le_of_ble_eq_true rfl) (by decide) ?_
          rintro _ f260 ⟨rfl, F263, nd'_264, dr'_265, h266, h267, k268, h269, p270, k271⟩
          refine G_cast (st' := []) ?_ rfl rfl rfl rfl
          refine G_iinc_z hX (lv' := [(8, .int (zI (t0 + 1))), (0, .ref (eA E 61)), (7, .int (zI 0))]) 2 rfl (by decide) rfl d_Mo_writeWindow_228 ?_
          refine G_goto hX (tgt := 198) d_Mo_writeWindow_231 rfl ?_
          refine G_loc (lv' := [(0, .ref (eA E 61)), (7, .int (zI 0)), (8, .int (zI (t0 + 1)))]) [1, 2, 0] rfl ?_
          exact ih189 (t0 + 1) nd'_264 dr'_265 F263 f260 (by omega) (by omega) (by rw [sl_s (fun k => pt (0 + k)) 0 ht0.1, ← List.append_assoc]; exact p270) h267 (FrF.tr (FrF.tr FrF.rf k184 (by decide)) k268 (by decide)) h269 h266 (Fr.tr (Fr.tr Fr.rf k187 (by decide)) k271 (by decide))
    refine G_loc (lv' := [(0, .ref (eA E 61)), (7, .int (zI 0)), (8, .int (zI 0))]) [4, 1, 0] rfl ?_
    exact loop185 (_ + 1) 0 nd'_161 dr'_162 F160 f157 (Nat.lt_succ_self _) (by omega) (by rw [show sl (fun k => pt (0 + k)) 0 (0 : Int).toNat = [] from rfl, List.append_nil]; exact p167) h164 FrF.rf h166 h163 Fr.rf
  · skip
    refine G_aload_n hX 0 rfl rfl d_Mo_writeWindow_0 ?_
    refine G_aload_n hX 0 rfl rfl d_Mo_writeWindow_1 ?_
    refine M_get hX fg_Mo_249 d_Mo_writeWindow_2 hMo (by decide) hF12 ?_
    refine G_if_le_z hX (tgt := 12) d_Mo_writeWindow_5 rfl (by omega) (fun c272 => ?_) (fun c273 => by exfalso; omega)
    refine G_iconst hX d_Mo_writeWindow_12 ?_
    refine G_iload_n hX 3 rfl rfl d_Mo_writeWindow_13 ?_
    refine G_if_eq_z hX (tgt := 21) d_Mo_writeWindow_14 rfl (by omega) (fun c274 => ?_) (fun c275 => by exfalso; omega)
    refine G_iconst hX d_Mo_writeWindow_21 ?_
    refine G_iadd_z hX d_Mo_writeWindow_22 ?_
    refine F_callV hX (st := []) (c_Mo_write E f F (0 + 0) nd dr L hMo hmk hF21 hc75 hr (by first | omega | (simp only [List.length_append, List.length_cons, List.length_nil]; omega))) cm_Mo_write im_Mo_write se_Mo_write rfl ml_Mo_298 d_Mo_writeWindow_23 (by decide) hMo rfl rfl (Nat.le_of_ble_eq_true rfl) (by decide) ?_
    rintro _ f276 ⟨rfl, F279, nd'_280, dr'_281, h282, h283, k284, h285, p286, k287⟩
    refine G_cast (st' := []) ?_ rfl rfl rfl rfl
    refine G_aload_n hX 0 rfl rfl d_Mo_writeWindow_26 ?_
    have h288 : F279 12 = .int (zI s) := (k284 12 (by decide)).trans hF12
    refine M_get hX fg_Mo_249 d_Mo_writeWindow_27 h282 (by decide) h288 ?_
    refine G_if_le_z hX (tgt := 46) d_Mo_writeWindow_30 rfl (by omega) (fun c289 => ?_) (fun c290 => by exfalso; omega)
    refine G_iload_n hX 1 rfl rfl d_Mo_writeWindow_46 ?_
    refine F_callS hX (st := []) (c_Mo_widthOf E f276 n (by omega)) cm_Mo_widthOf sm_Mo_widthOf ml_Mo_295 d_Mo_writeWindow_47 rfl rfl (Nat.le_of_ble_eq_true rfl) (by decide) ?_
    rintro _ f291 ⟨rfl, e294⟩
    obtain rfl := e294.symm
    refine G_cast (st' := [.int (zI (wid n))]) ?_ rfl rfl rfl rfl
    refine G_iconst hX d_Mo_writeWindow_50 ?_
    refine G_iadd_z hX d_Mo_writeWindow_51 ?_
    refine G_iload_n hX 3 rfl rfl d_Mo_writeWindow_52 ?_
    refine G_if_eq_z hX (tgt := 60) d_Mo_writeWindow_53 rfl (by omega) (fun c295 => ?_) (fun c296 => by exfalso; omega)
    refine G_iconst hX d_Mo_writeWindow_60 ?_
    refine G_iadd_z hX d_Mo_writeWindow_61 ?_
    refine G_istore hX (lv' := [(4, .int (zI (((wid n) + 1) + 0))), (0, .ref (eA E 61)), (1, .int (zI n)), (2, .int (zI bg)), (3, .int (zI 0))]) (by decide) rfl d_Mo_writeWindow_62 ?_
    refine G_iconst hX d_Mo_writeWindow_64 ?_
    refine G_istore hX (lv' := [(5, .int (zI 0)), (4, .int (zI (((wid n) + 1) + 0))), (0, .ref (eA E 61)), (1, .int (zI n)), (2, .int (zI bg)), (3, .int (zI 0))]) (by decide) rfl d_Mo_writeWindow_65 ?_
    refine G_iload hX 0 rfl d_Mo_writeWindow_67 ?_
    refine G_iconst hX d_Mo_writeWindow_69 ?_
    refine G_icmp_ge_z hX (tgt := 102) d_Mo_writeWindow_70 rfl (by omega) (fun c297 => by exfalso; omega) (fun c298 => ?_)
    refine G_iload hX 1 rfl d_Mo_writeWindow_73 ?_
    refine G_aload_n hX 2 rfl rfl d_Mo_writeWindow_75 ?_
    have h299 : F279 23 = .ref (eA E 76) := (k284 23 (by decide)).trans (hmk 23 76 (by decide))
    refine M_get hX fg_Mo_124 d_Mo_writeWindow_76 h282 (by decide) h299 ?_
    refine G_iload hX 0 rfl d_Mo_writeWindow_79 ?_
    have h300 : f276 76 = iz E 3 ps := (k287 76 (by decide)).trans hc76
    refine F_iald hX d_Mo_writeWindow_81 76 (by decide) h300 (by omega) ?_
    refine G_top (show zI (ps 0) = zI ((D.length : Nat) : Int) from congrArg zI hpr.1.1) ?_
    refine F_callS hX (st := [.int (zI (((wid n) + 1) + 0))]) (c_Mo_widthOf E f276 ((D.length : Nat) : Int) (by omega)) cm_Mo_widthOf sm_Mo_widthOf ml_Mo_295 d_Mo_writeWindow_82 rfl rfl (Nat.le_of_ble_eq_true rfl) (by decide) ?_
    rintro _ f301 ⟨rfl, e304⟩
    obtain rfl := e304.symm
    refine G_cast (st' := [.int (zI (wid ((D.length : Nat) : Int))), .int (zI (((wid n) + 1) + 0))]) ?_ rfl rfl rfl rfl
    refine G_iadd_z hX d_Mo_writeWindow_85 ?_
    refine G_aload_n hX 2 rfl rfl d_Mo_writeWindow_86 ?_
    refine M_get hX fg_Mo_124 d_Mo_writeWindow_87 h282 (by decide) h299 ?_
    refine G_iload hX 0 rfl d_Mo_writeWindow_90 ?_
    refine F_iald hX d_Mo_writeWindow_92 76 (by decide) h300 (by omega) ?_
    refine G_top (show zI (ps 0) = zI ((D.length : Nat) : Int) from congrArg zI hpr.1.1) ?_
    refine G_iadd_z hX d_Mo_writeWindow_93 ?_
    refine G_istore hX (lv' := [(4, .int (zI (((((wid n) + 1) + 0) + (wid ((D.length : Nat) : Int))) + ((D.length : Nat) : Int)))), (5, .int (zI 0)), (0, .ref (eA E 61)), (1, .int (zI n)), (2, .int (zI bg)), (3, .int (zI 0))]) (by decide) rfl d_Mo_writeWindow_94 ?_
    refine G_iinc_z hX (lv' := [(5, .int (zI (0 + 1))), (4, .int (zI (((((wid n) + 1) + 0) + (wid ((D.length : Nat) : Int))) + ((D.length : Nat) : Int)))), (0, .ref (eA E 61)), (1, .int (zI n)), (2, .int (zI bg)), (3, .int (zI 0))]) 1 rfl (by decide) rfl d_Mo_writeWindow_96 ?_
    refine G_goto hX (tgt := 67) d_Mo_writeWindow_99 rfl ?_
    refine G_iload hX 0 rfl d_Mo_writeWindow_67 ?_
    refine G_iconst hX d_Mo_writeWindow_69 ?_
    refine G_icmp_ge_z hX (tgt := 102) d_Mo_writeWindow_70 rfl (by omega) (fun c305 => by exfalso; omega) (fun c306 => ?_)
    refine G_iload hX 1 rfl d_Mo_writeWindow_73 ?_
    refine G_aload_n hX 2 rfl rfl d_Mo_writeWindow_75 ?_
    refine M_get hX fg_Mo_124 d_Mo_writeWindow_76 h282 (by decide) h299 ?_
    refine G_iload hX 0 rfl d_Mo_writeWindow_79 ?_
    refine F_iald hX d_Mo_writeWindow_81 76 (by decide) h300 (by omega) ?_
    refine G_top (show zI (ps (0 + 1)) = zI ((C.length : Nat) : Int) from congrArg zI hpr.2.1.1) ?_
    refine F_callS hX (st := [.int (zI (((((wid n) + 1) + 0) + (wid ((D.length : Nat) : Int))) + ((D.length : Nat) : Int)))]) (c_Mo_widthOf E f276 ((C.length : Nat) : Int) (by omega)) cm_Mo_widthOf sm_Mo_widthOf ml_Mo_295 d_Mo_writeWindow_82 rfl rfl (Nat.le_of_ble_eq_true rfl) (by decide) ?_
    rintro _ f307 ⟨rfl, e310⟩
    obtain rfl := e310.symm
    refine G_cast (st' := [.int (zI (wid ((C.length : Nat) : Int))), .int (zI (((((wid n) + 1) + 0) + (wid ((D.length : Nat) : Int))) + ((D.length : Nat) : Int)))]) ?_ rfl rfl rfl rfl
    refine G_iadd_z hX d_Mo_writeWindow_85 ?_
    refine G_aload_n hX 2 rfl rfl d_Mo_writeWindow_86 ?_
    refine M_get hX fg_Mo_124 d_Mo_writeWindow_87 h282 (by decide) h299 ?_
    refine G_iload hX 0 rfl d_Mo_writeWindow_90 ?_
    refine F_iald hX d_Mo_writeWindow_92 76 (by decide) h300 (by omega) ?_
    refine G_top (show zI (ps (0 + 1)) = zI ((C.length : Nat) : Int) from congrArg zI hpr.2.1.1) ?_
    refine G_iadd_z hX d_Mo_writeWindow_93 ?_
    refine G_istore hX (lv' := [(4, .int (zI (((((((wid n) + 1) + 0) + (wid ((D.length : Nat) : Int))) + ((D.length : Nat) : Int)) + (wid ((C.length : Nat) : Int))) + ((C.length : Nat) : Int)))), (5, .int (zI (0 + 1))), (0, .ref (eA E 61)), (1, .int (zI n)), (2, .int (zI bg)), (3, .int (zI 0))]) (by decide) rfl d_Mo_writeWindow_94 ?_
    refine G_iinc_z hX (lv' := [(5, .int (zI ((0 + 1) + 1))), (4, .int (zI (((((((wid n) + 1) + 0) + (wid ((D.length : Nat) : Int))) + ((D.length : Nat) : Int)) + (wid ((C.length : Nat) : Int))) + ((C.length : Nat) : Int)))), (0, .ref (eA E 61)), (1, .int (zI n)), (2, .int (zI bg)), (3, .int (zI 0))]) 1 rfl (by decide) rfl d_Mo_writeWindow_96 ?_
    refine G_goto hX (tgt := 67) d_Mo_writeWindow_99 rfl ?_
    refine G_iload hX 0 rfl d_Mo_writeWindow_67 ?_
    refine G_iconst hX d_Mo_writeWindow_69 ?_
    refine G_icmp_ge_z hX (tgt := 102) d_Mo_writeWindow_70 rfl (by omega) (fun c311 => by exfalso; omega) (fun c312 => ?_)
    refine G_iload hX 1 rfl d_Mo_writeWindow_73 ?_
    refine G_aload_n hX 2 rfl rfl d_Mo_writeWindow_75 ?_
    refine M_get hX fg_Mo_124 d_Mo_writeWindow_76 h282 (by decide) h299 ?_
    refine G_iload hX 0 rfl d_Mo_writeWindow_79 ?_
    refine F_iald hX d_Mo_writeWindow_81 76 (by decide) h300 (by omega) ?_
    refine G_top (show zI (ps ((0 + 1) + 1)) = zI ((A.length : Nat) : Int) from congrArg zI hpr.2.2.1) ?_
    refine F_callS hX (st := [.int (zI (((((((wid n) + 1) + 0) + (wid ((D.length : Nat) : Int))) + ((D.length : Nat) : Int)) + (wid ((C.length : Nat) : Int))) + ((C.length : Nat) : Int)))]) (c_Mo_widthOf E f276 ((A.length : Nat) : Int) (by omega)) cm_Mo_widthOf sm_Mo_widthOf ml_Mo_295 d_Mo_writeWindow_82 rfl rfl (Nat.le_of_ble_eq_true rfl) (by decide) ?_
    rintro _ f313 ⟨rfl, e316⟩
    obtain rfl := e316.symm
    refine G_cast (st' := [.int (zI (wid ((A.length : Nat) : Int))), .int (zI (((((((wid n) + 1) + 0) + (wid ((D.length : Nat) : Int))) + ((D.length : Nat) : Int)) + (wid ((C.length : Nat) : Int))) + ((C.length : Nat) : Int)))]) ?_ rfl rfl rfl rfl
    refine G_iadd_z hX d_Mo_writeWindow_85 ?_
    refine G_aload_n hX 2 rfl rfl d_Mo_writeWindow_86 ?_
    refine M_get hX fg_Mo_124 d_Mo_writeWindow_87 h282 (by decide) h299 ?_
    refine G_iload hX 0 rfl d_Mo_writeWindow_90 ?_
    refine F_iald hX d_Mo_writeWindow_92 76 (by decide) h300 (by omega) ?_
    refine G_top (show zI (ps ((0 + 1) + 1)) = zI ((A.length : Nat) : Int) from congrArg zI hpr.2.2.1) ?_
    refine G_iadd_z hX d_Mo_writeWindow_93 ?_
    refine G_istore hX (lv' := [(4, .int (zI (((((((((wid n) + 1) + 0) + (wid ((D.length : Nat) : Int))) + ((D.length : Nat) : Int)) + (wid ((C.length : Nat) : Int))) + ((C.length : Nat) : Int)) + (wid ((A.length : Nat) : Int))) + ((A.length : Nat) : Int)))), (5, .int (zI ((0 + 1) + 1))), (0, .ref (eA E 61)), (1, .int (zI n)), (2, .int (zI bg)), (3, .int (zI 0))]) (by decide) rfl d_Mo_writeWindow_94 ?_
    refine G_iinc_z hX (lv' := [(5, .int (zI (((0 + 1) + 1) + 1))), (4, .int (zI (((((((((wid n) + 1) + 0) + (wid ((D.length : Nat) : Int))) + ((D.length : Nat) : Int)) + (wid ((C.length : Nat) : Int))) + ((C.length : Nat) : Int)) + (wid ((A.length : Nat) : Int))) + ((A.length : Nat) : Int)))), (0, .ref (eA E 61)), (1, .int (zI n)), (2, .int (zI bg)), (3, .int (zI 0))]) 1 rfl (by decide) rfl d_Mo_writeWindow_96 ?_
    refine G_goto hX (tgt := 67) d_Mo_writeWindow_99 rfl ?_
    refine G_iload hX 0 rfl d_Mo_writeWindow_67 ?_
    refine G_iconst hX d_Mo_writeWindow_69 ?_
    refine G_icmp_ge_z hX (tgt := 102) d_Mo_writeWindow_70 rfl (by omega) (fun c317 => ?_) (fun c318 => by exfalso; omega)
    refine G_aload_n hX 2 rfl rfl d_Mo_writeWindow_102 ?_
    refine G_iload hX 1 rfl d_Mo_writeWindow_103 ?_
    have hhl := hdL_l (n := n) (ck := 0) (v := adV gF bg n) (cd := (D.length : Int)) (cc := (C.length : Int)) (ca := (A.length : Int))
    rw [if_pos rfl] at hhl
    refine G_top (show zI (((((((((wid n) + 1) + 0) + (wid ((D.length : Nat) : Int))) + ((D.length : Nat) : Int)) + (wid ((C.length : Nat) : Int))) + ((C.length : Nat) : Int)) + (wid ((A.length : Nat) : Int))) + ((A.length : Nat) : Int)) = zI ((((hdL n 0 (adV gF bg n) (D.length : Int) (C.length : Int) (A.length : Int))).length : Int) + (D.length : Int) + (C.length : Int) + (A.length : Int)) from congrArg zI (by omega)) ?_
    have n319 := nbL_b ((((hdL n 0 (adV gF bg n) (D.length : Int) (C.length : Int) (A.length : Int))).length : Int) + (D.length : Int) + (C.length : Int) + (A.length : Int))
    refine F_callV hX (st := []) (c_Mo_writeNumber E f276 F279 ((((hdL n 0 (adV gF bg n) (D.length : Int) (C.length : Int) (A.length : Int))).length : Int) + (D.length : Int) + (C.length : Int) + (A.length : Int)) nd'_280 dr'_281 (L ++ [0 + 0]) h282 (moK_fr hmk (FrF.tr (FrF.rf (S := [21])) k284 (by decide)) (by decide)) h283 h285 p286 (by first | omega | (simp only [List.length_append, List.length_cons, List.length_nil]; omega)) (by omega)) cm_Mo_writeNumber im_Mo_writeNumber se_Mo_writeNumber rfl ml_Mo_328 d_Mo_writeWindow_105 (by decide) h282 rfl rfl (Nat.le_of_ble_eq_true rfl) (by decide) ?_
    rintro _ f320 ⟨rfl, F323, nd'_324, dr'_325, h326, h327, k328, h329, p330, k331⟩
    refine G_cast (st' := []) ?_ rfl rfl rfl rfl
    refine G_aload_n hX 2 rfl rfl d_Mo_writeWindow_108 ?_
    refine G_iload_n hX 3 rfl rfl d_Mo_writeWindow_109 ?_
    refine F_callV hX (st := []) (c_Mo_writeNumber E f320 F323 n nd'_324 dr'_325 ((L ++ [0 + 0]) ++ nbL ((((hdL n 0 (adV gF bg n) (D.length : Int) (C.length : Int) (A.length : Int))).length : Int) + (D.length : Int) + (C.length : Int) + (A.length : Int))) h326 (moK_fr hmk (FrF.tr (FrF.tr (FrF.rf (S := [21])) k284 (by decide)) k328 (by decide)) (by decide)) h327 h329 p330 (by first | omega | (simp only [List.length_append, List.length_cons, List.length_nil]; omega)) (by omega)) cm_Mo_writeNumber im_Mo_writeNumber se_Mo_writeNumber rfl ml_Mo_328 d_Mo_writeWindow_110 (by decide) h326 rfl rfl (Nat.le_of_ble_eq_true rfl) (by decide) ?_
    rintro _ f332 ⟨rfl, F335, nd'_336, dr'_337, h338, h339, k340, h341, p342, k343⟩
    refine G_cast (st' := []) ?_ rfl rfl rfl rfl
    refine G_aload_n hX 2 rfl rfl d_Mo_writeWindow_113 ?_
    refine G_iconst hX d_Mo_writeWindow_114 ?_
    refine F_callV hX (st := []) (c_Mo_write E f332 F335 0 nd'_336 dr'_337 (((L ++ [0 + 0]) ++ nbL ((((hdL n 0 (adV gF bg n) (D.length : Int) (C.length : Int) (A.length : Int))).length : Int) + (D.length : Int) + (C.length : Int) + (A.length : Int))) ++ nbL n) h338 (moK_fr hmk (FrF.tr (FrF.tr (FrF.tr (FrF.rf (S := [21])) k284 (by decide)) k328 (by decide)) k340 (by decide)) (by decide)) h339 h341 p342 (by first | omega | (simp only [List.length_append, List.length_cons, List.length_nil]; omega))) cm_Mo_write im_Mo_write se_Mo_write rfl ml_Mo_298 d_Mo_writeWindow_115 (by decide) h338 rfl rfl (Nat.le_of_ble_eq_true rfl) (by decide) ?_
    rintro _ f344 ⟨rfl, F347, nd'_348, dr'_349, h350, h351, k352, h353, p354, k355⟩
    refine G_cast (st' := []) ?_ rfl rfl rfl rfl
    refine G_iconst hX d_Mo_writeWindow_118 ?_
    refine G_istore hX (lv' := [(5, .int (zI 0)), (4, .int (zI (((((((((wid n) + 1) + 0) + (wid ((D.length : Nat) : Int))) + ((D.length : Nat) : Int)) + (wid ((C.length : Nat) : Int))) + ((C.length : Nat) : Int)) + (wid ((A.length : Nat) : Int))) + ((A.length : Nat) : Int)))), (0, .ref (eA E 61)), (1, .int (zI n)), (2, .int (zI bg)), (3, .int (zI 0))]) (by decide) rfl d_Mo_writeWindow_119 ?_
    refine G_iload hX 0 rfl d_Mo_writeWindow_121 ?_
    refine G_iconst hX d_Mo_writeWindow_123 ?_
    refine G_icmp_ge_z hX (tgt := 144) d_Mo_writeWindow_124 rfl (by omega) (fun c356 => by exfalso; omega) (fun c357 => ?_)
    refine G_aload_n hX 2 rfl rfl d_Mo_writeWindow_127 ?_
    refine G_aload_n hX 2 rfl rfl d_Mo_writeWindow_128 ?_
    have h358 : F347 23 = .ref (eA E 76) := (k352 23 (by decide)).trans ((k340 23 (by decide)).trans ((k328 23 (by decide)).trans h299))
    refine M_get hX fg_Mo_124 d_Mo_writeWindow_129 h350 (by decide) h358 ?_
    refine G_iload hX 0 rfl d_Mo_writeWindow_132 ?_
    have h359 : f344 76 = iz E 3 ps := (k355 76 (by decide)).trans ((k343 76 (by decide)).trans ((k331 76 (by decide)).trans h300))
    refine F_iald hX d_Mo_writeWindow_134 76 (by decide) h359 (by omega) ?_
    refine G_top (show zI (ps 0) = zI ((D.length : Nat) : Int) from congrArg zI hpr.1.1) ?_
    refine F_callV hX (st := []) (c_Mo_writeNumber E f344 F347 ((D.length : Nat) : Int) nd'_348 dr'_349 ((((L ++ [0 + 0]) ++ nbL ((((hdL n 0 (adV gF bg n) (D.length : Int) (C.length : Int) (A.length : Int))).length : Int) + (D.length : Int) + (C.length : Int) + (A.length : Int))) ++ nbL n) ++ [0]) h350 (moK_fr hmk (FrF.tr (FrF.tr (FrF.tr (FrF.tr (FrF.rf (S := [21])) k284 (by decide)) k328 (by decide)) k340 (by decide)) k352 (by decide)) (by decide)) h351 h353 p354 (by first | omega | (simp only [List.length_append, List.length_cons, List.length_nil]; omega)) (by omega)) cm_Mo_writeNumber im_Mo_writeNumber se_Mo_writeNumber rfl ml_Mo_328 d_Mo_writeWindow_135 (by decide) h350 rfl rfl (Nat.le_of_ble_eq_true rfl) (by decide) ?_
    rintro _ f360 ⟨rfl, F363, nd'_364, dr'_365, h366, h367, k368, h369, p370, k371⟩
    refine G_cast (st' := []) ?_ rfl rfl rfl rfl
    refine G_iinc_z hX (lv' := [(5, .int (zI (0 + 1))), (4, .int (zI (((((((((wid n) + 1) + 0) + (wid ((D.length : Nat) : Int))) + ((D.length : Nat) : Int)) + (wid ((C.length : Nat) : Int))) + ((C.length : Nat) : Int)) + (wid ((A.length : Nat) : Int))) + ((A.length : Nat) : Int)))), (0, .ref (eA E 61)), (1, .int (zI n)), (2, .int (zI bg)), (3, .int (zI 0))]) 0 rfl (by decide) rfl d_Mo_writeWindow_138 ?_
    refine G_goto hX (tgt := 121) d_Mo_writeWindow_141 rfl ?_
    refine G_iload hX 0 rfl d_Mo_writeWindow_121 ?_
    refine G_iconst hX d_Mo_writeWindow_123 ?_
    refine G_icmp_ge_z hX (tgt := 144) d_Mo_writeWindow_124 rfl (by omega) (fun c372 => by exfalso; omega) (fun c373 => ?_)
    refine G_aload_n hX 2 rfl rfl d_Mo_writeWindow_127 ?_
    refine G_aload_n hX 2 rfl rfl d_Mo_writeWindow_128 ?_
    have h374 : F363 23 = .ref (eA E 76) := (k368 23 (by decide)).trans h358
    refine M_get hX fg_Mo_124 d_Mo_writeWindow_129 h366 (by decide) h374 ?_
    refine G_iload hX 0 rfl d_Mo_writeWindow_132 ?_
    have h375 : f360 76 = iz E 3 ps := (k371 76 (by decide)).trans h359
    refine F_iald hX d_Mo_writeWindow_134 76 (by decide) h375 (by omega) ?_
    refine G_top (show zI (ps (0 + 1)) = zI ((C.length : Nat) : Int) from congrArg zI hpr.2.1.1) ?_
    refine F_callV hX (st := []) (c_Mo_writeNumber E f360 F363 ((C.length : Nat) : Int) nd'_364 dr'_365 (((((L ++ [0 + 0]) ++ nbL ((((hdL n 0 (adV gF bg n) (D.length : Int) (C.length : Int) (A.length : Int))).length : Int) + (D.length : Int) + (C.length : Int) + (A.length : Int))) ++ nbL n) ++ [0]) ++ nbL ((D.length : Nat) : Int)) h366 (moK_fr hmk (FrF.tr (FrF.tr (FrF.tr (FrF.tr (FrF.tr (FrF.rf (S := [21])) k284 (by decide)) k328 (by decide)) k340 (by decide)) k352 (by decide)) k368 (by decide)) (by decide)) h367 h369 p370 (by first | omega | (simp only [List.length_append, List.length_cons, List.length_nil]; omega)) (by omega)) cm_Mo_writeNumber im_Mo_writeNumber se_Mo_writeNumber rfl ml_Mo_328 d_Mo_writeWindow_135 (by decide) h366 rfl rfl (Nat.le_of_ble_eq_true rfl) (by decide) ?_
    rintro _ f376 ⟨rfl, F379, nd'_380, dr'_381, h382, h383, k384, h385, p386, k387⟩
    refine G_cast (st' := []) ?_ rfl rfl rfl rfl
    refine G_iinc_z hX (lv' := [(5, .int (zI ((0 + 1) + 1))), (4, .int (zI (((((((((wid n) + 1) + 0) + (wid ((D.length : Nat) : Int))) + ((D.length : Nat) : Int)) + (wid ((C.length : Nat) : Int))) + ((C.length : Nat) : Int)) + (wid ((A.length : Nat) : Int))) + ((A.length : Nat) : Int)))), (0, .ref (eA E 61)), (1, .int (zI n)), (2, .int (zI bg)), (3, .int (zI 0))]) 0 rfl (by decide) rfl d_Mo_writeWindow_138 ?_
    refine G_goto hX (tgt := 121) d_Mo_writeWindow_141 rfl ?_
    refine G_iload hX 0 rfl d_Mo_writeWindow_121 ?_
    refine G_iconst hX d_Mo_writeWindow_123 ?_
    refine G_icmp_ge_z hX (tgt := 144) d_Mo_writeWindow_124 rfl (by omega) (fun c388 => by exfalso; omega) (fun c389 => ?_)
    refine G_aload_n hX 2 rfl rfl d_Mo_writeWindow_127 ?_
    refine G_aload_n hX 2 rfl rfl d_Mo_writeWindow_128 ?_
    have h390 : F379 23 = .ref (eA E 76) := (k384 23 (by decide)).trans h374
    refine M_get hX fg_Mo_124 d_Mo_writeWindow_129 h382 (by decide) h390 ?_
    refine G_iload hX 0 rfl d_Mo_writeWindow_132 ?_
    have h391 : f376 76 = iz E 3 ps := (k387 76 (by decide)).trans h375
    refine F_iald hX d_Mo_writeWindow_134 76 (by decide) h391 (by omega) ?_
    refine G_top (show zI (ps ((0 + 1) + 1)) = zI ((A.length : Nat) : Int) from congrArg zI hpr.2.2.1) ?_
    refine F_callV hX (st := []) (c_Mo_writeNumber E f376 F379 ((A.length : Nat) : Int) nd'_380 dr'_381 ((((((L ++ [0 + 0]) ++ nbL ((((hdL n 0 (adV gF bg n) (D.length : Int) (C.length : Int) (A.length : Int))).length : Int) + (D.length : Int) + (C.length : Int) + (A.length : Int))) ++ nbL n) ++ [0]) ++ nbL ((D.length : Nat) : Int)) ++ nbL ((C.length : Nat) : Int)) h382 (moK_fr hmk (FrF.tr (FrF.tr (FrF.tr (FrF.tr (FrF.tr (FrF.tr (FrF.rf (S := [21])) k284 (by decide)) k328 (by decide)) k340 (by decide)) k352 (by decide)) k368 (by decide)) k384 (by decide)) (by decide)) h383 h385 p386 (by first | omega | (simp only [List.length_append, List.length_cons, List.length_nil]; omega)) (by omega)) cm_Mo_writeNumber im_Mo_writeNumber se_Mo_writeNumber rfl ml_Mo_328 d_Mo_writeWindow_135 (by decide) h382 rfl rfl (Nat.le_of_ble_eq_true rfl) (by decide) ?_
    rintro _ f392 ⟨rfl, F395, nd'_396, dr'_397, h398, h399, k400, h401, p402, k403⟩
    refine G_cast (st' := []) ?_ rfl rfl rfl rfl
    refine G_iinc_z hX (lv' := [(5, .int (zI (((0 + 1) + 1) + 1))), (4, .int (zI (((((((((wid n) + 1) + 0) + (wid ((D.length : Nat) : Int))) + ((D.length : Nat) : Int)) + (wid ((C.length : Nat) : Int))) + ((C.length : Nat) : Int)) + (wid ((A.length : Nat) : Int))) + ((A.length : Nat) : Int)))), (0, .ref (eA E 61)), (1, .int (zI n)), (2, .int (zI bg)), (3, .int (zI 0))]) 0 rfl (by decide) rfl d_Mo_writeWindow_138 ?_
    refine G_goto hX (tgt := 121) d_Mo_writeWindow_141 rfl ?_
    refine G_iload hX 0 rfl d_Mo_writeWindow_121 ?_
    refine G_iconst hX d_Mo_writeWindow_123 ?_
    refine G_icmp_ge_z hX (tgt := 144) d_Mo_writeWindow_124 rfl (by omega) (fun c404 => ?_) (fun c405 => by exfalso; omega)
    refine G_aload_n hX 2 rfl rfl d_Mo_writeWindow_144 ?_
    refine G_iconst hX d_Mo_writeWindow_145 ?_
    refine G_iload_n hX 4 rfl rfl d_Mo_writeWindow_146 ?_
    refine G_iload_n hX 3 rfl rfl d_Mo_writeWindow_147 ?_
    have h406 : f392 63 = iz E 1600 b := (k403 63 (by decide)).trans ((k387 63 (by decide)).trans ((k371 63 (by decide)).trans ((k355 63 (by decide)).trans ((k343 63 (by decide)).trans ((k331 63 (by decide)).trans ((k287 63 (by decide)).trans hc63))))))
    refine F_callV hX (st := []) (c_Mo_checkNew E f392 F395 bg n b gF bg h398 (moK_fr hmk (FrF.tr (FrF.tr (FrF.tr (FrF.tr (FrF.tr (FrF.tr (FrF.tr (FrF.rf (S := [21])) k284 (by decide)) k328 (by decide)) k340 (by decide)) k352 (by decide)) k368 (by decide)) k384 (by decide)) k400 (by decide)) (by decide)) h406 hG (fun i h1 h2 => by rw [Int.add_assoc]; exact hag (bg + i) (by omega) (by omega)) (by omega)) cm_Mo_checkOf im_Mo_checkOf se_Mo_checkOf rfl ml_Mo_331 d_Mo_writeWindow_148 (by decide) h398 rfl rfl (Nat.le_of_ble_eq_true rfl) (by decide) ?_
    rintro _ f407 ⟨rfl, e410⟩
    obtain rfl := e410.symm
    refine G_cast (st' := [.long (zL (adV gF bg n))]) ?_ rfl rfl rfl rfl
    refine G_lstore hX (lv' := [(5, .long (zL (adV gF bg n))), (4, .int (zI (((((((((wid n) + 1) + 0) + (wid ((D.length : Nat) : Int))) + ((D.length : Nat) : Int)) + (wid ((C.length : Nat) : Int))) + ((C.length : Nat) : Int)) + (wid ((A.length : Nat) : Int))) + ((A.length : Nat) : Int)))), (0, .ref (eA E 61)), (1, .int (zI n)), (2, .int (zI bg)), (3, .int (zI 0))]) (by decide) rfl d_Mo_writeWindow_151 ?_
    refine G_bipush hX (by decide) d_Mo_writeWindow_153 ?_
    refine G_istore hX (lv' := [(7, .int (zI 24)), (5, .long (zL (adV gF bg n))), (4, .int (zI (((((((((wid n) + 1) + 0) + (wid ((D.length : Nat) : Int))) + ((D.length : Nat) : Int)) + (wid ((C.length : Nat) : Int))) + ((C.length : Nat) : Int)) + (wid ((A.length : Nat) : Int))) + ((A.length : Nat) : Int)))), (0, .ref (eA E 61)), (1, .int (zI n)), (2, .int (zI bg)), (3, .int (zI 0))]) (by decide) rfl d_Mo_writeWindow_155 ?_
    refine G_iload hX 0 rfl d_Mo_writeWindow_157 ?_
    refine G_if_lt_z hX (tgt := 186) d_Mo_writeWindow_159 rfl (by omega) (fun c411 => by exfalso; omega) (fun c412 => ?_)
    refine G_iload_n hX 6 rfl rfl d_Mo_writeWindow_162 ?_
    refine G_if_eq_z hX (tgt := 186) d_Mo_writeWindow_163 rfl (by omega) (fun c413 => ?_) (fun c414 => by exfalso; omega)
    refine G_iconst hX d_Mo_writeWindow_186 ?_
    refine G_istore hX (lv' := [(7, .int (zI 0)), (5, .long (zL (adV gF bg n))), (4, .int (zI (((((((((wid n) + 1) + 0) + (wid ((D.length : Nat) : Int))) + ((D.length : Nat) : Int)) + (wid ((C.length : Nat) : Int))) + ((C.length : Nat) : Int)) + (wid ((A.length : Nat) : Int))) + ((A.length : Nat) : Int)))), (0, .ref (eA E 61)), (1, .int (zI n)), (2, .int (zI bg)), (3, .int (zI 0))]) (by decide) rfl d_Mo_writeWindow_187 ?_
    refine G_iload hX 0 rfl d_Mo_writeWindow_189 ?_
    refine G_iconst hX d_Mo_writeWindow_191 ?_
    refine G_icmp_ge_z hX (tgt := 240) d_Mo_writeWindow_192 rfl (by omega) (fun c415 => by exfalso; omega) (fun c416 => ?_)
    refine G_iconst hX d_Mo_writeWindow_195 ?_
    refine G_istore hX (lv' := [(8, .int (zI 0)), (7, .int (zI 0)), (5, .long (zL (adV gF bg n))), (4, .int (zI (((((((((wid n) + 1) + 0) + (wid ((D.length : Nat) : Int))) + ((D.length : Nat) : Int)) + (wid ((C.length : Nat) : Int))) + ((C.length : Nat) : Int)) + (wid ((A.length : Nat) : Int))) + ((A.length : Nat) : Int)))), (0, .ref (eA E 61)), (1, .int (zI n)), (2, .int (zI bg)), (3, .int (zI 0))]) (by decide) rfl d_Mo_writeWindow_196 ?_
    have loop420 : ∀ (q : Nat) (t0 : Int) (nd0 : Int) (dr0 : Int → Int) (F417 : Nat → Value) (f421 : Nat → va_E), ((D.length : Int) - t0).toNat < q → (0 ≤ t0 ∧ t0 ≤ (D.length : Int)) → (rep dr0 nd0 ((((((((L ++ [0 + 0]) ++ nbL ((((hdL n 0 (adV gF bg n) (D.length : Int) (C.length : Int) (A.length : Int))).length : Int) + (D.length : Int) + (C.length : Int) + (A.length : Int))) ++ nbL n) ++ [0]) ++ nbL ((D.length : Nat) : Int)) ++ nbL ((C.length : Nat) : Int)) ++ nbL ((A.length : Nat) : Int)) ++ sl (fun k => pt (0 + k)) 0 t0.toNat)) → (F417 21 = .int (zI nd0)) → (FrF [21] F395 F417) → f421 75 = iz E 3000 dr0 → f421 61 = mob F417 → Fr [75, 61] f392 f421 → G E X 0 0 198 [(0, .ref (eA E 61)), (7, .int (zI 0)), (8, .int (zI t0))] [] (wl E f421) := by
      intro q
      induction q with
      | zero => intro t0 nd0 dr0 F417 f421 hms423; exact absurd hms423 (Nat.not_lt_zero _)
      | succ q ih424 =>
        intro t0 nd0 dr0 F417 f421 hms423 ht0 hr0 h418 k419 h425 h426 k422
        refine G_iload hX 2 rfl d_Mo_writeWindow_198 ?_
        refine G_aload_n hX 0 rfl rfl d_Mo_writeWindow_200 ?_
        have h427 : F417 23 = .ref (eA E 76) := (k419 23 (by decide)).trans ((k400 23 (by decide)).trans h390)
        refine M_get hX fg_Mo_124 d_Mo_writeWindow_201 h426 (by decide) h427 ?_
        refine G_iload hX 1 rfl d_Mo_writeWindow_204 ?_
        have h428 : f421 76 = iz E 3 ps := (k422 76 (by decide)).trans ((k403 76 (by decide)).trans h391)
        refine F_iald hX d_Mo_writeWindow_206 76 (by decide) h428 (by omega) ?_
        refine G_top (show zI (ps 0) = zI ((D.length : Nat) : Int) from congrArg zI hpr.1.1) ?_
        refine G_icmp_ge_z hX (tgt := 234) d_Mo_writeWindow_207 rfl (by omega) (fun c429 => ?_) (fun c430 => ?_)
        · skip
          have et0 : t0 = (D.length : Int) := by omega
          have hs0 : (((((((L ++ [0 + 0]) ++ nbL ((((hdL n 0 (adV gF bg n) (D.length : Int) (C.length : Int) (A.length : Int))).length : Int) + (D.length : Int) + (C.length : Int) + (A.length : Int))) ++ nbL n) ++ [0]) ++ nbL ((D.length : Nat) : Int)) ++ nbL ((C.length : Nat) : Int)) ++ nbL ((A.length : Nat) : Int)) ++ sl (fun k => pt (0 + k)) 0 t0.toNat = (((((((L ++ [0 + 0]) ++ nbL ((((hdL n 0 (adV gF bg n) (D.length : Int) (C.length : Int) (A.length : Int))).length : Int) + (D.length : Int) + (C.length : Int) + (A.length : Int))) ++ nbL n) ++ [0]) ++ nbL ((D.length : Nat) : Int)) ++ nbL ((C.length : Nat) : Int)) ++ nbL ((A.length : Nat) : Int)) ++ D := by rw [et0, rep_sub hpr.1]
          have hz0 := hr0
          rw [hs0] at hz0
          refine G_iinc_z hX (lv' := [(7, .int (zI (0 + 1))), (0, .ref (eA E 61)), (8, .int (zI t0))]) 1 rfl (by decide) rfl d_Mo_writeWindow_234 ?_
          refine G_goto hX (tgt := 189) d_Mo_writeWindow_237 rfl ?_
          refine G_iload hX 0 rfl d_Mo_writeWindow_189 ?_
          refine G_iconst hX d_Mo_writeWindow_191 ?_
          refine G_icmp_ge_z hX (tgt := 240) d_Mo_writeWindow_192 rfl (by omega) (fun c431 => by exfalso; omega) (fun c432 => ?_)
          refine G_iconst hX d_Mo_writeWindow_195 ?_
          refine G_istore hX (lv' := [(8, .int (zI 0)), (7, .int (zI (0 + 1))), (0, .ref (eA E 61))]) (by decide) rfl d_Mo_writeWindow_196 ?_
          have loop436 : ∀ (q : Nat) (t1 : Int) (nd1 : Int) (dr1 : Int → Int) (F433 : Nat → Value) (f437 : Nat → va_E), ((C.length : Int) - t1).toNat < q → (0 ≤ t1 ∧ t1 ≤ (C.length : Int)) → (rep dr1 nd1 (((((((((L ++ [0 + 0]) ++ nbL ((((hdL n 0 (adV gF bg n) (D.length : Int) (C.length : Int) (A.length : Int))).length : Int) + (D.length : Int) + (C.length : Int) + (A.length : Int))) ++ nbL n) ++ [0]) ++ nbL ((D.length : Nat) : Int)) ++ nbL ((C.length : Nat) : Int)) ++ nbL ((A.length : Nat) : Int)) ++ D) ++ sl (fun k => pt (1000 + k)) 0 t1.toNat)) → (F433 21 = .int (zI nd1)) → (FrF [21] F417 F433) → f437 75 = iz E 3000 dr1 → f437 61 = mob F433 → Fr [75, 61] f421 f437 → G E X 0 0 198 [(0, .ref (eA E 61)), (7, .int (zI (0 + 1))), (8, .int (zI t1))] [] (wl E f437) := by
            intro q
            induction q with
            | zero => intro t1 nd1 dr1 F433 f437 hms439; exact absurd hms439 (Nat.not_lt_zero _)
            | succ q ih440 =>
              intro t1 nd1 dr1 F433 f437 hms439 ht1 hr1 h434 k435 h441 h442 k438
              refine G_iload hX 2 rfl d_Mo_writeWindow_198 ?_
              refine G_aload_n hX 0 rfl rfl d_Mo_writeWindow_200 ?_
              have h443 : F433 23 = .ref (eA E 76) := (k435 23 (by decide)).trans h427
              refine M_get hX fg_Mo_124 d_Mo_writeWindow_201 h442 (by decide) h443 ?_
              refine G_iload hX 1 rfl d_Mo_writeWindow_204 ?_
              have h444 : f437 76 = iz E 3 ps := (k438 76 (by decide)).trans h428
              refine F_iald hX d_Mo_writeWindow_206 76 (by decide) h444 (by omega) ?_
              refine G_top (show zI (ps (0 + 1)) = zI ((C.length : Nat) : Int) from congrArg zI hpr.2.1.1) ?_
              refine G_icmp_ge_z hX (tgt := 234) d_Mo_writeWindow_207 rfl (by omega) (fun c445 => ?_) (fun c446 => ?_)
              · skip
                have et1 : t1 = (C.length : Int) := by omega
                have hs1 : ((((((((L ++ [0 + 0]) ++ nbL ((((hdL n 0 (adV gF bg n) (D.length : Int) (C.length : Int) (A.length : Int))).length : Int) + (D.length : Int) + (C.length : Int) + (A.length : Int))) ++ nbL n) ++ [0]) ++ nbL ((D.length : Nat) : Int)) ++ nbL ((C.length : Nat) : Int)) ++ nbL ((A.length : Nat) : Int)) ++ D) ++ sl (fun k => pt (1000 + k)) 0 t1.toNat = ((((((((L ++ [0 + 0]) ++ nbL ((((hdL n 0 (adV gF bg n) (D.length : Int) (C.length : Int) (A.length : Int))).length : Int) + (D.length : Int) + (C.length : Int) + (A.length : Int))) ++ nbL n) ++ [0]) ++ nbL ((D.length : Nat) : Int)) ++ nbL ((C.length : Nat) : Int)) ++ nbL ((A.length : Nat) : Int)) ++ D) ++ C := by rw [et1, rep_sub hpr.2.1]
                have hz1 := hr1
                rw [hs1] at hz1
                refine G_iinc_z hX (lv' := [(7, .int (zI ((0 + 1) + 1))), (0, .ref (eA E 61)), (8, .int (zI t1))]) 1 rfl (by decide) rfl d_Mo_writeWindow_234 ?_
                refine G_goto hX (tgt := 189) d_Mo_writeWindow_237 rfl ?_
                refine G_iload hX 0 rfl d_Mo_writeWindow_189 ?_
                refine G_iconst hX d_Mo_writeWindow_191 ?_
                refine G_icmp_ge_z hX (tgt := 240) d_Mo_writeWindow_192 rfl (by omega) (fun c447 => by exfalso; omega) (fun c448 => ?_)
                refine G_iconst hX d_Mo_writeWindow_195 ?_
                refine G_istore hX (lv' := [(8, .int (zI 0)), (7, .int (zI ((0 + 1) + 1))), (0, .ref (eA E 61))]) (by decide) rfl d_Mo_writeWindow_196 ?_
                have loop452 : ∀ (q : Nat) (t2 : Int) (nd2 : Int) (dr2 : Int → Int) (F449 : Nat → Value) (f453 : Nat → va_E), ((A.length : Int) - t2).toNat < q → (0 ≤ t2 ∧ t2 ≤ (A.length : Int)) → (rep dr2 nd2 ((((((((((L ++ [0 + 0]) ++ nbL ((((hdL n 0 (adV gF bg n) (D.length : Int) (C.length : Int) (A.length : Int))).length : Int) + (D.length : Int) + (C.length : Int) + (A.length : Int))) ++ nbL n) ++ [0]) ++ nbL ((D.length : Nat) : Int)) ++ nbL ((C.length : Nat) : Int)) ++ nbL ((A.length : Nat) : Int)) ++ D) ++ C) ++ sl (fun k => pt (2000 + k)) 0 t2.toNat)) → (F449 21 = .int (zI nd2)) → (FrF [21] F433 F449) → f453 75 = iz E 3000 dr2 → f453 61 = mob F449 → Fr [75, 61] f437 f453 → G E X 0 0 198 [(0, .ref (eA E 61)), (7, .int (zI ((0 + 1) + 1))), (8, .int (zI t2))] [] (wl E f453) := by
                  intro q
                  induction q with
                  | zero => intro t2 nd2 dr2 F449 f453 hms455; exact absurd hms455 (Nat.not_lt_zero _)
                  | succ q ih456 =>
                    intro t2 nd2 dr2 F449 f453 hms455 ht2 hr2 h450 k451 h457 h458 k454
                    refine G_iload hX 2 rfl d_Mo_writeWindow_198 ?_
                    refine G_aload_n hX 0 rfl rfl d_Mo_writeWindow_200 ?_
                    have h459 : F449 23 = .ref (eA E 76) := (k451 23 (by decide)).trans h443
                    refine M_get hX fg_Mo_124 d_Mo_writeWindow_201 h458 (by decide) h459 ?_
                    refine G_iload hX 1 rfl d_Mo_writeWindow_204 ?_
                    have h460 : f453 76 = iz E 3 ps := (k454 76 (by decide)).trans h444
                    refine F_iald hX d_Mo_writeWindow_206 76 (by decide) h460 (by omega) ?_
                    refine G_top (show zI (ps ((0 + 1) + 1)) = zI ((A.length : Nat) : Int) from congrArg zI hpr.2.2.1) ?_
                    refine G_icmp_ge_z hX (tgt := 234) d_Mo_writeWindow_207 rfl (by omega) (fun c461 => ?_) (fun c462 => ?_)
                    · skip
                      have et2 : t2 = (A.length : Int) := by omega
                      have hs2 : (((((((((L ++ [0 + 0]) ++ nbL ((((hdL n 0 (adV gF bg n) (D.length : Int) (C.length : Int) (A.length : Int))).length : Int) + (D.length : Int) + (C.length : Int) + (A.length : Int))) ++ nbL n) ++ [0]) ++ nbL ((D.length : Nat) : Int)) ++ nbL ((C.length : Nat) : Int)) ++ nbL ((A.length : Nat) : Int)) ++ D) ++ C) ++ sl (fun k => pt (2000 + k)) 0 t2.toNat = (((((((((L ++ [0 + 0]) ++ nbL ((((hdL n 0 (adV gF bg n) (D.length : Int) (C.length : Int) (A.length : Int))).length : Int) + (D.length : Int) + (C.length : Int) + (A.length : Int))) ++ nbL n) ++ [0]) ++ nbL ((D.length : Nat) : Int)) ++ nbL ((C.length : Nat) : Int)) ++ nbL ((A.length : Nat) : Int)) ++ D) ++ C) ++ A := by rw [et2, rep_sub hpr.2.2]
                      have hz2 := hr2
                      rw [hs2] at hz2
                      refine G_iinc_z hX (lv' := [(7, .int (zI (((0 + 1) + 1) + 1))), (0, .ref (eA E 61)), (8, .int (zI t2))]) 1 rfl (by decide) rfl d_Mo_writeWindow_234 ?_
                      refine G_goto hX (tgt := 189) d_Mo_writeWindow_237 rfl ?_
                      refine G_iload hX 0 rfl d_Mo_writeWindow_189 ?_
                      refine G_iconst hX d_Mo_writeWindow_191 ?_
                      refine G_icmp_ge_z hX (tgt := 240) d_Mo_writeWindow_192 rfl (by omega) (fun c463 => ?_) (fun c464 => by exfalso; omega)
                      have ews : wsL s 0 = [0 + 0] := by unfold wsL; rw [if_neg hsp, if_neg hsp, List.append_nil, if_pos rfl]
                      have eal : ∀ Z : List Int, (hdL n 0 (adV gF bg n) (D.length : Int) (C.length : Int) (A.length : Int)) ++ Z = (nbL n ++ ([0] ++ (nbL (D.length : Int) ++ (nbL (C.length : Int) ++ nbL (A.length : Int))))) ++ Z := fun Z => by rw [hd0]
                      exact F_vret hX hE d_Mo_writeWindow_240 ⟨rfl, F449, _, _, h458, h450, (FrF.tr (FrF.tr (FrF.tr (FrF.tr (FrF.tr (FrF.tr (FrF.tr (FrF.tr (FrF.tr (FrF.tr FrF.rf k284 (by decide)) k328 (by decide)) k340 (by decide)) k352 (by decide)) k368 (by decide)) k384 (by decide)) k400 (by decide)) k419 (by decide)) k435 (by decide)) k451 (by decide)), h457, (by rw [ews, eal]; simpa only [List.append_assoc, List.cons_append, List.nil_append] using hz2), (Fr.tr (Fr.tr (Fr.tr (Fr.tr (Fr.tr (Fr.tr (Fr.tr (Fr.tr (Fr.tr (Fr.tr Fr.rf k287 (by decide)) k331 (by decide)) k343 (by decide)) k355 (by decide)) k371 (by decide)) k387 (by decide)) k403 (by decide)) k422 (by decide)) k438 (by decide)) k454 (by decide))⟩
                    · skip
                      refine G_aload_n hX 0 rfl rfl d_Mo_writeWindow_210 ?_
                      refine G_aload_n hX 0 rfl rfl d_Mo_writeWindow_211 ?_
                      have h465 : F449 24 = .ref (eA E 77) := (k451 24 (by decide)).trans ((k435 24 (by decide)).trans ((k419 24 (by decide)).trans ((k400 24 (by decide)).trans ((k384 24 (by decide)).trans ((k368 24 (by decide)).trans ((k352 24 (by decide)).trans ((k340 24 (by decide)).trans ((k328 24 (by decide)).trans ((k284 24 (by decide)).trans (hmk 24 77 (by decide)))))))))))
                      refine M_get hX fg_Mo_127 d_Mo_writeWindow_212 h458 (by decide) h465 ?_
                      refine G_sipush hX (by decide) d_Mo_writeWindow_215 ?_
                      refine G_iload hX 1 rfl d_Mo_writeWindow_218 ?_
                      refine G_imul_z hX d_Mo_writeWindow_220 ?_
                      refine G_iload hX 2 rfl d_Mo_writeWindow_221 ?_
                      refine G_iadd_z hX d_Mo_writeWindow_223 ?_
                      have h466 : f453 77 = iz E 3000 pt := (k454 77 (by decide)).trans ((k438 77 (by decide)).trans ((k422 77 (by decide)).trans ((k403 77 (by decide)).trans ((k387 77 (by decide)).trans ((k371 77 (by decide)).trans ((k355 77 (by decide)).trans ((k343 77 (by decide)).trans ((k331 77 (by decide)).trans ((k287 77 (by decide)).trans hc77)))))))))
                      refine F_iald hX d_Mo_writeWindow_224 77 (by decide) h466 (by omega) ?_
                      refine G_top (show zI (pt ((1000 * ((0 + 1) + 1)) + t2)) = zI (pt (2000 + (0 + t2))) from congrArg (fun z => zI (pt z)) (by omega)) ?_
                      refine F_callV hX (st := []) (c_Mo_write E f453 F449 (pt (2000 + (0 + t2))) nd2 dr2 ((((((((((L ++ [0 + 0]) ++ nbL ((((hdL n 0 (adV gF bg n) (D.length : Int) (C.length : Int) (A.length : Int))).length : Int) + (D.length : Int) + (C.length : Int) + (A.length : Int))) ++ nbL n) ++ [0]) ++ nbL ((D.length : Nat) : Int)) ++ nbL ((C.length : Nat) : Int)) ++ nbL ((A.length : Nat) : Int)) ++ D) ++ C) ++ sl (fun k => pt (2000 + k)) 0 t2.toNat) h458 (moK_fr hmk (FrF.tr (FrF.tr (FrF.tr (FrF.tr (FrF.tr (FrF.tr (FrF.tr (FrF.tr (FrF.tr (FrF.tr (FrF.rf (S := [21])) k284 (by decide)) k328 (by decide)) k340 (by decide)) k352 (by decide)) k368 (by decide)) k384 (by decide)) k400 (by decide)) k419 (by decide)) k435 (by decide)) k451 (by decide)) (by decide)) h450 h457 hr2 (by simp only [List.length_append, List.length_cons, List.length_nil, sl_len]; omega)) cm_Mo_write im_Mo_write se_Mo_write rfl ml_Mo_298 d_Mo_writeWindow_225 (by decide) h458 rfl rfl (Nat.le_of_ble_eq_true rfl) (by decide) ?_
                      rintro _ f467 ⟨rfl, F470, nd'_471, dr'_472, h473, h474, k475, h476, p477, k478⟩
                      refine G_cast (st' := []) ?_ rfl rfl rfl rfl
                      refine G_iinc_z hX (lv' := [(8, .int (zI (t2 + 1))), (0, .ref (eA E 61)), (7, .int (zI ((0 + 1) + 1)))]) 2 rfl (by decide) rfl d_Mo_writeWindow_228 ?_
                      refine G_goto hX (tgt := 198) d_Mo_writeWindow_231 rfl ?_
                      refine G_loc (lv' := [(0, .ref (eA E 61)), (7, .int (zI ((0 + 1) + 1))), (8, .int (zI (t2 + 1)))]) [1, 2, 0] rfl ?_
                      exact ih456 (t2 + 1) nd'_471 dr'_472 F470 f467 (by omega) (by omega) (by rw [sl_s (fun k => pt (2000 + k)) 0 ht2.1, ← List.append_assoc]; exact p477) h474 (FrF.tr (FrF.tr FrF.rf k451 (by decide)) k475 (by decide)) h476 h473 (Fr.tr (Fr.tr Fr.rf k454 (by decide)) k478 (by decide))
                refine G_loc (lv' := [(0, .ref (eA E 61)), (7, .int (zI ((0 + 1) + 1))), (8, .int (zI 0))]) [2, 1, 0] rfl ?_
                exact loop452 (_ + 1) 0 nd1 dr1 F433 f437 (Nat.lt_succ_self _) (by omega) (by rw [show sl (fun k => pt (2000 + k)) 0 (0 : Int).toNat = [] from rfl, List.append_nil]; exact hz1) h434 FrF.rf h441 h442 Fr.rf
              · skip
                refine G_aload_n hX 0 rfl rfl d_Mo_writeWindow_210 ?_
                refine G_aload_n hX 0 rfl rfl d_Mo_writeWindow_211 ?_
                have h479 : F433 24 = .ref (eA E 77) := (k435 24 (by decide)).trans ((k419 24 (by decide)).trans ((k400 24 (by decide)).trans ((k384 24 (by decide)).trans ((k368 24 (by decide)).trans ((k352 24 (by decide)).trans ((k340 24 (by decide)).trans ((k328 24 (by decide)).trans ((k284 24 (by decide)).trans (hmk 24 77 (by decide))))))))))
                refine M_get hX fg_Mo_127 d_Mo_writeWindow_212 h442 (by decide) h479 ?_
                refine G_sipush hX (by decide) d_Mo_writeWindow_215 ?_
                refine G_iload hX 1 rfl d_Mo_writeWindow_218 ?_
                refine G_imul_z hX d_Mo_writeWindow_220 ?_
                refine G_iload hX 2 rfl d_Mo_writeWindow_221 ?_
                refine G_iadd_z hX d_Mo_writeWindow_223 ?_
                have h480 : f437 77 = iz E 3000 pt := (k438 77 (by decide)).trans ((k422 77 (by decide)).trans ((k403 77 (by decide)).trans ((k387 77 (by decide)).trans ((k371 77 (by decide)).trans ((k355 77 (by decide)).trans ((k343 77 (by decide)).trans ((k331 77 (by decide)).trans ((k287 77 (by decide)).trans hc77))))))))
                refine F_iald hX d_Mo_writeWindow_224 77 (by decide) h480 (by omega) ?_
                refine G_top (show zI (pt ((1000 * (0 + 1)) + t1)) = zI (pt (1000 + (0 + t1))) from congrArg (fun z => zI (pt z)) (by omega)) ?_
                refine F_callV hX (st := []) (c_Mo_write E f437 F433 (pt (1000 + (0 + t1))) nd1 dr1 (((((((((L ++ [0 + 0]) ++ nbL ((((hdL n 0 (adV gF bg n) (D.length : Int) (C.length : Int) (A.length : Int))).length : Int) + (D.length : Int) + (C.length : Int) + (A.length : Int))) ++ nbL n) ++ [0]) ++ nbL ((D.length : Nat) : Int)) ++ nbL ((C.length : Nat) : Int)) ++ nbL ((A.length : Nat) : Int)) ++ D) ++ sl (fun k => pt (1000 + k)) 0 t1.toNat) h442 (moK_fr hmk (FrF.tr (FrF.tr (FrF.tr (FrF.tr (FrF.tr (FrF.tr (FrF.tr (FrF.tr (FrF.tr (FrF.rf (S := [21])) k284 (by decide)) k328 (by decide)) k340 (by decide)) k352 (by decide)) k368 (by decide)) k384 (by decide)) k400 (by decide)) k419 (by decide)) k435 (by decide)) (by decide)) h434 h441 hr1 (by simp only [List.length_append, List.length_cons, List.length_nil, sl_len]; omega)) cm_Mo_write im_Mo_write se_Mo_write rfl ml_Mo_298 d_Mo_writeWindow_225 (by decide) h442 rfl rfl (Nat.le_of_ble_eq_true rfl) (by decide) ?_
                rintro _ f481 ⟨rfl, F484, nd'_485, dr'_486, h487, h488, k489, h490, p491, k492⟩
                refine G_cast (st' := []) ?_ rfl rfl rfl rfl
                refine G_iinc_z hX (lv' := [(8, .int (zI (t1 + 1))), (0, .ref (eA E 61)), (7, .int (zI (0 + 1)))]) 2 rfl (by decide) rfl d_Mo_writeWindow_228 ?_
                refine G_goto hX (tgt := 198) d_Mo_writeWindow_231 rfl ?_
                refine G_loc (lv' := [(0, .ref (eA E 61)), (7, .int (zI (0 + 1))), (8, .int (zI (t1 + 1)))]) [1, 2, 0] rfl ?_
                exact ih440 (t1 + 1) nd'_485 dr'_486 F484 f481 (by omega) (by omega) (by rw [sl_s (fun k => pt (1000 + k)) 0 ht1.1, ← List.append_assoc]; exact p491) h488 (FrF.tr (FrF.tr FrF.rf k435 (by decide)) k489 (by decide)) h490 h487 (Fr.tr (Fr.tr Fr.rf k438 (by decide)) k492 (by decide))
          refine G_loc (lv' := [(0, .ref (eA E 61)), (7, .int (zI (0 + 1))), (8, .int (zI 0))]) [2, 1, 0] rfl ?_
          exact loop436 (_ + 1) 0 nd0 dr0 F417 f421 (Nat.lt_succ_self _) (by omega) (by rw [show sl (fun k => pt (1000 + k)) 0 (0 : Int).toNat = [] from rfl, List.append_nil]; exact hz0) h418 FrF.rf h425 h426 Fr.rf
        · skip
          refine G_aload_n hX 0 rfl rfl d_Mo_writeWindow_210 ?_
          refine G_aload_n hX 0 rfl rfl d_Mo_writeWindow_211 ?_
          have h493 : F417 24 = .ref (eA E 77) := (k419 24 (by decide)).trans ((k400 24 (by decide)).trans ((k384 24 (by decide)).trans ((k368 24 (by decide)).trans ((k352 24 (by decide)).trans ((k340 24 (by decide)).trans ((k328 24 (by decide)).trans ((k284 24 (by decide)).trans (hmk 24 77 (by decide)))))))))
          refine M_get hX fg_Mo_127 d_Mo_writeWindow_212 h426 (by decide) h493 ?_
          refine G_sipush hX (by decide) d_Mo_writeWindow_215 ?_
          refine G_iload hX 1 rfl d_Mo_writeWindow_218 ?_
          refine G_imul_z hX d_Mo_writeWindow_220 ?_
          refine G_iload hX 2 rfl d_Mo_writeWindow_221 ?_
          refine G_iadd_z hX d_Mo_writeWindow_223 ?_
          have h494 : f421 77 = iz E 3000 pt := (k422 77 (by decide)).trans ((k403 77 (by decide)).trans ((k387 77 (by decide)).trans ((k371 77 (by decide)).trans ((k355 77 (by decide)).trans ((k343 77 (by decide)).trans ((k331 77 (by decide)).trans ((k287 77 (by decide)).trans hc77)))))))
          refine F_iald hX d_Mo_writeWindow_224 77 (by decide) h494 (by omega) ?_
          refine G_top (show zI (pt ((1000 * 0) + t0)) = zI (pt (0 + (0 + t0))) from congrArg (fun z => zI (pt z)) (by omega)) ?_
          refine F_callV hX (st := []) (c_Mo_write E f421 F417 (pt (0 + (0 + t0))) nd0 dr0 ((((((((L ++ [0 + 0]) ++ nbL ((((hdL n 0 (adV gF bg n) (D.length : Int) (C.length : Int) (A.length : Int))).length : Int) + (D.length : Int) + (C.length : Int) + (A.length : Int))) ++ nbL n) ++ [0]) ++ nbL ((D.length : Nat) : Int)) ++ nbL ((C.length : Nat) : Int)) ++ nbL ((A.length : Nat) : Int)) ++ sl (fun k => pt (0 + k)) 0 t0.toNat) h426 (moK_fr hmk (FrF.tr (FrF.tr (FrF.tr (FrF.tr (FrF.tr (FrF.tr (FrF.tr (FrF.tr (FrF.rf (S := [21])) k284 (by decide)) k328 (by decide)) k340 (by decide)) k352 (by decide)) k368 (by decide)) k384 (by decide)) k400 (by decide)) k419 (by decide)) (by decide)) h418 h425 hr0 (by simp only [List.length_append, List.length_cons, List.length_nil, sl_len]; omega)) cm_Mo_write im_Mo_write se_Mo_write rfl ml_Mo_298 d_Mo_writeWindow_225 (by decide) h426 rfl rfl (Nat.le_of_ble_eq_true rfl) (by decide) ?_
          rintro _ f495 ⟨rfl, F498, nd'_499, dr'_500, h501, h502, k503, h504, p505, k506⟩
          refine G_cast (st' := []) ?_ rfl rfl rfl rfl
          refine G_iinc_z hX (lv' := [(8, .int (zI (t0 + 1))), (0, .ref (eA E 61)), (7, .int (zI 0))]) 2 rfl (by decide) rfl d_Mo_writeWindow_228 ?_
          refine G_goto hX (tgt := 198) d_Mo_writeWindow_231 rfl ?_
          refine G_loc (lv' := [(0, .ref (eA E 61)), (7, .int (zI 0)), (8, .int (zI (t0 + 1)))]) [1, 2, 0] rfl ?_
          exact ih424 (t0 + 1) nd'_499 dr'_500 F498 f495 (by omega) (by omega) (by rw [sl_s (fun k => pt (0 + k)) 0 ht0.1, ← List.append_assoc]; exact p505) h502 (FrF.tr (FrF.tr FrF.rf k419 (by decide)) k503 (by decide)) h504 h501 (Fr.tr (Fr.tr Fr.rf k422 (by decide)) k506 (by decide))
    refine G_loc (lv' := [(0, .ref (eA E 61)), (7, .int (zI 0)), (8, .int (zI 0))]) [4, 1, 0] rfl ?_
    exact loop420 (_ + 1) 0 nd'_396 dr'_397 F395 f392 (Nat.lt_succ_self _) (by omega) (by rw [show sl (fun k => pt (0 + k)) 0 (0 : Int).toNat = [] from rfl, List.append_nil]; exact p402) h399 FrF.rf h401 h398 Fr.rf
theorem c_Mo_writeWindow1 (E : EV) (f : Nat → va_E) (F : Nat → Value) (n : Int) (bg : Int) (s : Int) (b : Int → Int) (gF : Int → Int) (pt : Int → Int) (ps : Int → Int) (D : List Int) (C : List Int) (A : List Int) (nd : Int) (dr : Int → Int) (L : List Int) (hMo : f 61 = mob F) (hmk : moK E F) (hF12 : F 12 = .int (zI s)) (hF21 : F 21 = .int (zI nd)) (hc63 : f 63 = iz E 1600 b) (hc76 : f 76 = iz E 3 ps) (hc77 : f 77 = iz E 3000 pt) (hc75 : f 75 = iz E 3000 dr) (hpr : prt pt ps D C A) (hl : (D.length : Int) < 990 ∧ (C.length : Int) < 990 ∧ (A.length : Int) < 990) (hL : (L.length : Int) + D.length + C.length + A.length < 2900) (hr : rep dr nd L) (hs : 0 ≤ s ∧ s ≤ 300) (hn : 0 ≤ bg ∧ 0 ≤ n ∧ bg + n ≤ 300) (hG : isB gF) (hag : ∀ j, 0 ≤ j → j < bg + n → b (300 + j) = gF j) : CF yn_Mo_writeWindow cd_Mo_writeWindow 9 none 2 E [.ref (eA E 61), .int (zI n), .int (zI bg), .int (zI 1)] f (fun r f' => r = none ∧ ∃ (F' : Nat → Value) (nd' : Int) (dr' : Int → Int), f' 61 = mob F' ∧ F' 21 = .int (zI nd') ∧ FrF [21] F F' ∧ f' 75 = iz E 3000 dr' ∧ (rep dr' nd' (L ++ (wsL s 1 ++ (nbL ((((hdL n 1 (adV gF bg n) (D.length : Int) (C.length : Int) (A.length : Int))).length : Int) + (D.length : Int) + (C.length : Int) + (A.length : Int)) ++ ((hdL n 1 (adV gF bg n) (D.length : Int) (C.length : Int) (A.length : Int)) ++ (D ++ (C ++ A))))))) ∧ Fr [75, 61] f f') := by
  refine CF.of (by decide +kernel) (Nat.le_of_ble_eq_true rfl) fun X hX hE => ?_
  have hX : Ok E X "DeltaFerryModel" "writeWindow" cd_Mo_writeWindow 9 none (rl 2) := hX
  refine G_cast (lv' := [(0, .ref (eA E 61)), (1, .int (zI n)), (2, .int (zI bg)), (3, .int (zI 1))]) ?_ rfl rfl rfl rfl
  have hva := adV_b gF bg n
  have n1 := nbL_b (n)
  have n2 := wid_b (n)
  have n3 := nbL_b (s)
  have n4 := wid_b (s)
  have n5 := nbL_b (0)
  have n6 := wid_b (0)
  have n7 := nbL_b ((D.length : Int))
  have n8 := wid_b ((D.length : Int))
  have n9 := nbL_b ((C.length : Int))
  have n10 := wid_b ((C.length : Int))
  have n11 := nbL_b ((A.length : Int))
  have n12 := wid_b ((A.length : Int))
  by_cases hsp : 0 < s
  · skip
    refine G_aload_n hX 0 rfl rfl d_Mo_writeWindow_0 ?_
    refine G_aload_n hX 0 rfl rfl d_Mo_writeWindow_1 ?_
    refine M_get hX fg_Mo_249 d_Mo_writeWindow_2 hMo (by decide) hF12 ?_
    refine G_if_le_z hX (tgt := 12) d_Mo_writeWindow_5 rfl (by omega) (fun c13 => by exfalso; omega) (fun c14 => ?_)
    refine G_iconst hX d_Mo_writeWindow_8 ?_
    refine G_goto hX (tgt := 13) d_Mo_writeWindow_9 rfl ?_
    refine G_iload_n hX 3 rfl rfl d_Mo_writeWindow_13 ?_
    refine G_if_eq_z hX (tgt := 21) d_Mo_writeWindow_14 rfl (by omega) (fun c15 => by exfalso; omega) (fun c16 => ?_)
    refine G_iconst hX d_Mo_writeWindow_17 ?_
    refine G_goto hX (tgt := 22) d_Mo_writeWindow_18 rfl ?_
    refine G_iadd_z hX d_Mo_writeWindow_22 ?_
    refine F_callV hX (st := []) (c_Mo_write E f F (1 + 4) nd dr L hMo hmk hF21 hc75 hr (by first | omega | (simp only [List.length_append, List.length_cons, List.length_nil]; omega))) cm_Mo_write im_Mo_write se_Mo_write rfl ml_Mo_298 d_Mo_writeWindow_23 (by decide) hMo rfl rfl (Nat.le_of_ble_eq_true rfl) (by decide) ?_
    rintro _ f17 ⟨rfl, F20, nd'_21, dr'_22, h23, h24, k25, h26, p27, k28⟩
    refine G_cast (st' := []) ?_ rfl rfl rfl rfl
    refine G_aload_n hX 0 rfl rfl d_Mo_writeWindow_26 ?_
    have h29 : F20 12 = .int (zI s) := (k25 12 (by decide)).trans hF12
    refine M_get hX fg_Mo_249 d_Mo_writeWindow_27 h23 (by decide) h29 ?_
    refine G_if_le_z hX (tgt := 46) d_Mo_writeWindow_30 rfl (by omega) (fun c30 => by exfalso; omega) (fun c31 => ?_)
    refine G_aload_n hX 0 rfl rfl d_Mo_writeWindow_33 ?_
    refine G_aload_n hX 0 rfl rfl d_Mo_writeWindow_34 ?_
    refine M_get hX fg_Mo_249 d_Mo_writeWindow_35 h23 (by decide) h29 ?_
    refine F_callV hX (st := []) (c_Mo_writeNumber E f17 F20 s nd'_21 dr'_22 (L ++ [1 + 4]) h23 (moK_fr hmk (FrF.tr (FrF.rf (S := [21])) k25 (by decide)) (by decide)) h24 h26 p27 (by first | omega | (simp only [List.length_append, List.length_cons, List.length_nil]; omega)) (by omega)) cm_Mo_writeNumber im_Mo_writeNumber se_Mo_writeNumber rfl ml_Mo_328 d_Mo_writeWindow_38 (by decide) h23 rfl rfl (Nat.le_of_ble_eq_true rfl) (by decide) ?_
    rintro _ f32 ⟨rfl, F35, nd'_36, dr'_37, h38, h39, k40, h41, p42, k43⟩
    refine G_cast (st' := []) ?_ rfl rfl rfl rfl
    refine G_aload_n hX 0 rfl rfl d_Mo_writeWindow_41 ?_
    refine G_iconst hX d_Mo_writeWindow_42 ?_
    refine F_callV hX (st := []) (c_Mo_writeNumber E f32 F35 0 nd'_36 dr'_37 ((L ++ [1 + 4]) ++ nbL s) h38 (moK_fr hmk (FrF.tr (FrF.tr (FrF.rf (S := [21])) k25 (by decide)) k40 (by decide)) (by decide)) h39 h41 p42 (by first | omega | (simp only [List.length_append, List.length_cons, List.length_nil]; omega)) (by omega)) cm_Mo_writeNumber im_Mo_writeNumber se_Mo_writeNumber rfl ml_Mo_328 d_Mo_writeWindow_43 (by decide) h38 rfl rfl (Nat.le_of_ble_eq_true rfl) (by decide) ?_
    rintro _ f44 ⟨rfl, F47, nd'_48, dr'_49, h50, h51, k52, h53, p54, k55⟩
    refine G_cast (st' := []) ?_ rfl rfl rfl rfl
    refine G_iload_n hX 1 rfl rfl d_Mo_writeWindow_46 ?_
    refine F_callS hX (st := []) (c_Mo_widthOf E f44 n (by omega)) cm_Mo_widthOf sm_Mo_widthOf ml_Mo_295 d_Mo_writeWindow_47 rfl rfl (Nat.le_of_ble_eq_true rfl) (by decide) ?_
    rintro _ f56 ⟨rfl, e59⟩
    obtain rfl := e59.symm
    refine G_cast (st' := [.int (zI (wid n))]) ?_ rfl rfl rfl rfl
    refine G_iconst hX d_Mo_writeWindow_50 ?_
    refine G_iadd_z hX d_Mo_writeWindow_51 ?_
    refine G_iload_n hX 3 rfl rfl d_Mo_writeWindow_52 ?_
    refine G_if_eq_z hX (tgt := 60) d_Mo_writeWindow_53 rfl (by omega) (fun c60 => by exfalso; omega) (fun c61 => ?_)
    refine G_iconst hX d_Mo_writeWindow_56 ?_
    refine G_goto hX (tgt := 61) d_Mo_writeWindow_57 rfl ?_
    refine G_iadd_z hX d_Mo_writeWindow_61 ?_
    refine G_istore hX (lv' := [(4, .int (zI (((wid n) + 1) + 4))), (0, .ref (eA E 61)), (1, .int (zI n)), (2, .int (zI bg)), (3, .int (zI 1))]) (by decide) rfl d_Mo_writeWindow_62 ?_
    refine G_iconst hX d_Mo_writeWindow_64 ?_
    refine G_istore hX (lv' := [(5, .int (zI 0)), (4, .int (zI (((wid n) + 1) + 4))), (0, .ref (eA E 61)), (1, .int (zI n)), (2, .int (zI bg)), (3, .int (zI 1))]) (by decide) rfl d_Mo_writeWindow_65 ?_
    refine G_iload hX 0 rfl d_Mo_writeWindow_67 ?_
    refine G_iconst hX d_Mo_writeWindow_69 ?_
    refine G_icmp_ge_z hX (tgt := 102) d_Mo_writeWindow_70 rfl (by omega) (fun c62 => by exfalso; omega) (fun c63 => ?_)
    refine G_iload hX 1 rfl d_Mo_writeWindow_73 ?_
    refine G_aload_n hX 2 rfl rfl d_Mo_writeWindow_75 ?_
    have h64 : F47 23 = .ref (eA E 76) := (k52 23 (by decide)).trans ((k40 23 (by decide)).trans ((k25 23 (by decide)).trans (hmk 23 76 (by decide))))
    refine M_get hX fg_Mo_124 d_Mo_writeWindow_76 h50 (by decide) h64 ?_
    refine G_iload hX 0 rfl d_Mo_writeWindow_79 ?_
    have h65 : f44 76 = iz E 3 ps := (k55 76 (by decide)).trans ((k43 76 (by decide)).trans ((k28 76 (by decide)).trans hc76))
    refine F_iald hX d_Mo_writeWindow_81 76 (by decide) h65 (by omega) ?_
    refine G_top (show zI (ps 0) = zI ((D.length : Nat) : Int) from congrArg zI hpr.1.1) ?_
    refine F_callS hX (st := [.int (zI (((wid n) + 1) + 4))]) (c_Mo_widthOf E f44 ((D.length : Nat) : Int) (by omega)) cm_Mo_widthOf sm_Mo_widthOf ml_Mo_295 d_Mo_writeWindow_82 rfl rfl (Nat.le_of_ble_eq_true rfl) (by decide) ?_
    rintro _ f66 ⟨rfl, e69⟩
    obtain rfl := e69.symm
    refine G_cast (st' := [.int (zI (wid ((D.length : Nat) : Int))), .int (zI (((wid n) + 1) + 4))]) ?_ rfl rfl rfl rfl
    refine G_iadd_z hX d_Mo_writeWindow_85 ?_
    refine G_aload_n hX 2 rfl rfl d_Mo_writeWindow_86 ?_
    refine M_get hX fg_Mo_124 d_Mo_writeWindow_87 h50 (by decide) h64 ?_
    refine G_iload hX 0 rfl d_Mo_writeWindow_90 ?_
    refine F_iald hX d_Mo_writeWindow_92 76 (by decide) h65 (by omega) ?_
    refine G_top (show zI (ps 0) = zI ((D.length : Nat) : Int) from congrArg zI hpr.1.1) ?_
    refine G_iadd_z hX d_Mo_writeWindow_93 ?_
    refine G_istore hX (lv' := [(4, .int (zI (((((wid n) + 1) + 4) + (wid ((D.length : Nat) : Int))) + ((D.length : Nat) : Int)))), (5, .int (zI 0)), (0, .ref (eA E 61)), (1, .int (zI n)), (2, .int (zI bg)), (3, .int (zI 1))]) (by decide) rfl d_Mo_writeWindow_94 ?_
    refine G_iinc_z hX (lv' := [(5, .int (zI (0 + 1))), (4, .int (zI (((((wid n) + 1) + 4) + (wid ((D.length : Nat) : Int))) + ((D.length : Nat) : Int)))), (0, .ref (eA E 61)), (1, .int (zI n)), (2, .int (zI bg)), (3, .int (zI 1))]) 1 rfl (by decide) rfl d_Mo_writeWindow_96 ?_
    refine G_goto hX (tgt := 67) d_Mo_writeWindow_99 rfl ?_
    refine G_iload hX 0 rfl d_Mo_writeWindow_67 ?_
    refine G_iconst hX d_Mo_writeWindow_69 ?_
    refine G_icmp_ge_z hX (tgt := 102) d_Mo_writeWindow_70 rfl (by omega) (fun c70 => by exfalso; omega) (fun c71 => ?_)
    refine G_iload hX 1 rfl d_Mo_writeWindow_73 ?_
    refine G_aload_n hX 2 rfl rfl d_Mo_writeWindow_75 ?_
    refine M_get hX fg_Mo_124 d_Mo_writeWindow_76 h50 (by decide) h64 ?_
    refine G_iload hX 0 rfl d_Mo_writeWindow_79 ?_
    refine F_iald hX d_Mo_writeWindow_81 76 (by decide) h65 (by omega) ?_
    refine G_top (show zI (ps (0 + 1)) = zI ((C.length : Nat) : Int) from congrArg zI hpr.2.1.1) ?_
    refine F_callS hX (st := [.int (zI (((((wid n) + 1) + 4) + (wid ((D.length : Nat) : Int))) + ((D.length : Nat) : Int)))]) (c_Mo_widthOf E f44 ((C.length : Nat) : Int) (by omega)) cm_Mo_widthOf sm_Mo_widthOf ml_Mo_295 d_Mo_writeWindow_82 rfl rfl (Nat.le_of_ble_eq_true rfl) (by decide) ?_
    rintro _ f72 ⟨rfl, e75⟩
    obtain rfl := e75.symm
    refine G_cast (st' := [.int (zI (wid ((C.length : Nat) : Int))), .int (zI (((((wid n) + 1) + 4) + (wid ((D.length : Nat) : Int))) + ((D.length : Nat) : Int)))]) ?_ rfl rfl rfl rfl
    refine G_iadd_z hX d_Mo_writeWindow_85 ?_
    refine G_aload_n hX 2 rfl rfl d_Mo_writeWindow_86 ?_
    refine M_get hX fg_Mo_124 d_Mo_writeWindow_87 h50 (by decide) h64 ?_
    refine G_iload hX 0 rfl d_Mo_writeWindow_90 ?_
    refine F_iald hX d_Mo_writeWindow_92 76 (by decide) h65 (by omega) ?_
    refine G_top (show zI (ps (0 + 1)) = zI ((C.length : Nat) : Int) from congrArg zI hpr.2.1.1) ?_
    refine G_iadd_z hX d_Mo_writeWindow_93 ?_
    refine G_istore hX (lv' := [(4, .int (zI (((((((wid n) + 1) + 4) + (wid ((D.length : Nat) : Int))) + ((D.length : Nat) : Int)) + (wid ((C.length : Nat) : Int))) + ((C.length : Nat) : Int)))), (5, .int (zI (0 + 1))), (0, .ref (eA E 61)), (1, .int (zI n)), (2, .int (zI bg)), (3, .int (zI 1))]) (by decide) rfl d_Mo_writeWindow_94 ?_
    refine G_iinc_z hX (lv' := [(5, .int (zI ((0 + 1) + 1))), (4, .int (zI (((((((wid n) + 1) + 4) + (wid ((D.length : Nat) : Int))) + ((D.length : Nat) : Int)) + (wid ((C.length : Nat) : Int))) + ((C.length : Nat) : Int)))), (0, .ref (eA E 61)), (1, .int (zI n)), (2, .int (zI bg)), (3, .int (zI 1))]) 1 rfl (by decide) rfl d_Mo_writeWindow_96 ?_
    refine G_goto hX (tgt := 67) d_Mo_writeWindow_99 rfl ?_
    refine G_iload hX 0 rfl d_Mo_writeWindow_67 ?_
    refine G_iconst hX d_Mo_writeWindow_69 ?_
    refine G_icmp_ge_z hX (tgt := 102) d_Mo_writeWindow_70 rfl (by omega) (fun c76 => by exfalso; omega) (fun c77 => ?_)
    refine G_iload hX 1 rfl d_Mo_writeWindow_73 ?_
    refine G_aload_n hX 2 rfl rfl d_Mo_writeWindow_75 ?_
    refine M_get hX fg_Mo_124 d_Mo_writeWindow_76 h50 (by decide) h64 ?_
    refine G_iload hX 0 rfl d_Mo_writeWindow_79 ?_
    refine F_iald hX d_Mo_writeWindow_81 76 (by decide) h65 (by omega) ?_
    refine G_top (show zI (ps ((0 + 1) + 1)) = zI ((A.length : Nat) : Int) from congrArg zI hpr.2.2.1) ?_
    refine F_callS hX (st := [.int (zI (((((((wid n) + 1) + 4) + (wid ((D.length : Nat) : Int))) + ((D.length : Nat) : Int)) + (wid ((C.length : Nat) : Int))) + ((C.length : Nat) : Int)))]) (c_Mo_widthOf E f44 ((A.length : Nat) : Int) (by omega)) cm_Mo_widthOf sm_Mo_widthOf ml_Mo_295 d_Mo_writeWindow_82 rfl rfl (Nat.le_of_ble_eq_true rfl) (by decide) ?_
    rintro _ f78 ⟨rfl, e81⟩
    obtain rfl := e81.symm
    refine G_cast (st' := [.int (zI (wid ((A.length : Nat) : Int))), .int (zI (((((((wid n) + 1) + 4) + (wid ((D.length : Nat) : Int))) + ((D.length : Nat) : Int)) + (wid ((C.length : Nat) : Int))) + ((C.length : Nat) : Int)))]) ?_ rfl rfl rfl rfl
    refine G_iadd_z hX d_Mo_writeWindow_85 ?_
    refine G_aload_n hX 2 rfl rfl d_Mo_writeWindow_86 ?_
    refine M_get hX fg_Mo_124 d_Mo_writeWindow_87 h50 (by decide) h64 ?_
    refine G_iload hX 0 rfl d_Mo_writeWindow_90 ?_
    refine F_iald hX d_Mo_writeWindow_92 76 (by decide) h65 (by omega) ?_
    refine G_top (show zI (ps ((0 + 1) + 1)) = zI ((A.length : Nat) : Int) from congrArg zI hpr.2.2.1) ?_
    refine G_iadd_z hX d_Mo_writeWindow_93 ?_
    refine G_istore hX (lv' := [(4, .int (zI (((((((((wid n) + 1) + 4) + (wid ((D.length : Nat) : Int))) + ((D.length : Nat) : Int)) + (wid ((C.length : Nat) : Int))) + ((C.length : Nat) : Int)) + (wid ((A.length : Nat) : Int))) + ((A.length : Nat) : Int)))), (5, .int (zI ((0 + 1) + 1))), (0, .ref (eA E 61)), (1, .int (zI n)), (2, .int (zI bg)), (3, .int (zI 1))]) (by decide) rfl d_Mo_writeWindow_94 ?_
    refine G_iinc_z hX (lv' := [(5, .int (zI (((0 + 1) + 1) + 1))), (4, .int (zI (((((((((wid n) + 1) + 4) + (wid ((D.length : Nat) : Int))) + ((D.length : Nat) : Int)) + (wid ((C.length : Nat) : Int))) + ((C.length : Nat) : Int)) + (wid ((A.length : Nat) : Int))) + ((A.length : Nat) : Int)))), (0, .ref (eA E 61)), (1, .int (zI n)), (2, .int (zI bg)), (3, .int (zI 1))]) 1 rfl (by decide) rfl d_Mo_writeWindow_96 ?_
    refine G_goto hX (tgt := 67) d_Mo_writeWindow_99 rfl ?_
    refine G_iload hX 0 rfl d_Mo_writeWindow_67 ?_
    refine G_iconst hX d_Mo_writeWindow_69 ?_
    refine G_icmp_ge_z hX (tgt := 102) d_Mo_writeWindow_70 rfl (by omega) (fun c82 => ?_) (fun c83 => by exfalso; omega)
    refine G_aload_n hX 2 rfl rfl d_Mo_writeWindow_102 ?_
    refine G_iload hX 1 rfl d_Mo_writeWindow_103 ?_
    have hhl := hdL_l (n := n) (ck := 1) (v := adV gF bg n) (cd := (D.length : Int)) (cc := (C.length : Int)) (ca := (A.length : Int))
    rw [if_neg (by decide)] at hhl
    refine G_top (show zI (((((((((wid n) + 1) + 4) + (wid ((D.length : Nat) : Int))) + ((D.length : Nat) : Int)) + (wid ((C.length : Nat) : Int))) + ((C.length : Nat) : Int)) + (wid ((A.length : Nat) : Int))) + ((A.length : Nat) : Int)) = zI ((((hdL n 1 (adV gF bg n) (D.length : Int) (C.length : Int) (A.length : Int))).length : Int) + (D.length : Int) + (C.length : Int) + (A.length : Int)) from congrArg zI (by omega)) ?_
    have n84 := nbL_b ((((hdL n 1 (adV gF bg n) (D.length : Int) (C.length : Int) (A.length : Int))).length : Int) + (D.length : Int) + (C.length : Int) + (A.length : Int))
    refine F_callV hX (st := []) (c_Mo_writeNumber E f44 F47 ((((hdL n 1 (adV gF bg n) (D.length : Int) (C.length : Int) (A.length : Int))).length : Int) + (D.length : Int) + (C.length : Int) + (A.length : Int)) nd'_48 dr'_49 (((L ++ [1 + 4]) ++ nbL s) ++ nbL 0) h50 (moK_fr hmk (FrF.tr (FrF.tr (FrF.tr (FrF.rf (S := [21])) k25 (by decide)) k40 (by decide)) k52 (by decide)) (by decide)) h51 h53 p54 (by first | omega | (simp only [List.length_append, List.length_cons, List.length_nil]; omega)) (by omega)) cm_Mo_writeNumber im_Mo_writeNumber se_Mo_writeNumber rfl ml_Mo_328 d_Mo_writeWindow_105 (by decide) h50 rfl rfl (Nat.le_of_ble_eq_true rfl) (by decide) ?_
    rintro _ f85 ⟨rfl, F88, nd'_89, dr'_90, h91, h92, k93, h94, p95, k96⟩
    refine G_cast (st' := []) ?_ rfl rfl rfl rfl
    refine G_aload_n hX 2 rfl rfl d_Mo_writeWindow_108 ?_
    refine G_iload_n hX 3 rfl rfl d_Mo_writeWindow_109 ?_
    refine F_callV hX (st := []) (c_Mo_writeNumber E f85 F88 n nd'_89 dr'_90 ((((L ++ [1 + 4]) ++ nbL s) ++ nbL 0) ++ nbL ((((hdL n 1 (adV gF bg n) (D.length : Int) (C.length : Int) (A.length : Int))).length : Int) + (D.length : Int) + (C.length : Int) + (A.length : Int))) h91 (moK_fr hmk (FrF.tr (FrF.tr (FrF.tr (FrF.tr (FrF.rf (S := [21])) k25 (by decide)) k40 (by decide)) k52 (by decide)) k93 (by decide)) (by decide)) h92 h94 p95 (by first | omega | (simp only [List.length_append, List.length_cons, List.length_nil]; omega)) (by omega)) cm_Mo_writeNumber im_Mo_writeNumber se_Mo_writeNumber rfl ml_Mo_328 d_Mo_writeWindow_110 (by decide) h91 rfl rfl (Nat.le_of_ble_eq_true rfl) (by decide) ?_
    rintro _ f97 ⟨rfl, F100, nd'_101, dr'_102, h103, h104, k105, h106, p107, k108⟩
    refine G_cast (st' := []) ?_ rfl rfl rfl rfl
    refine G_aload_n hX 2 rfl rfl d_Mo_writeWindow_113 ?_
    refine G_iconst hX d_Mo_writeWindow_114 ?_
    refine F_callV hX (st := []) (c_Mo_write E f97 F100 0 nd'_101 dr'_102 (((((L ++ [1 + 4]) ++ nbL s) ++ nbL 0) ++ nbL ((((hdL n 1 (adV gF bg n) (D.length : Int) (C.length : Int) (A.length : Int))).length : Int) + (D.length : Int) + (C.length : Int) + (A.length : Int))) ++ nbL n) h103 (moK_fr hmk (FrF.tr (FrF.tr (FrF.tr (FrF.tr (FrF.tr (FrF.rf (S := [21])) k25 (by decide)) k40 (by decide)) k52 (by decide)) k93 (by decide)) k105 (by decide)) (by decide)) h104 h106 p107 (by first | omega | (simp only [List.length_append, List.length_cons, List.length_nil]; omega))) cm_Mo_write im_Mo_write se_Mo_write rfl ml_Mo_298 d_Mo_writeWindow_115 (by decide) h103 rfl rfl (Nat.le_of_ble_eq_true rfl) (by decide) ?_
    rintro _ f109 ⟨rfl, F112, nd'_113, dr'_114, h115, h116, k117, h118, p119, k120⟩
    refine G_cast (st' := []) ?_ rfl rfl rfl rfl
    refine G_iconst hX d_Mo_writeWindow_118 ?_
    refine G_istore hX (lv' := [(5, .int (zI 0)), (4, .int (zI (((((((((wid n) + 1) + 4) + (wid ((D.length : Nat) : Int))) + ((D.length : Nat) : Int)) + (wid ((C.length : Nat) : Int))) + ((C.length : Nat) : Int)) + (wid ((A.length : Nat) : Int))) + ((A.length : Nat) : Int)))), (0, .ref (eA E 61)), (1, .int (zI n)), (2, .int (zI bg)), (3, .int (zI 1))]) (by decide) rfl d_Mo_writeWindow_119 ?_
    refine G_iload hX 0 rfl d_Mo_writeWindow_121 ?_
    refine G_iconst hX d_Mo_writeWindow_123 ?_
    refine G_icmp_ge_z hX (tgt := 144) d_Mo_writeWindow_124 rfl (by omega) (fun c121 => by exfalso; omega) (fun c122 => ?_)
    refine G_aload_n hX 2 rfl rfl d_Mo_writeWindow_127 ?_
    refine G_aload_n hX 2 rfl rfl d_Mo_writeWindow_128 ?_
    have h123 : F112 23 = .ref (eA E 76) := (k117 23 (by decide)).trans ((k105 23 (by decide)).trans ((k93 23 (by decide)).trans h64))
    refine M_get hX fg_Mo_124 d_Mo_writeWindow_129 h115 (by decide) h123 ?_
    refine G_iload hX 0 rfl d_Mo_writeWindow_132 ?_
    have h124 : f109 76 = iz E 3 ps := (k120 76 (by decide)).trans ((k108 76 (by decide)).trans ((k96 76 (by decide)).trans h65))
    refine F_iald hX d_Mo_writeWindow_134 76 (by decide) h124 (by omega) ?_
    refine G_top (show zI (ps 0) = zI ((D.length : Nat) : Int) from congrArg zI hpr.1.1) ?_
    refine F_callV hX (st := []) (c_Mo_writeNumber E f109 F112 ((D.length : Nat) : Int) nd'_113 dr'_114 ((((((L ++ [1 + 4]) ++ nbL s) ++ nbL 0) ++ nbL ((((hdL n 1 (adV gF bg n) (D.length : Int) (C.length : Int) (A.length : Int))).length : Int) + (D.length : Int) + (C.length : Int) + (A.length : Int))) ++ nbL n) ++ [0]) h115 (moK_fr hmk (FrF.tr (FrF.tr (FrF.tr (FrF.tr (FrF.tr (FrF.tr (FrF.rf (S := [21])) k25 (by decide)) k40 (by decide)) k52 (by decide)) k93 (by decide)) k105 (by decide)) k117 (by decide)) (by decide)) h116 h118 p119 (by first | omega | (simp only [List.length_append, List.length_cons, List.length_nil]; omega)) (by omega)) cm_Mo_writeNumber im_Mo_writeNumber se_Mo_writeNumber rfl ml_Mo_328 d_Mo_writeWindow_135 (by decide) h115 rfl rfl (Nat.le_of_ble_eq_true rfl) (by decide) ?_
    rintro _ f125 ⟨rfl, F128, nd'_129, dr'_130, h131, h132, k133, h134, p135, k136⟩
    refine G_cast (st' := []) ?_ rfl rfl rfl rfl
    refine G_iinc_z hX (lv' := [(5, .int (zI (0 + 1))), (4, .int (zI (((((((((wid n) + 1) + 4) + (wid ((D.length : Nat) : Int))) + ((D.length : Nat) : Int)) + (wid ((C.length : Nat) : Int))) + ((C.length : Nat) : Int)) + (wid ((A.length : Nat) : Int))) + ((A.length : Nat) : Int)))), (0, .ref (eA E 61)), (1, .int (zI n)), (2, .int (zI bg)), (3, .int (zI 1))]) 0 rfl (by decide) rfl d_Mo_writeWindow_138 ?_
    refine G_goto hX (tgt := 121) d_Mo_writeWindow_141 rfl ?_
    refine G_iload hX 0 rfl d_Mo_writeWindow_121 ?_
    refine G_iconst hX d_Mo_writeWindow_123 ?_
    refine G_icmp_ge_z hX (tgt := 144) d_Mo_writeWindow_124 rfl (by omega) (fun c137 => by exfalso; omega) (fun c138 => ?_)
    refine G_aload_n hX 2 rfl rfl d_Mo_writeWindow_127 ?_
    refine G_aload_n hX 2 rfl rfl d_Mo_writeWindow_128 ?_
    have h139 : F128 23 = .ref (eA E 76) := (k133 23 (by decide)).trans h123
    refine M_get hX fg_Mo_124 d_Mo_writeWindow_129 h131 (by decide) h139 ?_
    refine G_iload hX 0 rfl d_Mo_writeWindow_132 ?_
    have h140 : f125 76 = iz E 3 ps := (k136 76 (by decide)).trans h124
    refine F_iald hX d_Mo_writeWindow_134 76 (by decide) h140 (by omega) ?_
    refine G_top (show zI (ps (0 + 1)) = zI ((C.length : Nat) : Int) from congrArg zI hpr.2.1.1) ?_
    refine F_callV hX (st := []) (c_Mo_writeNumber E f125 F128 ((C.length : Nat) : Int) nd'_129 dr'_130 (((((((L ++ [1 + 4]) ++ nbL s) ++ nbL 0) ++ nbL ((((hdL n 1 (adV gF bg n) (D.length : Int) (C.length : Int) (A.length : Int))).length : Int) + (D.length : Int) + (C.length : Int) + (A.length : Int))) ++ nbL n) ++ [0]) ++ nbL ((D.length : Nat) : Int)) h131 (moK_fr hmk (FrF.tr (FrF.tr (FrF.tr (FrF.tr (FrF.tr (FrF.tr (FrF.tr (FrF.rf (S := [21])) k25 (by decide)) k40 (by decide)) k52 (by decide)) k93 (by decide)) k105 (by decide)) k117 (by decide)) k133 (by decide)) (by decide)) h132 h134 p135 (by first | omega | (simp only [List.length_append, List.length_cons, List.length_nil]; omega)) (by omega)) cm_Mo_writeNumber im_Mo_writeNumber se_Mo_writeNumber rfl ml_Mo_328 d_Mo_writeWindow_135 (by decide) h131 rfl rfl (Nat.le_of_ble_eq_true rfl) (by decide) ?_
    rintro _ f141 ⟨rfl, F144, nd'_145, dr'_146, h147, h148, k149, h150, p151, k152⟩
    refine G_cast (st' := []) ?_ rfl rfl rfl rfl
    refine G_iinc_z hX (lv' := [(5, .int (zI ((0 + 1) + 1))), (4, .int (zI (((((((((wid n) + 1) + 4) + (wid ((D.length : Nat) : Int))) + ((D.length : Nat) : Int)) + (wid ((C.length : Nat) : Int))) + ((C.length : Nat) : Int)) + (wid ((A.length : Nat) : Int))) + ((A.length : Nat) : Int)))), (0, .ref (eA E 61)), (1, .int (zI n)), (2, .int (zI bg)), (3, .int (zI 1))]) 0 rfl (by decide) rfl d_Mo_writeWindow_138 ?_
    refine G_goto hX (tgt := 121) d_Mo_writeWindow_141 rfl ?_
    refine G_iload hX 0 rfl d_Mo_writeWindow_121 ?_
    refine G_iconst hX d_Mo_writeWindow_123 ?_
    refine G_icmp_ge_z hX (tgt := 144) d_Mo_writeWindow_124 rfl (by omega) (fun c153 => by exfalso; omega) (fun c154 => ?_)
    refine G_aload_n hX 2 rfl rfl d_Mo_writeWindow_127 ?_
    refine G_aload_n hX 2 rfl rfl d_Mo_writeWindow_128 ?_
    have h155 : F144 23 = .ref (eA E 76) := (k149 23 (by decide)).trans h139
    refine M_get hX fg_Mo_124 d_Mo_writeWindow_129 h147 (by decide) h155 ?_
    refine G_iload hX 0 rfl d_Mo_writeWindow_132 ?_
    have h156 : f141 76 = iz E 3 ps := (k152 76 (by decide)).trans h140
    refine F_iald hX d_Mo_writeWindow_134 76 (by decide) h156 (by omega) ?_
    refine G_top (show zI (ps ((0 + 1) + 1)) = zI ((A.length : Nat) : Int) from congrArg zI hpr.2.2.1) ?_
    refine F_callV hX (st := []) (c_Mo_writeNumber E f141 F144 ((A.length : Nat) : Int) nd'_145 dr'_146 ((((((((L ++ [1 + 4]) ++ nbL s) ++ nbL 0) ++ nbL ((((hdL n 1 (adV gF bg n) (D.length : Int) (C.length : Int) (A.length : Int))).length : Int) + (D.length : Int) + (C.length : Int) + (A.length : Int))) ++ nbL n) ++ [0]) ++ nbL ((D.length : Nat) : Int)) ++ nbL ((C.length : Nat) : Int)) h147 (moK_fr hmk (FrF.tr (FrF.tr (FrF.tr (FrF.tr (FrF.tr (FrF.tr (FrF.tr (FrF.tr (FrF.rf (S := [21])) k25 (by decide)) k40 (by decide)) k52 (by decide)) k93 (by decide)) k105 (by decide)) k117 (by decide)) k133 (by decide)) k149 (by decide)) (by decide)) h148 h150 p151 (by first | omega | (simp only [List.length_append, List.length_cons, List.length_nil]; omega)) (by omega)) cm_Mo_writeNumber im_Mo_writeNumber se_Mo_writeNumber rfl ml_Mo_328 d_Mo_writeWindow_135 (by decide) h147 rfl rfl (Nat.le_of_ble_eq_true rfl) (by decide) ?_
    rintro _ f157 ⟨rfl, F160, nd'_161, dr'_162, h163, h164, k165, h166, p167, k168⟩
    refine G_cast (st' := []) ?_ rfl rfl rfl rfl
    refine G_iinc_z hX (lv' := [(5, .int (zI (((0 + 1) + 1) + 1))), (4, .int (zI (((((((((wid n) + 1) + 4) + (wid ((D.length : Nat) : Int))) + ((D.length : Nat) : Int)) + (wid ((C.length : Nat) : Int))) + ((C.length : Nat) : Int)) + (wid ((A.length : Nat) : Int))) + ((A.length : Nat) : Int)))), (0, .ref (eA E 61)), (1, .int (zI n)), (2, .int (zI bg)), (3, .int (zI 1))]) 0 rfl (by decide) rfl d_Mo_writeWindow_138 ?_
    refine G_goto hX (tgt := 121) d_Mo_writeWindow_141 rfl ?_
    refine G_iload hX 0 rfl d_Mo_writeWindow_121 ?_
    refine G_iconst hX d_Mo_writeWindow_123 ?_
    refine G_icmp_ge_z hX (tgt := 144) d_Mo_writeWindow_124 rfl (by omega) (fun c169 => ?_) (fun c170 => by exfalso; omega)
    refine G_aload_n hX 2 rfl rfl d_Mo_writeWindow_144 ?_
    refine G_iconst hX d_Mo_writeWindow_145 ?_
    refine G_iload_n hX 4 rfl rfl d_Mo_writeWindow_146 ?_
    refine G_iload_n hX 3 rfl rfl d_Mo_writeWindow_147 ?_
    have h171 : f157 63 = iz E 1600 b := (k168 63 (by decide)).trans ((k152 63 (by decide)).trans ((k136 63 (by decide)).trans ((k120 63 (by decide)).trans ((k108 63 (by decide)).trans ((k96 63 (by decide)).trans ((k55 63 (by decide)).trans ((k43 63 (by decide)).trans ((k28 63 (by decide)).trans hc63))))))))
    refine F_callV hX (st := []) (c_Mo_checkNew E f157 F160 bg n b gF bg h163 (moK_fr hmk (FrF.tr (FrF.tr (FrF.tr (FrF.tr (FrF.tr (FrF.tr (FrF.tr (FrF.tr (FrF.tr (FrF.rf (S := [21])) k25 (by decide)) k40 (by decide)) k52 (by decide)) k93 (by decide)) k105 (by decide)) k117 (by decide)) k133 (by decide)) k149 (by decide)) k165 (by decide)) (by decide)) h171 hG (fun i h1 h2 => by rw [Int.add_assoc]; exact hag (bg + i) (by omega) (by omega)) (by omega)) cm_Mo_checkOf im_Mo_checkOf se_Mo_checkOf rfl ml_Mo_331 d_Mo_writeWindow_148 (by decide) h163 rfl rfl (Nat.le_of_ble_eq_true rfl) (by decide) ?_
    rintro _ f172 ⟨rfl, e175⟩
    obtain rfl := e175.symm
    refine G_cast (st' := [.long (zL (adV gF bg n))]) ?_ rfl rfl rfl rfl
    refine G_lstore hX (lv' := [(5, .long (zL (adV gF bg n))), (4, .int (zI (((((((((wid n) + 1) + 4) + (wid ((D.length : Nat) : Int))) + ((D.length : Nat) : Int)) + (wid ((C.length : Nat) : Int))) + ((C.length : Nat) : Int)) + (wid ((A.length : Nat) : Int))) + ((A.length : Nat) : Int)))), (0, .ref (eA E 61)), (1, .int (zI n)), (2, .int (zI bg)), (3, .int (zI 1))]) (by decide) rfl d_Mo_writeWindow_151 ?_
    refine G_bipush hX (by decide) d_Mo_writeWindow_153 ?_
    refine G_istore hX (lv' := [(7, .int (zI 24)), (5, .long (zL (adV gF bg n))), (4, .int (zI (((((((((wid n) + 1) + 4) + (wid ((D.length : Nat) : Int))) + ((D.length : Nat) : Int)) + (wid ((C.length : Nat) : Int))) + ((C.length : Nat) : Int)) + (wid ((A.length : Nat) : Int))) + ((A.length : Nat) : Int)))), (0, .ref (eA E 61)), (1, .int (zI n)), (2, .int (zI bg)), (3, .int (zI 1))]) (by decide) rfl d_Mo_writeWindow_155 ?_
    refine G_iload hX 0 rfl d_Mo_writeWindow_157 ?_
    refine G_if_lt_z hX (tgt := 186) d_Mo_writeWindow_159 rfl (by omega) (fun c176 => by exfalso; omega) (fun c177 => ?_)
    refine G_iload_n hX 6 rfl rfl d_Mo_writeWindow_162 ?_
    refine G_if_eq_z hX (tgt := 186) d_Mo_writeWindow_163 rfl (by omega) (fun c178 => by exfalso; omega) (fun c179 => ?_)
    refine G_aload_n hX 3 rfl rfl d_Mo_writeWindow_166 ?_
    refine G_lload hX 1 rfl d_Mo_writeWindow_167 ?_
    refine G_iload hX 0 rfl d_Mo_writeWindow_169 ?_
    refine G_lshr hX (v := (zL (adV gF bg n)) >>> ((zI 24).toInt64 &&& 63)) rfl d_Mo_writeWindow_171 ?_
    refine G_ldc2 hX kn_Mo_164 d_Mo_writeWindow_172 ?_
    refine G_topl (show (255 : Int64) = zL (255) from by decide) ?_
    refine G_land hX d_Mo_writeWindow_175 ?_
    refine G_l2i hX (v := ((((zL (adV gF bg n)) >>> ((zI 24).toInt64 &&& 63)) &&& (zL 255))).toInt32) rfl d_Mo_writeWindow_176 ?_
    refine G_top (show (((((zL (adV gF bg n)) >>> ((zI 24).toInt64 &&& 63)) &&& (zL 255))).toInt32) = zI (adV gF bg n / 16777216 % 256) from (ck_by 24 hva (by decide))) ?_
    refine F_callV hX (st := []) (c_Mo_write E f157 F160 (adV gF bg n / 16777216 % 256) nd'_161 dr'_162 (((((((((L ++ [1 + 4]) ++ nbL s) ++ nbL 0) ++ nbL ((((hdL n 1 (adV gF bg n) (D.length : Int) (C.length : Int) (A.length : Int))).length : Int) + (D.length : Int) + (C.length : Int) + (A.length : Int))) ++ nbL n) ++ [0]) ++ nbL ((D.length : Nat) : Int)) ++ nbL ((C.length : Nat) : Int)) ++ nbL ((A.length : Nat) : Int)) h163 (moK_fr hmk (FrF.tr (FrF.tr (FrF.tr (FrF.tr (FrF.tr (FrF.tr (FrF.tr (FrF.tr (FrF.tr (FrF.rf (S := [21])) k25 (by decide)) k40 (by decide)) k52 (by decide)) k93 (by decide)) k105 (by decide)) k117 (by decide)) k133 (by decide)) k149 (by decide)) k165 (by decide)) (by decide)) h164 h166 p167 (by first | omega | (simp only [List.length_append, List.length_cons, List.length_nil]; omega))) cm_Mo_write im_Mo_write se_Mo_write rfl ml_Mo_298 d_Mo_writeWindow_177 (by decide) h163 rfl rfl (Nat.le_of_ble_eq_true rfl) (by decide) ?_
    rintro _ f180 ⟨rfl, F183, nd'_184, dr'_185, h186, h187, k188, h189, p190, k191⟩
    refine G_cast (st' := []) ?_ rfl rfl rfl rfl
    refine G_iinc_z hX (lv' := [(7, .int (zI (24 + (-8)))), (5, .long (zL (adV gF bg n))), (4, .int (zI (((((((((wid n) + 1) + 4) + (wid ((D.length : Nat) : Int))) + ((D.length : Nat) : Int)) + (wid ((C.length : Nat) : Int))) + ((C.length : Nat) : Int)) + (wid ((A.length : Nat) : Int))) + ((A.length : Nat) : Int)))), (0, .ref (eA E 61)), (1, .int (zI n)), (2, .int (zI bg)), (3, .int (zI 1))]) 0 rfl (by decide) rfl d_Mo_writeWindow_180 ?_
    refine G_goto hX (tgt := 157) d_Mo_writeWindow_183 rfl ?_
    refine G_iload hX 0 rfl d_Mo_writeWindow_157 ?_
    refine G_if_lt_z hX (tgt := 186) d_Mo_writeWindow_159 rfl (by omega) (fun c192 => by exfalso; omega) (fun c193 => ?_)
    refine G_iload_n hX 6 rfl rfl d_Mo_writeWindow_162 ?_
    refine G_if_eq_z hX (tgt := 186) d_Mo_writeWindow_163 rfl (by omega) (fun c194 => by exfalso; omega) (fun c195 => ?_)
    refine G_aload_n hX 3 rfl rfl d_Mo_writeWindow_166 ?_
    refine G_lload hX 1 rfl d_Mo_writeWindow_167 ?_
    refine G_iload hX 0 rfl d_Mo_writeWindow_169 ?_
    refine G_lshr hX (v := (zL (adV gF bg n)) >>> ((zI (24 + (-8))).toInt64 &&& 63)) rfl d_Mo_writeWindow_171 ?_
    refine G_ldc2 hX kn_Mo_164 d_Mo_writeWindow_172 ?_
    refine G_topl (show (255 : Int64) = zL (255) from by decide) ?_
    refine G_land hX d_Mo_writeWindow_175 ?_
    refine G_l2i hX (v := ((((zL (adV gF bg n)) >>> ((zI (24 + (-8))).toInt64 &&& 63)) &&& (zL 255))).toInt32) rfl d_Mo_writeWindow_176 ?_
    refine G_top (show (((((zL (adV gF bg n)) >>> ((zI (24 + (-8))).toInt64 &&& 63)) &&& (zL 255))).toInt32) = zI (adV gF bg n / 65536 % 256) from (ck_by 16 hva (by decide))) ?_
    refine F_callV hX (st := []) (c_Mo_write E f180 F183 (adV gF bg n / 65536 % 256) nd'_184 dr'_185 ((((((((((L ++ [1 + 4]) ++ nbL s) ++ nbL 0) ++ nbL ((((hdL n 1 (adV gF bg n) (D.length : Int) (C.length : Int) (A.length : Int))).length : Int) + (D.length : Int) + (C.length : Int) + (A.length : Int))) ++ nbL n) ++ [0]) ++ nbL ((D.length : Nat) : Int)) ++ nbL ((C.length : Nat) : Int)) ++ nbL ((A.length : Nat) : Int)) ++ [adV gF bg n / 16777216 % 256]) h186 (moK_fr hmk (FrF.tr (FrF.tr (FrF.tr (FrF.tr (FrF.tr (FrF.tr (FrF.tr (FrF.tr (FrF.tr (FrF.tr (FrF.rf (S := [21])) k25 (by decide)) k40 (by decide)) k52 (by decide)) k93 (by decide)) k105 (by decide)) k117 (by decide)) k133 (by decide)) k149 (by decide)) k165 (by decide)) k188 (by decide)) (by decide)) h187 h189 p190 (by first | omega | (simp only [List.length_append, List.length_cons, List.length_nil]; omega))) cm_Mo_write im_Mo_write se_Mo_write rfl ml_Mo_298 d_Mo_writeWindow_177 (by decide) h186 rfl rfl (Nat.le_of_ble_eq_true rfl) (by decide) ?_
    rintro _ f196 ⟨rfl, F199, nd'_200, dr'_201, h202, h203, k204, h205, p206, k207⟩
    refine G_cast (st' := []) ?_ rfl rfl rfl rfl
    refine G_iinc_z hX (lv' := [(7, .int (zI ((24 + (-8)) + (-8)))), (5, .long (zL (adV gF bg n))), (4, .int (zI (((((((((wid n) + 1) + 4) + (wid ((D.length : Nat) : Int))) + ((D.length : Nat) : Int)) + (wid ((C.length : Nat) : Int))) + ((C.length : Nat) : Int)) + (wid ((A.length : Nat) : Int))) + ((A.length : Nat) : Int)))), (0, .ref (eA E 61)), (1, .int (zI n)), (2, .int (zI bg)), (3, .int (zI 1))]) 0 rfl (by decide) rfl d_Mo_writeWindow_180 ?_
    refine G_goto hX (tgt := 157) d_Mo_writeWindow_183 rfl ?_
    refine G_iload hX 0 rfl d_Mo_writeWindow_157 ?_
    refine G_if_lt_z hX (tgt := 186) d_Mo_writeWindow_159 rfl (by omega) (fun c208 => by exfalso; omega) (fun c209 => ?_)
    refine G_iload_n hX 6 rfl rfl d_Mo_writeWindow_162 ?_
    refine G_if_eq_z hX (tgt := 186) d_Mo_writeWindow_163 rfl (by omega) (fun c210 => by exfalso; omega) (fun c211 => ?_)
    refine G_aload_n hX 3 rfl rfl d_Mo_writeWindow_166 ?_
    refine G_lload hX 1 rfl d_Mo_writeWindow_167 ?_
    refine G_iload hX 0 rfl d_Mo_writeWindow_169 ?_
    refine G_lshr hX (v := (zL (adV gF bg n)) >>> ((zI ((24 + (-8)) + (-8))).toInt64 &&& 63)) rfl d_Mo_writeWindow_171 ?_
    refine G_ldc2 hX kn_Mo_164 d_Mo_writeWindow_172 ?_
    refine G_topl (show (255 : Int64) = zL (255) from by decide) ?_
    refine G_land hX d_Mo_writeWindow_175 ?_
    refine G_l2i hX (v := ((((zL (adV gF bg n)) >>> ((zI ((24 + (-8)) + (-8))).toInt64 &&& 63)) &&& (zL 255))).toInt32) rfl d_Mo_writeWindow_176 ?_
    refine G_top (show (((((zL (adV gF bg n)) >>> ((zI ((24 + (-8)) + (-8))).toInt64 &&& 63)) &&& (zL 255))).toInt32) = zI (adV gF bg n / 256 % 256) from (ck_by 8 hva (by decide))) ?_
    refine F_callV hX (st := []) (c_Mo_write E f196 F199 (adV gF bg n / 256 % 256) nd'_200 dr'_201 (((((((((((L ++ [1 + 4]) ++ nbL s) ++ nbL 0) ++ nbL ((((hdL n 1 (adV gF bg n) (D.length : Int) (C.length : Int) (A.length : Int))).length : Int) + (D.length : Int) + (C.length : Int) + (A.length : Int))) ++ nbL n) ++ [0]) ++ nbL ((D.length : Nat) : Int)) ++ nbL ((C.length : Nat) : Int)) ++ nbL ((A.length : Nat) : Int)) ++ [adV gF bg n / 16777216 % 256]) ++ [adV gF bg n / 65536 % 256]) h202 (moK_fr hmk (FrF.tr (FrF.tr (FrF.tr (FrF.tr (FrF.tr (FrF.tr (FrF.tr (FrF.tr (FrF.tr (FrF.tr (FrF.tr (FrF.rf (S := [21])) k25 (by decide)) k40 (by decide)) k52 (by decide)) k93 (by decide)) k105 (by decide)) k117 (by decide)) k133 (by decide)) k149 (by decide)) k165 (by decide)) k188 (by decide)) k204 (by decide)) (by decide)) h203 h205 p206 (by first | omega | (simp only [List.length_append, List.length_cons, List.length_nil]; omega))) cm_Mo_write im_Mo_write se_Mo_write rfl ml_Mo_298 d_Mo_writeWindow_177 (by decide) h202 rfl rfl (Nat.le_of_ble_eq_true rfl) (by decide) ?_
    rintro _ f212 ⟨rfl, F215, nd'_216, dr'_217, h218, h219, k220, h221, p222, k223⟩
    refine G_cast (st' := []) ?_ rfl rfl rfl rfl
    refine G_iinc_z hX (lv' := [(7, .int (zI (((24 + (-8)) + (-8)) + (-8)))), (5, .long (zL (adV gF bg n))), (4, .int (zI (((((((((wid n) + 1) + 4) + (wid ((D.length : Nat) : Int))) + ((D.length : Nat) : Int)) + (wid ((C.length : Nat) : Int))) + ((C.length : Nat) : Int)) + (wid ((A.length : Nat) : Int))) + ((A.length : Nat) : Int)))), (0, .ref (eA E 61)), (1, .int (zI n)), (2, .int (zI bg)), (3, .int (zI 1))]) 0 rfl (by decide) rfl d_Mo_writeWindow_180 ?_
    refine G_goto hX (tgt := 157) d_Mo_writeWindow_183 rfl ?_
    refine G_iload hX 0 rfl d_Mo_writeWindow_157 ?_
    refine G_if_lt_z hX (tgt := 186) d_Mo_writeWindow_159 rfl (by omega) (fun c224 => by exfalso; omega) (fun c225 => ?_)
    refine G_iload_n hX 6 rfl rfl d_Mo_writeWindow_162 ?_
    refine G_if_eq_z hX (tgt := 186) d_Mo_writeWindow_163 rfl (by omega) (fun c226 => by exfalso; omega) (fun c227 => ?_)
    refine G_aload_n hX 3 rfl rfl d_Mo_writeWindow_166 ?_
    refine G_lload hX 1 rfl d_Mo_writeWindow_167 ?_
    refine G_iload hX 0 rfl d_Mo_writeWindow_169 ?_
    refine G_lshr hX (v := (zL (adV gF bg n)) >>> ((zI (((24 + (-8)) + (-8)) + (-8))).toInt64 &&& 63)) rfl d_Mo_writeWindow_171 ?_
    refine G_ldc2 hX kn_Mo_164 d_Mo_writeWindow_172 ?_
    refine G_topl (show (255 : Int64) = zL (255) from by decide) ?_
    refine G_land hX d_Mo_writeWindow_175 ?_
    refine G_l2i hX (v := ((((zL (adV gF bg n)) >>> ((zI (((24 + (-8)) + (-8)) + (-8))).toInt64 &&& 63)) &&& (zL 255))).toInt32) rfl d_Mo_writeWindow_176 ?_
    refine G_top (show (((((zL (adV gF bg n)) >>> ((zI (((24 + (-8)) + (-8)) + (-8))).toInt64 &&& 63)) &&& (zL 255))).toInt32) = zI (adV gF bg n % 256) from (ck_by 0 hva (by decide)).trans (congrArg zI (by omega))) ?_
    refine F_callV hX (st := []) (c_Mo_write E f212 F215 (adV gF bg n % 256) nd'_216 dr'_217 ((((((((((((L ++ [1 + 4]) ++ nbL s) ++ nbL 0) ++ nbL ((((hdL n 1 (adV gF bg n) (D.length : Int) (C.length : Int) (A.length : Int))).length : Int) + (D.length : Int) + (C.length : Int) + (A.length : Int))) ++ nbL n) ++ [0]) ++ nbL ((D.length : Nat) : Int)) ++ nbL ((C.length : Nat) : Int)) ++ nbL ((A.length : Nat) : Int)) ++ [adV gF bg n / 16777216 % 256]) ++ [adV gF bg n / 65536 % 256]) ++ [adV gF bg n / 256 % 256]) h218 (moK_fr hmk (FrF.tr (FrF.tr (FrF.tr (FrF.tr (FrF.tr (FrF.tr (FrF.tr (FrF.tr (FrF.tr (FrF.tr (FrF.tr (FrF.tr (FrF.rf (S := [21])) k25 (by decide)) k40 (by decide)) k52 (by decide)) k93 (by decide)) k105 (by decide)) k117 (by decide)) k133 (by decide)) k149 (by decide)) k165 (by decide)) k188 (by decide)) k204 (by decide)) k220 (by decide)) (by decide)) h219 h221 p222 (by first | omega | (simp only [List.length_append, List.length_cons, List.length_nil]; omega))) cm_Mo_write im_Mo_write se_Mo_write rfl ml_Mo_298 d_Mo_writeWindow_177 (by decide) h218 rfl rfl (Nat.le_of_ble_eq_true rfl) (by decide) ?_
    rintro _ f228 ⟨rfl, F231, nd'_232, dr'_233, h234, h235, k236, h237, p238, k239⟩
    refine G_cast (st' := []) ?_ rfl rfl rfl rfl
    refine G_iinc_z hX (lv' := [(7, .int (zI ((((24 + (-8)) + (-8)) + (-8)) + (-8)))), (5, .long (zL (adV gF bg n))), (4, .int (zI (((((((((wid n) + 1) + 4) + (wid ((D.length : Nat) : Int))) + ((D.length : Nat) : Int)) + (wid ((C.length : Nat) : Int))) + ((C.length : Nat) : Int)) + (wid ((A.length : Nat) : Int))) + ((A.length : Nat) : Int)))), (0, .ref (eA E 61)), (1, .int (zI n)), (2, .int (zI bg)), (3, .int (zI 1))]) 0 rfl (by decide) rfl d_Mo_writeWindow_180 ?_
    refine G_goto hX (tgt := 157) d_Mo_writeWindow_183 rfl ?_
    refine G_iload hX 0 rfl d_Mo_writeWindow_157 ?_
    refine G_if_lt_z hX (tgt := 186) d_Mo_writeWindow_159 rfl (by omega) (fun c240 => ?_) (fun c241 => by exfalso; omega)
    refine G_iconst hX d_Mo_writeWindow_186 ?_
    refine G_istore hX (lv' := [(7, .int (zI 0)), (5, .long (zL (adV gF bg n))), (4, .int (zI (((((((((wid n) + 1) + 4) + (wid ((D.length : Nat) : Int))) + ((D.length : Nat) : Int)) + (wid ((C.length : Nat) : Int))) + ((C.length : Nat) : Int)) + (wid ((A.length : Nat) : Int))) + ((A.length : Nat) : Int)))), (0, .ref (eA E 61)), (1, .int (zI n)), (2, .int (zI bg)), (3, .int (zI 1))]) (by decide) rfl d_Mo_writeWindow_187 ?_
    refine G_iload hX 0 rfl d_Mo_writeWindow_189 ?_
    refine G_iconst hX d_Mo_writeWindow_191 ?_
    refine G_icmp_ge_z hX (tgt := 240) d_Mo_writeWindow_192 rfl (by omega) (fun c242 => by exfalso; omega) (fun c243 => ?_)
    refine G_iconst hX d_Mo_writeWindow_195 ?_
    refine G_istore hX (lv' := [(8, .int (zI 0)), (7, .int (zI 0)), (5, .long (zL (adV gF bg n))), (4, .int (zI (((((((((wid n) + 1) + 4) + (wid ((D.length : Nat) : Int))) + ((D.length : Nat) : Int)) + (wid ((C.length : Nat) : Int))) + ((C.length : Nat) : Int)) + (wid ((A.length : Nat) : Int))) + ((A.length : Nat) : Int)))), (0, .ref (eA E 61)), (1, .int (zI n)), (2, .int (zI bg)), (3, .int (zI 1))]) (by decide) rfl d_Mo_writeWindow_196 ?_
    have loop247 : ∀ (q : Nat) (t0 : Int) (nd0 : Int) (dr0 : Int → Int) (F244 : Nat → Value) (f248 : Nat → va_E), ((D.length : Int) - t0).toNat < q → (0 ≤ t0 ∧ t0 ≤ (D.length : Int)) → (rep dr0 nd0 ((((((((((((((L ++ [1 + 4]) ++ nbL s) ++ nbL 0) ++ nbL ((((hdL n 1 (adV gF bg n) (D.length : Int) (C.length : Int) (A.length : Int))).length : Int) + (D.length : Int) + (C.length : Int) + (A.length : Int))) ++ nbL n) ++ [0]) ++ nbL ((D.length : Nat) : Int)) ++ nbL ((C.length : Nat) : Int)) ++ nbL ((A.length : Nat) : Int)) ++ [adV gF bg n / 16777216 % 256]) ++ [adV gF bg n / 65536 % 256]) ++ [adV gF bg n / 256 % 256]) ++ [adV gF bg n % 256]) ++ sl (fun k => pt (0 + k)) 0 t0.toNat)) → (F244 21 = .int (zI nd0)) → (FrF [21] F231 F244) → f248 75 = iz E 3000 dr0 → f248 61 = mob F244 → Fr [75, 61] f228 f248 → G E X 0 0 198 [(0, .ref (eA E 61)), (7, .int (zI 0)), (8, .int (zI t0))] [] (wl E f248) := by
      intro q
      induction q with
      | zero => intro t0 nd0 dr0 F244 f248 hms250; exact absurd hms250 (Nat.not_lt_zero _)
      | succ q ih251 =>
        intro t0 nd0 dr0 F244 f248 hms250 ht0 hr0 h245 k246 h252 h253 k249
        refine G_iload hX 2 rfl d_Mo_writeWindow_198 ?_
        refine G_aload_n hX 0 rfl rfl d_Mo_writeWindow_200 ?_
        have h254 : F244 23 = .ref (eA E 76) := (k246 23 (by decide)).trans ((k236 23 (by decide)).trans ((k220 23 (by decide)).trans ((k204 23 (by decide)).trans ((k188 23 (by decide)).trans ((k165 23 (by decide)).trans h155)))))
        refine M_get hX fg_Mo_124 d_Mo_writeWindow_201 h253 (by decide) h254 ?_
        refine G_iload hX 1 rfl d_Mo_writeWindow_204 ?_
        have h255 : f248 76 = iz E 3 ps := (k249 76 (by decide)).trans ((k239 76 (by decide)).trans ((k223 76 (by decide)).trans ((k207 76 (by decide)).trans ((k191 76 (by decide)).trans ((k168 76 (by decide)).trans h156)))))
        refine F_iald hX d_Mo_writeWindow_206 76 (by decide) h255 (by omega) ?_
        refine G_top (show zI (ps 0) = zI ((D.length : Nat) : Int) from congrArg zI hpr.1.1) ?_
        refine G_icmp_ge_z hX (tgt := 234) d_Mo_writeWindow_207 rfl (by omega) (fun c256 => ?_) (fun c257 => ?_)
        · skip
          have et0 : t0 = (D.length : Int) := by omega
          have hs0 : (((((((((((((L ++ [1 + 4]) ++ nbL s) ++ nbL 0) ++ nbL ((((hdL n 1 (adV gF bg n) (D.length : Int) (C.length : Int) (A.length : Int))).length : Int) + (D.length : Int) + (C.length : Int) + (A.length : Int))) ++ nbL n) ++ [0]) ++ nbL ((D.length : Nat) : Int)) ++ nbL ((C.length : Nat) : Int)) ++ nbL ((A.length : Nat) : Int)) ++ [adV gF bg n / 16777216 % 256]) ++ [adV gF bg n / 65536 % 256]) ++ [adV gF bg n / 256 % 256]) ++ [adV gF bg n % 256]) ++ sl (fun k => pt (0 + k)) 0 t0.toNat = (((((((((((((L ++ [1 + 4]) ++ nbL s) ++ nbL 0) ++ nbL ((((hdL n 1 (adV gF bg n) (D.length : Int) (C.length : Int) (A.length : Int))).length : Int) + (D.length : Int) + (C.length : Int) + (A.length : Int))) ++ nbL n) ++ [0]) ++ nbL ((D.length : Nat) : Int)) ++ nbL ((C.length : Nat) : Int)) ++ nbL ((A.length : Nat) : Int)) ++ [adV gF bg n / 16777216 % 256]) ++ [adV gF bg n / 65536 % 256]) ++ [adV gF bg n / 256 % 256]) ++ [adV gF bg n % 256]) ++ D := by rw [et0, rep_sub hpr.1]
          have hz0 := hr0
          rw [hs0] at hz0
          refine G_iinc_z hX (lv' := [(7, .int (zI (0 + 1))), (0, .ref (eA E 61)), (8, .int (zI t0))]) 1 rfl (by decide) rfl d_Mo_writeWindow_234 ?_
          refine G_goto hX (tgt := 189) d_Mo_writeWindow_237 rfl ?_
          refine G_iload hX 0 rfl d_Mo_writeWindow_189 ?_
          refine G_iconst hX d_Mo_writeWindow_191 ?_
          refine G_icmp_ge_z hX (tgt := 240) d_Mo_writeWindow_192 rfl (by omega) (fun c258 => by exfalso; omega) (fun c259 => ?_)
          refine G_iconst hX d_Mo_writeWindow_195 ?_
          refine G_istore hX (lv' := [(8, .int (zI 0)), (7, .int (zI (0 + 1))), (0, .ref (eA E 61))]) (by decide) rfl d_Mo_writeWindow_196 ?_
          have loop263 : ∀ (q : Nat) (t1 : Int) (nd1 : Int) (dr1 : Int → Int) (F260 : Nat → Value) (f264 : Nat → va_E), ((C.length : Int) - t1).toNat < q → (0 ≤ t1 ∧ t1 ≤ (C.length : Int)) → (rep dr1 nd1 (((((((((((((((L ++ [1 + 4]) ++ nbL s) ++ nbL 0) ++ nbL ((((hdL n 1 (adV gF bg n) (D.length : Int) (C.length : Int) (A.length : Int))).length : Int) + (D.length : Int) + (C.length : Int) + (A.length : Int))) ++ nbL n) ++ [0]) ++ nbL ((D.length : Nat) : Int)) ++ nbL ((C.length : Nat) : Int)) ++ nbL ((A.length : Nat) : Int)) ++ [adV gF bg n / 16777216 % 256]) ++ [adV gF bg n / 65536 % 256]) ++ [adV gF bg n / 256 % 256]) ++ [adV gF bg n % 256]) ++ D) ++ sl (fun k => pt (1000 + k)) 0 t1.toNat)) → (F260 21 = .int (zI nd1)) → (FrF [21] F244 F260) → f264 75 = iz E 3000 dr1 → f264 61 = mob F260 → Fr [75, 61] f248 f264 → G E X 0 0 198 [(0, .ref (eA E 61)), (7, .int (zI (0 + 1))), (8, .int (zI t1))] [] (wl E f264) := by
            intro q
            induction q with
            | zero => intro t1 nd1 dr1 F260 f264 hms266; exact absurd hms266 (Nat.not_lt_zero _)
            | succ q ih267 =>
              intro t1 nd1 dr1 F260 f264 hms266 ht1 hr1 h261 k262 h268 h269 k265
              refine G_iload hX 2 rfl d_Mo_writeWindow_198 ?_
              refine G_aload_n hX 0 rfl rfl d_Mo_writeWindow_200 ?_
              have h270 : F260 23 = .ref (eA E 76) := (k262 23 (by decide)).trans h254
              refine M_get hX fg_Mo_124 d_Mo_writeWindow_201 h269 (by decide) h270 ?_
              refine G_iload hX 1 rfl d_Mo_writeWindow_204 ?_
              have h271 : f264 76 = iz E 3 ps := (k265 76 (by decide)).trans h255
              refine F_iald hX d_Mo_writeWindow_206 76 (by decide) h271 (by omega) ?_
              refine G_top (show zI (ps (0 + 1)) = zI ((C.length : Nat) : Int) from congrArg zI hpr.2.1.1) ?_
              refine G_icmp_ge_z hX (tgt := 234) d_Mo_writeWindow_207 rfl (by omega) (fun c272 => ?_) (fun c273 => ?_)
              · skip
                have et1 : t1 = (C.length : Int) := by omega
                have hs1 : ((((((((((((((L ++ [1 + 4]) ++ nbL s) ++ nbL 0) ++ nbL ((((hdL n 1 (adV gF bg n) (D.length : Int) (C.length : Int) (A.length : Int))).length : Int) + (D.length : Int) + (C.length : Int) + (A.length : Int))) ++ nbL n) ++ [0]) ++ nbL ((D.length : Nat) : Int)) ++ nbL ((C.length : Nat) : Int)) ++ nbL ((A.length : Nat) : Int)) ++ [adV gF bg n / 16777216 % 256]) ++ [adV gF bg n / 65536 % 256]) ++ [adV gF bg n / 256 % 256]) ++ [adV gF bg n % 256]) ++ D) ++ sl (fun k => pt (1000 + k)) 0 t1.toNat = ((((((((((((((L ++ [1 + 4]) ++ nbL s) ++ nbL 0) ++ nbL ((((hdL n 1 (adV gF bg n) (D.length : Int) (C.length : Int) (A.length : Int))).length : Int) + (D.length : Int) + (C.length : Int) + (A.length : Int))) ++ nbL n) ++ [0]) ++ nbL ((D.length : Nat) : Int)) ++ nbL ((C.length : Nat) : Int)) ++ nbL ((A.length : Nat) : Int)) ++ [adV gF bg n / 16777216 % 256]) ++ [adV gF bg n / 65536 % 256]) ++ [adV gF bg n / 256 % 256]) ++ [adV gF bg n % 256]) ++ D) ++ C := by rw [et1, rep_sub hpr.2.1]
                have hz1 := hr1
                rw [hs1] at hz1
                refine G_iinc_z hX (lv' := [(7, .int (zI ((0 + 1) + 1))), (0, .ref (eA E 61)), (8, .int (zI t1))]) 1 rfl (by decide) rfl d_Mo_writeWindow_234 ?_
                refine G_goto hX (tgt := 189) d_Mo_writeWindow_237 rfl ?_
                refine G_iload hX 0 rfl d_Mo_writeWindow_189 ?_
                refine G_iconst hX d_Mo_writeWindow_191 ?_
                refine G_icmp_ge_z hX (tgt := 240) d_Mo_writeWindow_192 rfl (by omega) (fun c274 => by exfalso; omega) (fun c275 => ?_)
                refine G_iconst hX d_Mo_writeWindow_195 ?_
                refine G_istore hX (lv' := [(8, .int (zI 0)), (7, .int (zI ((0 + 1) + 1))), (0, .ref (eA E 61))]) (by decide) rfl d_Mo_writeWindow_196 ?_
                have loop279 : ∀ (q : Nat) (t2 : Int) (nd2 : Int) (dr2 : Int → Int) (F276 : Nat → Value) (f280 : Nat → va_E), ((A.length : Int) - t2).toNat < q → (0 ≤ t2 ∧ t2 ≤ (A.length : Int)) → (rep dr2 nd2 ((((((((((((((((L ++ [1 + 4]) ++ nbL s) ++ nbL 0) ++ nbL ((((hdL n 1 (adV gF bg n) (D.length : Int) (C.length : Int) (A.length : Int))).length : Int) + (D.length : Int) + (C.length : Int) + (A.length : Int))) ++ nbL n) ++ [0]) ++ nbL ((D.length : Nat) : Int)) ++ nbL ((C.length : Nat) : Int)) ++ nbL ((A.length : Nat) : Int)) ++ [adV gF bg n / 16777216 % 256]) ++ [adV gF bg n / 65536 % 256]) ++ [adV gF bg n / 256 % 256]) ++ [adV gF bg n % 256]) ++ D) ++ C) ++ sl (fun k => pt (2000 + k)) 0 t2.toNat)) → (F276 21 = .int (zI nd2)) → (FrF [21] F260 F276) → f280 75 = iz E 3000 dr2 → f280 61 = mob F276 → Fr [75, 61] f264 f280 → G E X 0 0 198 [(0, .ref (eA E 61)), (7, .int (zI ((0 + 1) + 1))), (8, .int (zI t2))] [] (wl E f280) := by
                  intro q
                  induction q with
                  | zero => intro t2 nd2 dr2 F276 f280 hms282; exact absurd hms282 (Nat.not_lt_zero _)
                  | succ q ih283 =>
                    intro t2 nd2 dr2 F276 f280 hms282 ht2 hr2 h277 k278 h284 h285 k281
                    refine G_iload hX 2 rfl d_Mo_writeWindow_198 ?_
                    refine G_aload_n hX 0 rfl rfl d_Mo_writeWindow_200 ?_
                    have h286 : F276 23 = .ref (eA E 76) := (k278 23 (by decide)).trans h270
                    refine M_get hX fg_Mo_124 d_Mo_writeWindow_201 h285 (by decide) h286 ?_
                    refine G_iload hX 1 rfl d_Mo_writeWindow_204 ?_
                    have h287 : f280 76 = iz E 3 ps := (k281 76 (by decide)).trans h271
                    refine F_iald hX d_Mo_writeWindow_206 76 (by decide) h287 (by omega) ?_
                    refine G_top (show zI (ps ((0 + 1) + 1)) = zI ((A.length : Nat) : Int) from congrArg zI hpr.2.2.1) ?_
                    refine G_icmp_ge_z hX (tgt := 234) d_Mo_writeWindow_207 rfl (by omega) (fun c288 => ?_) (fun c289 => ?_)
                    · skip
                      have et2 : t2 = (A.length : Int) := by omega
                      have hs2 : (((((((((((((((L ++ [1 + 4]) ++ nbL s) ++ nbL 0) ++ nbL ((((hdL n 1 (adV gF bg n) (D.length : Int) (C.length : Int) (A.length : Int))).length : Int) + (D.length : Int) + (C.length : Int) + (A.length : Int))) ++ nbL n) ++ [0]) ++ nbL ((D.length : Nat) : Int)) ++ nbL ((C.length : Nat) : Int)) ++ nbL ((A.length : Nat) : Int)) ++ [adV gF bg n / 16777216 % 256]) ++ [adV gF bg n / 65536 % 256]) ++ [adV gF bg n / 256 % 256]) ++ [adV gF bg n % 256]) ++ D) ++ C) ++ sl (fun k => pt (2000 + k)) 0 t2.toNat = (((((((((((((((L ++ [1 + 4]) ++ nbL s) ++ nbL 0) ++ nbL ((((hdL n 1 (adV gF bg n) (D.length : Int) (C.length : Int) (A.length : Int))).length : Int) + (D.length : Int) + (C.length : Int) + (A.length : Int))) ++ nbL n) ++ [0]) ++ nbL ((D.length : Nat) : Int)) ++ nbL ((C.length : Nat) : Int)) ++ nbL ((A.length : Nat) : Int)) ++ [adV gF bg n / 16777216 % 256]) ++ [adV gF bg n / 65536 % 256]) ++ [adV gF bg n / 256 % 256]) ++ [adV gF bg n % 256]) ++ D) ++ C) ++ A := by rw [et2, rep_sub hpr.2.2]
                      have hz2 := hr2
                      rw [hs2] at hz2
                      refine G_iinc_z hX (lv' := [(7, .int (zI (((0 + 1) + 1) + 1))), (0, .ref (eA E 61)), (8, .int (zI t2))]) 1 rfl (by decide) rfl d_Mo_writeWindow_234 ?_
                      refine G_goto hX (tgt := 189) d_Mo_writeWindow_237 rfl ?_
                      refine G_iload hX 0 rfl d_Mo_writeWindow_189 ?_
                      refine G_iconst hX d_Mo_writeWindow_191 ?_
                      refine G_icmp_ge_z hX (tgt := 240) d_Mo_writeWindow_192 rfl (by omega) (fun c290 => ?_) (fun c291 => by exfalso; omega)
                      have ews : wsL s 1 = [1 + 4] ++ (nbL s ++ nbL 0) := by unfold wsL; rw [if_pos hsp, if_pos hsp, if_neg (by decide)]
                      have eal : ∀ Z : List Int, (hdL n 1 (adV gF bg n) (D.length : Int) (C.length : Int) (A.length : Int)) ++ Z = (nbL n ++ ([0] ++ (nbL (D.length : Int) ++ (nbL (C.length : Int) ++ (nbL (A.length : Int) ++ [adV gF bg n / 16777216 % 256, adV gF bg n / 65536 % 256, adV gF bg n / 256 % 256, adV gF bg n % 256]))))) ++ Z := fun Z => by rw [hd1]
                      exact F_vret hX hE d_Mo_writeWindow_240 ⟨rfl, F276, _, _, h285, h277, (FrF.tr (FrF.tr (FrF.tr (FrF.tr (FrF.tr (FrF.tr (FrF.tr (FrF.tr (FrF.tr (FrF.tr (FrF.tr (FrF.tr (FrF.tr (FrF.tr (FrF.tr (FrF.tr FrF.rf k25 (by decide)) k40 (by decide)) k52 (by decide)) k93 (by decide)) k105 (by decide)) k117 (by decide)) k133 (by decide)) k149 (by decide)) k165 (by decide)) k188 (by decide)) k204 (by decide)) k220 (by decide)) k236 (by decide)) k246 (by decide)) k262 (by decide)) k278 (by decide)), h284, (by rw [ews, eal]; simpa only [List.append_assoc, List.cons_append, List.nil_append] using hz2), (Fr.tr (Fr.tr (Fr.tr (Fr.tr (Fr.tr (Fr.tr (Fr.tr (Fr.tr (Fr.tr (Fr.tr (Fr.tr (Fr.tr (Fr.tr (Fr.tr (Fr.tr (Fr.tr Fr.rf k28 (by decide)) k43 (by decide)) k55 (by decide)) k96 (by decide)) k108 (by decide)) k120 (by decide)) k136 (by decide)) k152 (by decide)) k168 (by decide)) k191 (by decide)) k207 (by decide)) k223 (by decide)) k239 (by decide)) k249 (by decide)) k265 (by decide)) k281 (by decide))⟩
                    · skip
                      refine G_aload_n hX 0 rfl rfl d_Mo_writeWindow_210 ?_
                      refine G_aload_n hX 0 rfl rfl d_Mo_writeWindow_211 ?_
                      have h292 : F276 24 = .ref (eA E 77) := (k278 24 (by decide)).trans ((k262 24 (by decide)).trans ((k246 24 (by decide)).trans ((k236 24 (by decide)).trans ((k220 24 (by decide)).trans ((k204 24 (by decide)).trans ((k188 24 (by decide)).trans ((k165 24 (by decide)).trans ((k149 24 (by decide)).trans ((k133 24 (by decide)).trans ((k117 24 (by decide)).trans ((k105 24 (by decide)).trans ((k93 24 (by decide)).trans ((k52 24 (by decide)).trans ((k40 24 (by decide)).trans ((k25 24 (by decide)).trans (hmk 24 77 (by decide)))))))))))))))))
                      refine M_get hX fg_Mo_127 d_Mo_writeWindow_212 h285 (by decide) h292 ?_
                      refine G_sipush hX (by decide) d_Mo_writeWindow_215 ?_
                      refine G_iload hX 1 rfl d_Mo_writeWindow_218 ?_
                      refine G_imul_z hX d_Mo_writeWindow_220 ?_
                      refine G_iload hX 2 rfl d_Mo_writeWindow_221 ?_
                      refine G_iadd_z hX d_Mo_writeWindow_223 ?_
                      have h293 : f280 77 = iz E 3000 pt := (k281 77 (by decide)).trans ((k265 77 (by decide)).trans ((k249 77 (by decide)).trans ((k239 77 (by decide)).trans ((k223 77 (by decide)).trans ((k207 77 (by decide)).trans ((k191 77 (by decide)).trans ((k168 77 (by decide)).trans ((k152 77 (by decide)).trans ((k136 77 (by decide)).trans ((k120 77 (by decide)).trans ((k108 77 (by decide)).trans ((k96 77 (by decide)).trans ((k55 77 (by decide)).trans ((k43 77 (by decide)).trans ((k28 77 (by decide)).trans hc77)))))))))))))))
                      refine F_iald hX d_Mo_writeWindow_224 77 (by decide) h293 (by omega) ?_
                      refine G_top (show zI (pt ((1000 * ((0 + 1) + 1)) + t2)) = zI (pt (2000 + (0 + t2))) from congrArg (fun z => zI (pt z)) (by omega)) ?_
                      refine F_callV hX (st := []) (c_Mo_write E f280 F276 (pt (2000 + (0 + t2))) nd2 dr2 ((((((((((((((((L ++ [1 + 4]) ++ nbL s) ++ nbL 0) ++ nbL ((((hdL n 1 (adV gF bg n) (D.length : Int) (C.length : Int) (A.length : Int))).length : Int) + (D.length : Int) + (C.length : Int) + (A.length : Int))) ++ nbL n) ++ [0]) ++ nbL ((D.length : Nat) : Int)) ++ nbL ((C.length : Nat) : Int)) ++ nbL ((A.length : Nat) : Int)) ++ [adV gF bg n / 16777216 % 256]) ++ [adV gF bg n / 65536 % 256]) ++ [adV gF bg n / 256 % 256]) ++ [adV gF bg n % 256]) ++ D) ++ C) ++ sl (fun k => pt (2000 + k)) 0 t2.toNat) h285 (moK_fr hmk (FrF.tr (FrF.tr (FrF.tr (FrF.tr (FrF.tr (FrF.tr (FrF.tr (FrF.tr (FrF.tr (FrF.tr (FrF.tr (FrF.tr (FrF.tr (FrF.tr (FrF.tr (FrF.tr (FrF.rf (S := [21])) k25 (by decide)) k40 (by decide)) k52 (by decide)) k93 (by decide)) k105 (by decide)) k117 (by decide)) k133 (by decide)) k149 (by decide)) k165 (by decide)) k188 (by decide)) k204 (by decide)) k220 (by decide)) k236 (by decide)) k246 (by decide)) k262 (by decide)) k278 (by decide)) (by decide)) h277 h284 hr2 (by simp only [List.length_append, List.length_cons, List.length_nil, sl_len]; omega)) cm_Mo_write im_Mo_write se_Mo_write rfl ml_Mo_298 d_Mo_writeWindow_225 (by decide) h285 rfl rfl (Nat.le_of_ble_eq_true rfl) (by decide) ?_
                      rintro _ f294 ⟨rfl, F297, nd'_298, dr'_299, h300, h301, k302, h303, p304, k305⟩
                      refine G_cast (st' := []) ?_ rfl rfl rfl rfl
                      refine G_iinc_z hX (lv' := [(8, .int (zI (t2 + 1))), (0, .ref (eA E 61)), (7, .int (zI ((0 + 1) + 1)))]) 2 rfl (by decide) rfl d_Mo_writeWindow_228 ?_
                      refine G_goto hX (tgt := 198) d_Mo_writeWindow_231 rfl ?_
                      refine G_loc (lv' := [(0, .ref (eA E 61)), (7, .int (zI ((0 + 1) + 1))), (8, .int (zI (t2 + 1)))]) [1, 2, 0] rfl ?_
                      exact ih283 (t2 + 1) nd'_298 dr'_299 F297 f294 (by omega) (by omega) (by rw [sl_s (fun k => pt (2000 + k)) 0 ht2.1, ← List.append_assoc]; exact p304) h301 (FrF.tr (FrF.tr FrF.rf k278 (by decide)) k302 (by decide)) h303 h300 (Fr.tr (Fr.tr Fr.rf k281 (by decide)) k305 (by decide))
                refine G_loc (lv' := [(0, .ref (eA E 61)), (7, .int (zI ((0 + 1) + 1))), (8, .int (zI 0))]) [2, 1, 0] rfl ?_
                exact loop279 (_ + 1) 0 nd1 dr1 F260 f264 (Nat.lt_succ_self _) (by omega) (by rw [show sl (fun k => pt (2000 + k)) 0 (0 : Int).toNat = [] from rfl, List.append_nil]; exact hz1) h261 FrF.rf h268 h269 Fr.rf
              · skip
                refine G_aload_n hX 0 rfl rfl d_Mo_writeWindow_210 ?_
                refine G_aload_n hX 0 rfl rfl d_Mo_writeWindow_211 ?_
                have h306 : F260 24 = .ref (eA E 77) := (k262 24 (by decide)).trans ((k246 24 (by decide)).trans ((k236 24 (by decide)).trans ((k220 24 (by decide)).trans ((k204 24 (by decide)).trans ((k188 24 (by decide)).trans ((k165 24 (by decide)).trans ((k149 24 (by decide)).trans ((k133 24 (by decide)).trans ((k117 24 (by decide)).trans ((k105 24 (by decide)).trans ((k93 24 (by decide)).trans ((k52 24 (by decide)).trans ((k40 24 (by decide)).trans ((k25 24 (by decide)).trans (hmk 24 77 (by decide))))))))))))))))
                refine M_get hX fg_Mo_127 d_Mo_writeWindow_212 h269 (by decide) h306 ?_
                refine G_sipush hX (by decide) d_Mo_writeWindow_215 ?_
                refine G_iload hX 1 rfl d_Mo_writeWindow_218 ?_
                refine G_imul_z hX d_Mo_writeWindow_220 ?_
                refine G_iload hX 2 rfl d_Mo_writeWindow_221 ?_
                refine G_iadd_z hX d_Mo_writeWindow_223 ?_
                have h307 : f264 77 = iz E 3000 pt := (k265 77 (by decide)).trans ((k249 77 (by decide)).trans ((k239 77 (by decide)).trans ((k223 77 (by decide)).trans ((k207 77 (by decide)).trans ((k191 77 (by decide)).trans ((k168 77 (by decide)).trans ((k152 77 (by decide)).trans ((k136 77 (by decide)).trans ((k120 77 (by decide)).trans ((k108 77 (by decide)).trans ((k96 77 (by decide)).trans ((k55 77 (by decide)).trans ((k43 77 (by decide)).trans ((k28 77 (by decide)).trans hc77))))))))))))))
                refine F_iald hX d_Mo_writeWindow_224 77 (by decide) h307 (by omega) ?_
                refine G_top (show zI (pt ((1000 * (0 + 1)) + t1)) = zI (pt (1000 + (0 + t1))) from congrArg (fun z => zI (pt z)) (by omega)) ?_
                refine F_callV hX (st := []) (c_Mo_write E f264 F260 (pt (1000 + (0 + t1))) nd1 dr1 (((((((((((((((L ++ [1 + 4]) ++ nbL s) ++ nbL 0) ++ nbL ((((hdL n 1 (adV gF bg n) (D.length : Int) (C.length : Int) (A.length : Int))).length : Int) + (D.length : Int) + (C.length : Int) + (A.length : Int))) ++ nbL n) ++ [0]) ++ nbL ((D.length : Nat) : Int)) ++ nbL ((C.length : Nat) : Int)) ++ nbL ((A.length : Nat) : Int)) ++ [adV gF bg n / 16777216 % 256]) ++ [adV gF bg n / 65536 % 256]) ++ [adV gF bg n / 256 % 256]) ++ [adV gF bg n % 256]) ++ D) ++ sl (fun k => pt (1000 + k)) 0 t1.toNat) h269 (moK_fr hmk (FrF.tr (FrF.tr (FrF.tr (FrF.tr (FrF.tr (FrF.tr (FrF.tr (FrF.tr (FrF.tr (FrF.tr (FrF.tr (FrF.tr (FrF.tr (FrF.tr (FrF.tr (FrF.rf (S := [21])) k25 (by decide)) k40 (by decide)) k52 (by decide)) k93 (by decide)) k105 (by decide)) k117 (by decide)) k133 (by decide)) k149 (by decide)) k165 (by decide)) k188 (by decide)) k204 (by decide)) k220 (by decide)) k236 (by decide)) k246 (by decide)) k262 (by decide)) (by decide)) h261 h268 hr1 (by simp only [List.length_append, List.length_cons, List.length_nil, sl_len]; omega)) cm_Mo_write im_Mo_write se_Mo_write rfl ml_Mo_298 d_Mo_writeWindow_225 (by decide) h269 rfl rfl (Nat.le_of_ble_eq_true rfl) (by decide) ?_
                rintro _ f308 ⟨rfl, F311, nd'_312, dr'_313, h314, h315, k316, h317, p318, k319⟩
                refine G_cast (st' := []) ?_ rfl rfl rfl rfl
                refine G_iinc_z hX (lv' := [(8, .int (zI (t1 + 1))), (0, .ref (eA E 61)), (7, .int (zI (0 + 1)))]) 2 rfl (by decide) rfl d_Mo_writeWindow_228 ?_
                refine G_goto hX (tgt := 198) d_Mo_writeWindow_231 rfl ?_
                refine G_loc (lv' := [(0, .ref (eA E 61)), (7, .int (zI (0 + 1))), (8, .int (zI (t1 + 1)))]) [1, 2, 0] rfl ?_
                exact ih267 (t1 + 1) nd'_312 dr'_313 F311 f308 (by omega) (by omega) (by rw [sl_s (fun k => pt (1000 + k)) 0 ht1.1, ← List.append_assoc]; exact p318) h315 (FrF.tr (FrF.tr FrF.rf k262 (by decide)) k316 (by decide)) h317 h314 (Fr.tr (Fr.tr Fr.rf k265 (by decide)) k319 (by decide))
          refine G_loc (lv' := [(0, .ref (eA E 61)), (7, .int (zI (0 + 1))), (8, .int (zI 0))]) [2, 1, 0] rfl ?_
          exact loop263 (_ + 1) 0 nd0 dr0 F244 f248 (Nat.lt_succ_self _) (by omega) (by rw [show sl (fun k => pt (1000 + k)) 0 (0 : Int).toNat = [] from rfl, List.append_nil]; exact hz0) h245 FrF.rf h252 h253 Fr.rf
        · skip
          refine G_aload_n hX 0 rfl rfl d_Mo_writeWindow_210 ?_
          refine G_aload_n hX 0 rfl rfl d_Mo_writeWindow_211 ?_
          have h320 : F244 24 = .ref (eA E 77) := (k246 24 (by decide)).trans ((k236 24 (by decide)).trans ((k220 24 (by decide)).trans ((k204 24 (by decide)).trans ((k188 24 (by decide)).trans ((k165 24 (by decide)).trans ((k149 24 (by decide)).trans ((k133 24 (by decide)).trans ((k117 24 (by decide)).trans ((k105 24 (by decide)).trans ((k93 24 (by decide)).trans ((k52 24 (by decide)).trans ((k40 24 (by decide)).trans ((k25 24 (by decide)).trans (hmk 24 77 (by decide)))))))))))))))
          refine M_get hX fg_Mo_127 d_Mo_writeWindow_212 h253 (by decide) h320 ?_
          refine G_sipush hX (by decide) d_Mo_writeWindow_215 ?_
          refine G_iload hX 1 rfl d_Mo_writeWindow_218 ?_
          refine G_imul_z hX d_Mo_writeWindow_220 ?_
          refine G_iload hX 2 rfl d_Mo_writeWindow_221 ?_
          refine G_iadd_z hX d_Mo_writeWindow_223 ?_
          have h321 : f248 77 = iz E 3000 pt := (k249 77 (by decide)).trans ((k239 77 (by decide)).trans ((k223 77 (by decide)).trans ((k207 77 (by decide)).trans ((k191 77 (by decide)).trans ((k168 77 (by decide)).trans ((k152 77 (by decide)).trans ((k136 77 (by decide)).trans ((k120 77 (by decide)).trans ((k108 77 (by decide)).trans ((k96 77 (by decide)).trans ((k55 77 (by decide)).trans ((k43 77 (by decide)).trans ((k28 77 (by decide)).trans hc77)))))))))))))
          refine F_iald hX d_Mo_writeWindow_224 77 (by decide) h321 (by omega) ?_
          refine G_top (show zI (pt ((1000 * 0) + t0)) = zI (pt (0 + (0 + t0))) from congrArg (fun z => zI (pt z)) (by omega)) ?_
          refine F_callV hX (st := []) (c_Mo_write E f248 F244 (pt (0 + (0 + t0))) nd0 dr0 ((((((((((((((L ++ [1 + 4]) ++ nbL s) ++ nbL 0) ++ nbL ((((hdL n 1 (adV gF bg n) (D.length : Int) (C.length : Int) (A.length : Int))).length : Int) + (D.length : Int) + (C.length : Int) + (A.length : Int))) ++ nbL n) ++ [0]) ++ nbL ((D.length : Nat) : Int)) ++ nbL ((C.length : Nat) : Int)) ++ nbL ((A.length : Nat) : Int)) ++ [adV gF bg n / 16777216 % 256]) ++ [adV gF bg n / 65536 % 256]) ++ [adV gF bg n / 256 % 256]) ++ [adV gF bg n % 256]) ++ sl (fun k => pt (0 + k)) 0 t0.toNat) h253 (moK_fr hmk (FrF.tr (FrF.tr (FrF.tr (FrF.tr (FrF.tr (FrF.tr (FrF.tr (FrF.tr (FrF.tr (FrF.tr (FrF.tr (FrF.tr (FrF.tr (FrF.tr (FrF.rf (S := [21])) k25 (by decide)) k40 (by decide)) k52 (by decide)) k93 (by decide)) k105 (by decide)) k117 (by decide)) k133 (by decide)) k149 (by decide)) k165 (by decide)) k188 (by decide)) k204 (by decide)) k220 (by decide)) k236 (by decide)) k246 (by decide)) (by decide)) h245 h252 hr0 (by simp only [List.length_append, List.length_cons, List.length_nil, sl_len]; omega)) cm_Mo_write im_Mo_write se_Mo_write rfl ml_Mo_298 d_Mo_writeWindow_225 (by decide) h253 rfl rfl (Nat.le_of_ble_eq_true rfl) (by decide) ?_
          rintro _ f322 ⟨rfl, F325, nd'_326, dr'_327, h328, h329, k330, h331, p332, k333⟩
          refine G_cast (st' := []) ?_ rfl rfl rfl rfl
          refine G_iinc_z hX (lv' := [(8, .int (zI (t0 + 1))), (0, .ref (eA E 61)), (7, .int (zI 0))]) 2 rfl (by decide) rfl d_Mo_writeWindow_228 ?_
          refine G_goto hX (tgt := 198) d_Mo_writeWindow_231 rfl ?_
          refine G_loc (lv' := [(0, .ref (eA E 61)), (7, .int (zI 0)), (8, .int (zI (t0 + 1)))]) [1, 2, 0] rfl ?_
          exact ih251 (t0 + 1) nd'_326 dr'_327 F325 f322 (by omega) (by omega) (by rw [sl_s (fun k => pt (0 + k)) 0 ht0.1, ← List.append_assoc]; exact p332) h329 (FrF.tr (FrF.tr FrF.rf k246 (by decide)) k330 (by decide)) h331 h328 (Fr.tr (Fr.tr Fr.rf k249 (by decide)) k333 (by decide))
    refine G_loc (lv' := [(0, .ref (eA E 61)), (7, .int (zI 0)), (8, .int (zI 0))]) [4, 1, 0] rfl ?_
    exact loop247 (_ + 1) 0 nd'_232 dr'_233 F231 f228 (Nat.lt_succ_self _) (by omega) (by rw [show sl (fun k => pt (0 + k)) 0 (0 : Int).toNat = [] from rfl, List.append_nil]; exact p238) h235 FrF.rf h237 h234 Fr.rf
  · skip
    refine G_aload_n hX 0 rfl rfl d_Mo_writeWindow_0 ?_
    refine G_aload_n hX 0 rfl rfl d_Mo_writeWindow_1 ?_
    refine M_get hX fg_Mo_249 d_Mo_writeWindow_2 hMo (by decide) hF12 ?_
    refine G_if_le_z hX (tgt := 12) d_Mo_writeWindow_5 rfl (by omega) (fun c334 => ?_) (fun c335 => by exfalso; omega)
    refine G_iconst hX d_Mo_writeWindow_12 ?_
    refine G_iload_n hX 3 rfl rfl d_Mo_writeWindow_13 ?_
    refine G_if_eq_z hX (tgt := 21) d_Mo_writeWindow_14 rfl (by omega) (fun c336 => by exfalso; omega) (fun c337 => ?_)
    refine G_iconst hX d_Mo_writeWindow_17 ?_
    refine G_goto hX (tgt := 22) d_Mo_writeWindow_18 rfl ?_
    refine G_iadd_z hX d_Mo_writeWindow_22 ?_
    refine F_callV hX (st := []) (c_Mo_write E f F (0 + 4) nd dr L hMo hmk hF21 hc75 hr (by first | omega | (simp only [List.length_append, List.length_cons, List.length_nil]; omega))) cm_Mo_write im_Mo_write se_Mo_write rfl ml_Mo_298 d_Mo_writeWindow_23 (by decide) hMo rfl rfl (Nat.le_of_ble_eq_true rfl) (by decide) ?_
    rintro _ f338 ⟨rfl, F341, nd'_342, dr'_343, h344, h345, k346, h347, p348, k349⟩
    refine G_cast (st' := []) ?_ rfl rfl rfl rfl
    refine G_aload_n hX 0 rfl rfl d_Mo_writeWindow_26 ?_
    have h350 : F341 12 = .int (zI s) := (k346 12 (by decide)).trans hF12
    refine M_get hX fg_Mo_249 d_Mo_writeWindow_27 h344 (by decide) h350 ?_
    refine G_if_le_z hX (tgt := 46) d_Mo_writeWindow_30 rfl (by omega) (fun c351 => ?_) (fun c352 => by exfalso; omega)
    refine G_iload_n hX 1 rfl rfl d_Mo_writeWindow_46 ?_
    refine F_callS hX (st := []) (c_Mo_widthOf E f338 n (by omega)) cm_Mo_widthOf sm_Mo_widthOf ml_Mo_295 d_Mo_writeWindow_47 rfl rfl (Nat.le_of_ble_eq_true rfl) (by decide) ?_
    rintro _ f353 ⟨rfl, e356⟩
    obtain rfl := e356.symm
    refine G_cast (st' := [.int (zI (wid n))]) ?_ rfl rfl rfl rfl
    refine G_iconst hX d_Mo_writeWindow_50 ?_
    refine G_iadd_z hX d_Mo_writeWindow_51 ?_
    refine G_iload_n hX 3 rfl rfl d_Mo_writeWindow_52 ?_
    refine G_if_eq_z hX (tgt := 60) d_Mo_writeWindow_53 rfl (by omega) (fun c357 => by exfalso; omega) (fun c358 => ?_)
    refine G_iconst hX d_Mo_writeWindow_56 ?_
    refine G_goto hX (tgt := 61) d_Mo_writeWindow_57 rfl ?_
    refine G_iadd_z hX d_Mo_writeWindow_61 ?_
    refine G_istore hX (lv' := [(4, .int (zI (((wid n) + 1) + 4))), (0, .ref (eA E 61)), (1, .int (zI n)), (2, .int (zI bg)), (3, .int (zI 1))]) (by decide) rfl d_Mo_writeWindow_62 ?_
    refine G_iconst hX d_Mo_writeWindow_64 ?_
    refine G_istore hX (lv' := [(5, .int (zI 0)), (4, .int (zI (((wid n) + 1) + 4))), (0, .ref (eA E 61)), (1, .int (zI n)), (2, .int (zI bg)), (3, .int (zI 1))]) (by decide) rfl d_Mo_writeWindow_65 ?_
    refine G_iload hX 0 rfl d_Mo_writeWindow_67 ?_
    refine G_iconst hX d_Mo_writeWindow_69 ?_
    refine G_icmp_ge_z hX (tgt := 102) d_Mo_writeWindow_70 rfl (by omega) (fun c359 => by exfalso; omega) (fun c360 => ?_)
    refine G_iload hX 1 rfl d_Mo_writeWindow_73 ?_
    refine G_aload_n hX 2 rfl rfl d_Mo_writeWindow_75 ?_
    have h361 : F341 23 = .ref (eA E 76) := (k346 23 (by decide)).trans (hmk 23 76 (by decide))
    refine M_get hX fg_Mo_124 d_Mo_writeWindow_76 h344 (by decide) h361 ?_
    refine G_iload hX 0 rfl d_Mo_writeWindow_79 ?_
    have h362 : f338 76 = iz E 3 ps := (k349 76 (by decide)).trans hc76
    refine F_iald hX d_Mo_writeWindow_81 76 (by decide) h362 (by omega) ?_
    refine G_top (show zI (ps 0) = zI ((D.length : Nat) : Int) from congrArg zI hpr.1.1) ?_
    refine F_callS hX (st := [.int (zI (((wid n) + 1) + 4))]) (c_Mo_widthOf E f338 ((D.length : Nat) : Int) (by omega)) cm_Mo_widthOf sm_Mo_widthOf ml_Mo_295 d_Mo_writeWindow_82 rfl rfl (Nat.le_of_ble_eq_true rfl) (by decide) ?_
    rintro _ f363 ⟨rfl, e366⟩
    obtain rfl := e366.symm
    refine G_cast (st' := [.int (zI (wid ((D.length : Nat) : Int))), .int (zI (((wid n) + 1) + 4))]) ?_ rfl rfl rfl rfl
    refine G_iadd_z hX d_Mo_writeWindow_85 ?_
    refine G_aload_n hX 2 rfl rfl d_Mo_writeWindow_86 ?_
    refine M_get hX fg_Mo_124 d_Mo_writeWindow_87 h344 (by decide) h361 ?_
    refine G_iload hX 0 rfl d_Mo_writeWindow_90 ?_
    refine F_iald hX d_Mo_writeWindow_92 76 (by decide) h362 (by omega) ?_
    refine G_top (show zI (ps 0) = zI ((D.length : Nat) : Int) from congrArg zI hpr.1.1) ?_
    refine G_iadd_z hX d_Mo_writeWindow_93 ?_
    refine G_istore hX (lv' := [(4, .int (zI (((((wid n) + 1) + 4) + (wid ((D.length : Nat) : Int))) + ((D.length : Nat) : Int)))), (5, .int (zI 0)), (0, .ref (eA E 61)), (1, .int (zI n)), (2, .int (zI bg)), (3, .int (zI 1))]) (by decide) rfl d_Mo_writeWindow_94 ?_
    refine G_iinc_z hX (lv' := [(5, .int (zI (0 + 1))), (4, .int (zI (((((wid n) + 1) + 4) + (wid ((D.length : Nat) : Int))) + ((D.length : Nat) : Int)))), (0, .ref (eA E 61)), (1, .int (zI n)), (2, .int (zI bg)), (3, .int (zI 1))]) 1 rfl (by decide) rfl d_Mo_writeWindow_96 ?_
    refine G_goto hX (tgt := 67) d_Mo_writeWindow_99 rfl ?_
    refine G_iload hX 0 rfl d_Mo_writeWindow_67 ?_
    refine G_iconst hX d_Mo_writeWindow_69 ?_
    refine G_icmp_ge_z hX (tgt := 102) d_Mo_writeWindow_70 rfl (by omega) (fun c367 => by exfalso; omega) (fun c368 => ?_)
    refine G_iload hX 1 rfl d_Mo_writeWindow_73 ?_
    refine G_aload_n hX 2 rfl rfl d_Mo_writeWindow_75 ?_
    refine M_get hX fg_Mo_124 d_Mo_writeWindow_76 h344 (by decide) h361 ?_
    refine G_iload hX 0 rfl d_Mo_writeWindow_79 ?_
    refine F_iald hX d_Mo_writeWindow_81 76 (by decide) h362 (by omega) ?_
    refine G_top (show zI (ps (0 + 1)) = zI ((C.length : Nat) : Int) from congrArg zI hpr.2.1.1) ?_
    refine F_callS hX (st := [.int (zI (((((wid n) + 1) + 4) + (wid ((D.length : Nat) : Int))) + ((D.length : Nat) : Int)))]) (c_Mo_widthOf E f338 ((C.length : Nat) : Int) (by omega)) cm_Mo_widthOf sm_Mo_widthOf ml_Mo_295 d_Mo_writeWindow_82 rfl rfl (Nat.le_of_ble_eq_true rfl) (by decide) ?_
    rintro _ f369 ⟨rfl, e372⟩
    obtain rfl := e372.symm
    refine G_cast (st' := [.int (zI (wid ((C.length : Nat) : Int))), .int (zI (((((wid n) + 1) + 4) + (wid ((D.length : Nat) : Int))) + ((D.length : Nat) : Int)))]) ?_ rfl rfl rfl rfl
    refine G_iadd_z hX d_Mo_writeWindow_85 ?_
    refine G_aload_n hX 2 rfl rfl d_Mo_writeWindow_86 ?_
    refine M_get hX fg_Mo_124 d_Mo_writeWindow_87 h344 (by decide) h361 ?_
    refine G_iload hX 0 rfl d_Mo_writeWindow_90 ?_
    refine F_iald hX d_Mo_writeWindow_92 76 (by decide) h362 (by omega) ?_
    refine G_top (show zI (ps (0 + 1)) = zI ((C.length : Nat) : Int) from congrArg zI hpr.2.1.1) ?_
    refine G_iadd_z hX d_Mo_writeWindow_93 ?_
    refine G_istore hX (lv' := [(4, .int (zI (((((((wid n) + 1) + 4) + (wid ((D.length : Nat) : Int))) + ((D.length : Nat) : Int)) + (wid ((C.length : Nat) : Int))) + ((C.length : Nat) : Int)))), (5, .int (zI (0 + 1))), (0, .ref (eA E 61)), (1, .int (zI n)), (2, .int (zI bg)), (3, .int (zI 1))]) (by decide) rfl d_Mo_writeWindow_94 ?_
    refine G_iinc_z hX (lv' := [(5, .int (zI ((0 + 1) + 1))), (4, .int (zI (((((((wid n) + 1) + 4) + (wid ((D.length : Nat) : Int))) + ((D.length : Nat) : Int)) + (wid ((C.length : Nat) : Int))) + ((C.length : Nat) : Int)))), (0, .ref (eA E 61)), (1, .int (zI n)), (2, .int (zI bg)), (3, .int (zI 1))]) 1 rfl (by decide) rfl d_Mo_writeWindow_96 ?_
    refine G_goto hX (tgt := 67) d_Mo_writeWindow_99 rfl ?_
    refine G_iload hX 0 rfl d_Mo_writeWindow_67 ?_
    refine G_iconst hX d_Mo_writeWindow_69 ?_
    refine G_icmp_ge_z hX (tgt := 102) d_Mo_writeWindow_70 rfl (by omega) (fun c373 => by exfalso; omega) (fun c374 => ?_)
    refine G_iload hX 1 rfl d_Mo_writeWindow_73 ?_
    refine G_aload_n hX 2 rfl rfl d_Mo_writeWindow_75 ?_
    refine M_get hX fg_Mo_124 d_Mo_writeWindow_76 h344 (by decide) h361 ?_
    refine G_iload hX 0 rfl d_Mo_writeWindow_79 ?_
    refine F_iald hX d_Mo_writeWindow_81 76 (by decide) h362 (by omega) ?_
    refine G_top (show zI (ps ((0 + 1) + 1)) = zI ((A.length : Nat) : Int) from congrArg zI hpr.2.2.1) ?_
    refine F_callS hX (st := [.int (zI (((((((wid n) + 1) + 4) + (wid ((D.length : Nat) : Int))) + ((D.length : Nat) : Int)) + (wid ((C.length : Nat) : Int))) + ((C.length : Nat) : Int)))]) (c_Mo_widthOf E f338 ((A.length : Nat) : Int) (by omega)) cm_Mo_widthOf sm_Mo_widthOf ml_Mo_295 d_Mo_writeWindow_82 rfl rfl (Nat.le_of_ble_eq_true rfl) (by decide) ?_
    rintro _ f375 ⟨rfl, e378⟩
    obtain rfl := e378.symm
    refine G_cast (st' := [.int (zI (wid ((A.length : Nat) : Int))), .int (zI (((((((wid n) + 1) + 4) + (wid ((D.length : Nat) : Int))) + ((D.length : Nat) : Int)) + (wid ((C.length : Nat) : Int))) + ((C.length : Nat) : Int)))]) ?_ rfl rfl rfl rfl
    refine G_iadd_z hX d_Mo_writeWindow_85 ?_
    refine G_aload_n hX 2 rfl rfl d_Mo_writeWindow_86 ?_
    refine M_get hX fg_Mo_124 d_Mo_writeWindow_87 h344 (by decide) h361 ?_
    refine G_iload hX 0 rfl d_Mo_writeWindow_90 ?_
    refine F_iald hX d_Mo_writeWindow_92 76 (by decide) h362 (by omega) ?_
    refine G_top (show zI (ps ((0 + 1) + 1)) = zI ((A.length : Nat) : Int) from congrArg zI hpr.2.2.1) ?_
    refine G_iadd_z hX d_Mo_writeWindow_93 ?_
    refine G_istore hX (lv' := [(4, .int (zI (((((((((wid n) + 1) + 4) + (wid ((D.length : Nat) : Int))) + ((D.length : Nat) : Int)) + (wid ((C.length : Nat) : Int))) + ((C.length : Nat) : Int)) + (wid ((A.length : Nat) : Int))) + ((A.length : Nat) : Int)))), (5, .int (zI ((0 + 1) + 1))), (0, .ref (eA E 61)), (1, .int (zI n)), (2, .int (zI bg)), (3, .int (zI 1))]) (by decide) rfl d_Mo_writeWindow_94 ?_
    refine G_iinc_z hX (lv' := [(5, .int (zI (((0 + 1) + 1) + 1))), (4, .int (zI (((((((((wid n) + 1) + 4) + (wid ((D.length : Nat) : Int))) + ((D.length : Nat) : Int)) + (wid ((C.length : Nat) : Int))) + ((C.length : Nat) : Int)) + (wid ((A.length : Nat) : Int))) + ((A.length : Nat) : Int)))), (0, .ref (eA E 61)), (1, .int (zI n)), (2, .int (zI bg)), (3, .int (zI 1))]) 1 rfl (by decide) rfl d_Mo_writeWindow_96 ?_
    refine G_goto hX (tgt := 67) d_Mo_writeWindow_99 rfl ?_
    refine G_iload hX 0 rfl d_Mo_writeWindow_67 ?_
    refine G_iconst hX d_Mo_writeWindow_69 ?_
    refine G_icmp_ge_z hX (tgt := 102) d_Mo_writeWindow_70 rfl (by omega) (fun c379 => ?_) (fun c380 => by exfalso; omega)
    refine G_aload_n hX 2 rfl rfl d_Mo_writeWindow_102 ?_
    refine G_iload hX 1 rfl d_Mo_writeWindow_103 ?_
    have hhl := hdL_l (n := n) (ck := 1) (v := adV gF bg n) (cd := (D.length : Int)) (cc := (C.length : Int)) (ca := (A.length : Int))
    rw [if_neg (by decide)] at hhl
    refine G_top (show zI (((((((((wid n) + 1) + 4) + (wid ((D.length : Nat) : Int))) + ((D.length : Nat) : Int)) + (wid ((C.length : Nat) : Int))) + ((C.length : Nat) : Int)) + (wid ((A.length : Nat) : Int))) + ((A.length : Nat) : Int)) = zI ((((hdL n 1 (adV gF bg n) (D.length : Int) (C.length : Int) (A.length : Int))).length : Int) + (D.length : Int) + (C.length : Int) + (A.length : Int)) from congrArg zI (by omega)) ?_
    have n381 := nbL_b ((((hdL n 1 (adV gF bg n) (D.length : Int) (C.length : Int) (A.length : Int))).length : Int) + (D.length : Int) + (C.length : Int) + (A.length : Int))
    refine F_callV hX (st := []) (c_Mo_writeNumber E f338 F341 ((((hdL n 1 (adV gF bg n) (D.length : Int) (C.length : Int) (A.length : Int))).length : Int) + (D.length : Int) + (C.length : Int) + (A.length : Int)) nd'_342 dr'_343 (L ++ [0 + 4]) h344 (moK_fr hmk (FrF.tr (FrF.rf (S := [21])) k346 (by decide)) (by decide)) h345 h347 p348 (by first | omega | (simp only [List.length_append, List.length_cons, List.length_nil]; omega)) (by omega)) cm_Mo_writeNumber im_Mo_writeNumber se_Mo_writeNumber rfl ml_Mo_328 d_Mo_writeWindow_105 (by decide) h344 rfl rfl (Nat.le_of_ble_eq_true rfl) (by decide) ?_
    rintro _ f382 ⟨rfl, F385, nd'_386, dr'_387, h388, h389, k390, h391, p392, k393⟩
    refine G_cast (st' := []) ?_ rfl rfl rfl rfl
    refine G_aload_n hX 2 rfl rfl d_Mo_writeWindow_108 ?_
    refine G_iload_n hX 3 rfl rfl d_Mo_writeWindow_109 ?_
    refine F_callV hX (st := []) (c_Mo_writeNumber E f382 F385 n nd'_386 dr'_387 ((L ++ [0 + 4]) ++ nbL ((((hdL n 1 (adV gF bg n) (D.length : Int) (C.length : Int) (A.length : Int))).length : Int) + (D.length : Int) + (C.length : Int) + (A.length : Int))) h388 (moK_fr hmk (FrF.tr (FrF.tr (FrF.rf (S := [21])) k346 (by decide)) k390 (by decide)) (by decide)) h389 h391 p392 (by first | omega | (simp only [List.length_append, List.length_cons, List.length_nil]; omega)) (by omega)) cm_Mo_writeNumber im_Mo_writeNumber se_Mo_writeNumber rfl ml_Mo_328 d_Mo_writeWindow_110 (by decide) h388 rfl rfl (Nat.le_of_ble_eq_true rfl) (by decide) ?_
    rintro _ f394 ⟨rfl, F397, nd'_398, dr'_399, h400, h401, k402, h403, p404, k405⟩
    refine G_cast (st' := []) ?_ rfl rfl rfl rfl
    refine G_aload_n hX 2 rfl rfl d_Mo_writeWindow_113 ?_
    refine G_iconst hX d_Mo_writeWindow_114 ?_
    refine F_callV hX (st := []) (c_Mo_write E f394 F397 0 nd'_398 dr'_399 (((L ++ [0 + 4]) ++ nbL ((((hdL n 1 (adV gF bg n) (D.length : Int) (C.length : Int) (A.length : Int))).length : Int) + (D.length : Int) + (C.length : Int) + (A.length : Int))) ++ nbL n) h400 (moK_fr hmk (FrF.tr (FrF.tr (FrF.tr (FrF.rf (S := [21])) k346 (by decide)) k390 (by decide)) k402 (by decide)) (by decide)) h401 h403 p404 (by first | omega | (simp only [List.length_append, List.length_cons, List.length_nil]; omega))) cm_Mo_write im_Mo_write se_Mo_write rfl ml_Mo_298 d_Mo_writeWindow_115 (by decide) h400 rfl rfl (Nat.le_of_ble_eq_true rfl) (by decide) ?_
    rintro _ f406 ⟨rfl, F409, nd'_410, dr'_411, h412, h413, k414, h415, p416, k417⟩
    refine G_cast (st' := []) ?_ rfl rfl rfl rfl
    refine G_iconst hX d_Mo_writeWindow_118 ?_
    refine G_istore hX (lv' := [(5, .int (zI 0)), (4, .int (zI (((((((((wid n) + 1) + 4) + (wid ((D.length : Nat) : Int))) + ((D.length : Nat) : Int)) + (wid ((C.length : Nat) : Int))) + ((C.length : Nat) : Int)) + (wid ((A.length : Nat) : Int))) + ((A.length : Nat) : Int)))), (0, .ref (eA E 61)), (1, .int (zI n)), (2, .int (zI bg)), (3, .int (zI 1))]) (by decide) rfl d_Mo_writeWindow_119 ?_
    refine G_iload hX 0 rfl d_Mo_writeWindow_121 ?_
    refine G_iconst hX d_Mo_writeWindow_123 ?_
    refine G_icmp_ge_z hX (tgt := 144) d_Mo_writeWindow_124 rfl (by omega) (fun c418 => by exfalso; omega) (fun c419 => ?_)
    refine G_aload_n hX 2 rfl rfl d_Mo_writeWindow_127 ?_
    refine G_aload_n hX 2 rfl rfl d_Mo_writeWindow_128 ?_
    have h420 : F409 23 = .ref (eA E 76) := (k414 23 (by decide)).trans ((k402 23 (by decide)).trans ((k390 23 (by decide)).trans h361))
    refine M_get hX fg_Mo_124 d_Mo_writeWindow_129 h412 (by decide) h420 ?_
    refine G_iload hX 0 rfl d_Mo_writeWindow_132 ?_
    have h421 : f406 76 = iz E 3 ps := (k417 76 (by decide)).trans ((k405 76 (by decide)).trans ((k393 76 (by decide)).trans h362))
    refine F_iald hX d_Mo_writeWindow_134 76 (by decide) h421 (by omega) ?_
    refine G_top (show zI (ps 0) = zI ((D.length : Nat) : Int) from congrArg zI hpr.1.1) ?_
    refine F_callV hX (st := []) (c_Mo_writeNumber E f406 F409 ((D.length : Nat) : Int) nd'_410 dr'_411 ((((L ++ [0 + 4]) ++ nbL ((((hdL n 1 (adV gF bg n) (D.length : Int) (C.length : Int) (A.length : Int))).length : Int) + (D.length : Int) + (C.length : Int) + (A.length : Int))) ++ nbL n) ++ [0]) h412 (moK_fr hmk (FrF.tr (FrF.tr (FrF.tr (FrF.tr (FrF.rf (S := [21])) k346 (by decide)) k390 (by decide)) k402 (by decide)) k414 (by decide)) (by decide)) h413 h415 p416 (by first | omega | (simp only [List.length_append, List.length_cons, List.length_nil]; omega)) (by omega)) cm_Mo_writeNumber im_Mo_writeNumber se_Mo_writeNumber rfl ml_Mo_328 d_Mo_writeWindow_135 (by decide) h412 rfl rfl (Nat.le_of_ble_eq_true rfl) (by decide) ?_
    rintro _ f422 ⟨rfl, F425, nd'_426, dr'_427, h428, h429, k430, h431, p432, k433⟩
    refine G_cast (st' := []) ?_ rfl rfl rfl rfl
    refine G_iinc_z hX (lv' := [(5, .int (zI (0 + 1))), (4, .int (zI (((((((((wid n) + 1) + 4) + (wid ((D.length : Nat) : Int))) + ((D.length : Nat) : Int)) + (wid ((C.length : Nat) : Int))) + ((C.length : Nat) : Int)) + (wid ((A.length : Nat) : Int))) + ((A.length : Nat) : Int)))), (0, .ref (eA E 61)), (1, .int (zI n)), (2, .int (zI bg)), (3, .int (zI 1))]) 0 rfl (by decide) rfl d_Mo_writeWindow_138 ?_
    refine G_goto hX (tgt := 121) d_Mo_writeWindow_141 rfl ?_
    refine G_iload hX 0 rfl d_Mo_writeWindow_121 ?_
    refine G_iconst hX d_Mo_writeWindow_123 ?_
    refine G_icmp_ge_z hX (tgt := 144) d_Mo_writeWindow_124 rfl (by omega) (fun c434 => by exfalso; omega) (fun c435 => ?_)
    refine G_aload_n hX 2 rfl rfl d_Mo_writeWindow_127 ?_
    refine G_aload_n hX 2 rfl rfl d_Mo_writeWindow_128 ?_
    have h436 : F425 23 = .ref (eA E 76) := (k430 23 (by decide)).trans h420
    refine M_get hX fg_Mo_124 d_Mo_writeWindow_129 h428 (by decide) h436 ?_
    refine G_iload hX 0 rfl d_Mo_writeWindow_132 ?_
    have h437 : f422 76 = iz E 3 ps := (k433 76 (by decide)).trans h421
    refine F_iald hX d_Mo_writeWindow_134 76 (by decide) h437 (by omega) ?_
    refine G_top (show zI (ps (0 + 1)) = zI ((C.length : Nat) : Int) from congrArg zI hpr.2.1.1) ?_
    refine F_callV hX (st := []) (c_Mo_writeNumber E f422 F425 ((C.length : Nat) : Int) nd'_426 dr'_427 (((((L ++ [0 + 4]) ++ nbL ((((hdL n 1 (adV gF bg n) (D.length : Int) (C.length : Int) (A.length : Int))).length : Int) + (D.length : Int) + (C.length : Int) + (A.length : Int))) ++ nbL n) ++ [0]) ++ nbL ((D.length : Nat) : Int)) h428 (moK_fr hmk (FrF.tr (FrF.tr (FrF.tr (FrF.tr (FrF.tr (FrF.rf (S := [21])) k346 (by decide)) k390 (by decide)) k402 (by decide)) k414 (by decide)) k430 (by decide)) (by decide)) h429 h431 p432 (by first | omega | (simp only [List.length_append, List.length_cons, List.length_nil]; omega)) (by omega)) cm_Mo_writeNumber im_Mo_writeNumber se_Mo_writeNumber rfl ml_Mo_328 d_Mo_writeWindow_135 (by decide) h428 rfl rfl (Nat.le_of_ble_eq_true rfl) (by decide) ?_
    rintro _ f438 ⟨rfl, F441, nd'_442, dr'_443, h444, h445, k446, h447, p448, k449⟩
    refine G_cast (st' := []) ?_ rfl rfl rfl rfl
    refine G_iinc_z hX (lv' := [(5, .int (zI ((0 + 1) + 1))), (4, .int (zI (((((((((wid n) + 1) + 4) + (wid ((D.length : Nat) : Int))) + ((D.length : Nat) : Int)) + (wid ((C.length : Nat) : Int))) + ((C.length : Nat) : Int)) + (wid ((A.length : Nat) : Int))) + ((A.length : Nat) : Int)))), (0, .ref (eA E 61)), (1, .int (zI n)), (2, .int (zI bg)), (3, .int (zI 1))]) 0 rfl (by decide) rfl d_Mo_writeWindow_138 ?_
    refine G_goto hX (tgt := 121) d_Mo_writeWindow_141 rfl ?_
    refine G_iload hX 0 rfl d_Mo_writeWindow_121 ?_
    refine G_iconst hX d_Mo_writeWindow_123 ?_
    refine G_icmp_ge_z hX (tgt := 144) d_Mo_writeWindow_124 rfl (by omega) (fun c450 => by exfalso; omega) (fun c451 => ?_)
    refine G_aload_n hX 2 rfl rfl d_Mo_writeWindow_127 ?_
    refine G_aload_n hX 2 rfl rfl d_Mo_writeWindow_128 ?_
    have h452 : F441 23 = .ref (eA E 76) := (k446 23 (by decide)).trans h436
    refine M_get hX fg_Mo_124 d_Mo_writeWindow_129 h444 (by decide) h452 ?_
    refine G_iload hX 0 rfl d_Mo_writeWindow_132 ?_
    have h453 : f438 76 = iz E 3 ps := (k449 76 (by decide)).trans h437
    refine F_iald hX d_Mo_writeWindow_134 76 (by decide) h453 (by omega) ?_
    refine G_top (show zI (ps ((0 + 1) + 1)) = zI ((A.length : Nat) : Int) from congrArg zI hpr.2.2.1) ?_
    refine F_callV hX (st := []) (c_Mo_writeNumber E f438 F441 ((A.length : Nat) : Int) nd'_442 dr'_443 ((((((L ++ [0 + 4]) ++ nbL ((((hdL n 1 (adV gF bg n) (D.length : Int) (C.length : Int) (A.length : Int))).length : Int) + (D.length : Int) + (C.length : Int) + (A.length : Int))) ++ nbL n) ++ [0]) ++ nbL ((D.length : Nat) : Int)) ++ nbL ((C.length : Nat) : Int)) h444 (moK_fr hmk (FrF.tr (FrF.tr (FrF.tr (FrF.tr (FrF.tr (FrF.tr (FrF.rf (S := [21])) k346 (by decide)) k390 (by decide)) k402 (by decide)) k414 (by decide)) k430 (by decide)) k446 (by decide)) (by decide)) h445 h447 p448 (by first | omega | (simp only [List.length_append, List.length_cons, List.length_nil]; omega)) (by omega)) cm_Mo_writeNumber im_Mo_writeNumber se_Mo_writeNumber rfl ml_Mo_328 d_Mo_writeWindow_135 (by decide) h444 rfl rfl (Nat.le_of_ble_eq_true rfl) (by decide) ?_
    rintro _ f454 ⟨rfl, F457, nd'_458, dr'_459, h460, h461, k462, h463, p464, k465⟩
    refine G_cast (st' := []) ?_ rfl rfl rfl rfl
    refine G_iinc_z hX (lv' := [(5, .int (zI (((0 + 1) + 1) + 1))), (4, .int (zI (((((((((wid n) + 1) + 4) + (wid ((D.length : Nat) : Int))) + ((D.length : Nat) : Int)) + (wid ((C.length : Nat) : Int))) + ((C.length : Nat) : Int)) + (wid ((A.length : Nat) : Int))) + ((A.length : Nat) : Int)))), (0, .ref (eA E 61)), (1, .int (zI n)), (2, .int (zI bg)), (3, .int (zI 1))]) 0 rfl (by decide) rfl d_Mo_writeWindow_138 ?_
    refine G_goto hX (tgt := 121) d_Mo_writeWindow_141 rfl ?_
    refine G_iload hX 0 rfl d_Mo_writeWindow_121 ?_
    refine G_iconst hX d_Mo_writeWindow_123 ?_
    refine G_icmp_ge_z hX (tgt := 144) d_Mo_writeWindow_124 rfl (by omega) (fun c466 => ?_) (fun c467 => by exfalso; omega)
    refine G_aload_n hX 2 rfl rfl d_Mo_writeWindow_144 ?_
    refine G_iconst hX d_Mo_writeWindow_145 ?_
    refine G_iload_n hX 4 rfl rfl d_Mo_writeWindow_146 ?_
    refine G_iload_n hX 3 rfl rfl d_Mo_writeWindow_147 ?_
    have h468 : f454 63 = iz E 1600 b := (k465 63 (by decide)).trans ((k449 63 (by decide)).trans ((k433 63 (by decide)).trans ((k417 63 (by decide)).trans ((k405 63 (by decide)).trans ((k393 63 (by decide)).trans ((k349 63 (by decide)).trans hc63))))))
    refine F_callV hX (st := []) (c_Mo_checkNew E f454 F457 bg n b gF bg h460 (moK_fr hmk (FrF.tr (FrF.tr (FrF.tr (FrF.tr (FrF.tr (FrF.tr (FrF.tr (FrF.rf (S := [21])) k346 (by decide)) k390 (by decide)) k402 (by decide)) k414 (by decide)) k430 (by decide)) k446 (by decide)) k462 (by decide)) (by decide)) h468 hG (fun i h1 h2 => by rw [Int.add_assoc]; exact hag (bg + i) (by omega) (by omega)) (by omega)) cm_Mo_checkOf im_Mo_checkOf se_Mo_checkOf rfl ml_Mo_331 d_Mo_writeWindow_148 (by decide) h460 rfl rfl (Nat.le_of_ble_eq_true rfl) (by decide) ?_
    rintro _ f469 ⟨rfl, e472⟩
    obtain rfl := e472.symm
    refine G_cast (st' := [.long (zL (adV gF bg n))]) ?_ rfl rfl rfl rfl
    refine G_lstore hX (lv' := [(5, .long (zL (adV gF bg n))), (4, .int (zI (((((((((wid n) + 1) + 4) + (wid ((D.length : Nat) : Int))) + ((D.length : Nat) : Int)) + (wid ((C.length : Nat) : Int))) + ((C.length : Nat) : Int)) + (wid ((A.length : Nat) : Int))) + ((A.length : Nat) : Int)))), (0, .ref (eA E 61)), (1, .int (zI n)), (2, .int (zI bg)), (3, .int (zI 1))]) (by decide) rfl d_Mo_writeWindow_151 ?_
    refine G_bipush hX (by decide) d_Mo_writeWindow_153 ?_
    refine G_istore hX (lv' := [(7, .int (zI 24)), (5, .long (zL (adV gF bg n))), (4, .int (zI (((((((((wid n) + 1) + 4) + (wid ((D.length : Nat) : Int))) + ((D.length : Nat) : Int)) + (wid ((C.length : Nat) : Int))) + ((C.length : Nat) : Int)) + (wid ((A.length : Nat) : Int))) + ((A.length : Nat) : Int)))), (0, .ref (eA E 61)), (1, .int (zI n)), (2, .int (zI bg)), (3, .int (zI 1))]) (by decide) rfl d_Mo_writeWindow_155 ?_
    refine G_iload hX 0 rfl d_Mo_writeWindow_157 ?_
    refine G_if_lt_z hX (tgt := 186) d_Mo_writeWindow_159 rfl (by omega) (fun c473 => by exfalso; omega) (fun c474 => ?_)
    refine G_iload_n hX 6 rfl rfl d_Mo_writeWindow_162 ?_
    refine G_if_eq_z hX (tgt := 186) d_Mo_writeWindow_163 rfl (by omega) (fun c475 => by exfalso; omega) (fun c476 => ?_)
    refine G_aload_n hX 3 rfl rfl d_Mo_writeWindow_166 ?_
    refine G_lload hX 1 rfl d_Mo_writeWindow_167 ?_
    refine G_iload hX 0 rfl d_Mo_writeWindow_169 ?_
    refine G_lshr hX (v := (zL (adV gF bg n)) >>> ((zI 24).toInt64 &&& 63)) rfl d_Mo_writeWindow_171 ?_
    refine G_ldc2 hX kn_Mo_164 d_Mo_writeWindow_172 ?_
    refine G_topl (show (255 : Int64) = zL (255) from by decide) ?_
    refine G_land hX d_Mo_writeWindow_175 ?_
    refine G_l2i hX (v := ((((zL (adV gF bg n)) >>> ((zI 24).toInt64 &&& 63)) &&& (zL 255))).toInt32) rfl d_Mo_writeWindow_176 ?_
    refine G_top (show (((((zL (adV gF bg n)) >>> ((zI 24).toInt64 &&& 63)) &&& (zL 255))).toInt32) = zI (adV gF bg n / 16777216 % 256) from (ck_by 24 hva (by decide))) ?_
    refine F_callV hX (st := []) (c_Mo_write E f454 F457 (adV gF bg n / 16777216 % 256) nd'_458 dr'_459 (((((((L ++ [0 + 4]) ++ nbL ((((hdL n 1 (adV gF bg n) (D.length : Int) (C.length : Int) (A.length : Int))).length : Int) + (D.length : Int) + (C.length : Int) + (A.length : Int))) ++ nbL n) ++ [0]) ++ nbL ((D.length : Nat) : Int)) ++ nbL ((C.length : Nat) : Int)) ++ nbL ((A.length : Nat) : Int)) h460 (moK_fr hmk (FrF.tr (FrF.tr (FrF.tr (FrF.tr (FrF.tr (FrF.tr (FrF.tr (FrF.rf (S := [21])) k346 (by decide)) k390 (by decide)) k402 (by decide)) k414 (by decide)) k430 (by decide)) k446 (by decide)) k462 (by decide)) (by decide)) h461 h463 p464 (by first | omega | (simp only [List.length_append, List.length_cons, List.length_nil]; omega))) cm_Mo_write im_Mo_write se_Mo_write rfl ml_Mo_298 d_Mo_writeWindow_177 (by decide) h460 rfl rfl (Nat.le_of_ble_eq_true rfl) (by decide) ?_
    rintro _ f477 ⟨rfl, F480, nd'_481, dr'_482, h483, h484, k485, h486, p487, k488⟩
    refine G_cast (st' := []) ?_ rfl rfl rfl rfl
    refine G_iinc_z hX (lv' := [(7, .int (zI (24 + (-8)))), (5, .long (zL (adV gF bg n))), (4, .int (zI (((((((((wid n) + 1) + 4) + (wid ((D.length : Nat) : Int))) + ((D.length : Nat) : Int)) + (wid ((C.length : Nat) : Int))) + ((C.length : Nat) : Int)) + (wid ((A.length : Nat) : Int))) + ((A.length : Nat) : Int)))), (0, .ref (eA E 61)), (1, .int (zI n)), (2, .int (zI bg)), (3, .int (zI 1))]) 0 rfl (by decide) rfl d_Mo_writeWindow_180 ?_
    refine G_goto hX (tgt := 157) d_Mo_writeWindow_183 rfl ?_
    refine G_iload hX 0 rfl d_Mo_writeWindow_157 ?_
    refine G_if_lt_z hX (tgt := 186) d_Mo_writeWindow_159 rfl (by omega) (fun c489 => by exfalso; omega) (fun c490 => ?_)
    refine G_iload_n hX 6 rfl rfl d_Mo_writeWindow_162 ?_
    refine G_if_eq_z hX (tgt := 186) d_Mo_writeWindow_163 rfl (by omega) (fun c491 => by exfalso; omega) (fun c492 => ?_)
    refine G_aload_n hX 3 rfl rfl d_Mo_writeWindow_166 ?_
    refine G_lload hX 1 rfl d_Mo_writeWindow_167 ?_
    refine G_iload hX 0 rfl d_Mo_writeWindow_169 ?_
    refine G_lshr hX (v := (zL (adV gF bg n)) >>> ((zI (24 + (-8))).toInt64 &&& 63)) rfl d_Mo_writeWindow_171 ?_
    refine G_ldc2 hX kn_Mo_164 d_Mo_writeWindow_172 ?_
    refine G_topl (show (255 : Int64) = zL (255) from by decide) ?_
    refine G_land hX d_Mo_writeWindow_175 ?_
    refine G_l2i hX (v := ((((zL (adV gF bg n)) >>> ((zI (24 + (-8))).toInt64 &&& 63)) &&& (zL 255))).toInt32) rfl d_Mo_writeWindow_176 ?_
    refine G_top (show (((((zL (adV gF bg n)) >>> ((zI (24 + (-8))).toInt64 &&& 63)) &&& (zL 255))).toInt32) = zI (adV gF bg n / 65536 % 256) from (ck_by 16 hva (by decide))) ?_
    refine F_callV hX (st := []) (c_Mo_write E f477 F480 (adV gF bg n / 65536 % 256) nd'_481 dr'_482 ((((((((L ++ [0 + 4]) ++ nbL ((((hdL n 1 (adV gF bg n) (D.length : Int) (C.length : Int) (A.length : Int))).length : Int) + (D.length : Int) + (C.length : Int) + (A.length : Int))) ++ nbL n) ++ [0]) ++ nbL ((D.length : Nat) : Int)) ++ nbL ((C.length : Nat) : Int)) ++ nbL ((A.length : Nat) : Int)) ++ [adV gF bg n / 16777216 % 256]) h483 (moK_fr hmk (FrF.tr (FrF.tr (FrF.tr (FrF.tr (FrF.tr (FrF.tr (FrF.tr (FrF.tr (FrF.rf (S := [21])) k346 (by decide)) k390 (by decide)) k402 (by decide)) k414 (by decide)) k430 (by decide)) k446 (by decide)) k462 (by decide)) k485 (by decide)) (by decide)) h484 h486 p487 (by first | omega | (simp only [List.length_append, List.length_cons, List.length_nil]; omega))) cm_Mo_write im_Mo_write se_Mo_write rfl ml_Mo_298 d_Mo_writeWindow_177 (by decide) h483 rfl rfl (Nat.le_of_ble_eq_true rfl) (by decide) ?_
    rintro _ f493 ⟨rfl, F496, nd'_497, dr'_498, h499, h500, k501, h502, p503, k504⟩
    refine G_cast (st' := []) ?_ rfl rfl rfl rfl
    refine G_iinc_z hX (lv' := [(7, .int (zI ((24 + (-8)) + (-8)))), (5, .long (zL (adV gF bg n))), (4, .int (zI (((((((((wid n) + 1) + 4) + (wid ((D.length : Nat) : Int))) + ((D.length : Nat) : Int)) + (wid ((C.length : Nat) : Int))) + ((C.length : Nat) : Int)) + (wid ((A.length : Nat) : Int))) + ((A.length : Nat) : Int)))), (0, .ref (eA E 61)), (1, .int (zI n)), (2, .int (zI bg)), (3, .int (zI 1))]) 0 rfl (by decide) rfl d_Mo_writeWindow_180 ?_
    refine G_goto hX (tgt := 157) d_Mo_writeWindow_183 rfl ?_
    refine G_iload hX 0 rfl d_Mo_writeWindow_157 ?_
    refine G_if_lt_z hX (tgt := 186) d_Mo_writeWindow_159 rfl (by omega) (fun c505 => by exfalso; omega) (fun c506 => ?_)
    refine G_iload_n hX 6 rfl rfl d_Mo_writeWindow_162 ?_
    refine G_if_eq_z hX (tgt := 186) d_Mo_writeWindow_163 rfl (by omega) (fun c507 => by exfalso; omega) (fun c508 => ?_)
    refine G_aload_n hX 3 rfl rfl d_Mo_writeWindow_166 ?_
    refine G_lload hX 1 rfl d_Mo_writeWindow_167 ?_
    refine G_iload hX 0 rfl d_Mo_writeWindow_169 ?_
    refine G_lshr hX (v := (zL (adV gF bg n)) >>> ((zI ((24 + (-8)) + (-8))).toInt64 &&& 63)) rfl d_Mo_writeWindow_171 ?_
    refine G_ldc2 hX kn_Mo_164 d_Mo_writeWindow_172 ?_
    refine G_topl (show (255 : Int64) = zL (255) from by decide) ?_
    refine G_land hX d_Mo_writeWindow_175 ?_
    refine G_l2i hX (v := ((((zL (adV gF bg n)) >>> ((zI ((24 + (-8)) + (-8))).toInt64 &&& 63)) &&& (zL 255))).toInt32) rfl d_Mo_writeWindow_176 ?_
    refine G_top (show (((((zL (adV gF bg n)) >>> ((zI ((24 + (-8)) + (-8))).toInt64 &&& 63)) &&& (zL 255))).toInt32) = zI (adV gF bg n / 256 % 256) from (ck_by 8 hva (by decide))) ?_
    refine F_callV hX (st := []) (c_Mo_write E f493 F496 (adV gF bg n / 256 % 256) nd'_497 dr'_498 (((((((((L ++ [0 + 4]) ++ nbL ((((hdL n 1 (adV gF bg n) (D.length : Int) (C.length : Int) (A.length : Int))).length : Int) + (D.length : Int) + (C.length : Int) + (A.length : Int))) ++ nbL n) ++ [0]) ++ nbL ((D.length : Nat) : Int)) ++ nbL ((C.length : Nat) : Int)) ++ nbL ((A.length : Nat) : Int)) ++ [adV gF bg n / 16777216 % 256]) ++ [adV gF bg n / 65536 % 256]) h499 (moK_fr hmk (FrF.tr (FrF.tr (FrF.tr (FrF.tr (FrF.tr (FrF.tr (FrF.tr (FrF.tr (FrF.tr (FrF.rf (S := [21])) k346 (by decide)) k390 (by decide)) k402 (by decide)) k414 (by decide)) k430 (by decide)) k446 (by decide)) k462 (by decide)) k485 (by decide)) k501 (by decide)) (by decide)) h500 h502 p503 (by first | omega | (simp only [List.length_append, List.length_cons, List.length_nil]; omega))) cm_Mo_write im_Mo_write se_Mo_write rfl ml_Mo_298 d_Mo_writeWindow_177 (by decide) h499 rfl rfl (Nat.le_of_ble_eq_true rfl) (by decide) ?_
    rintro _ f509 ⟨rfl, F512, nd'_513, dr'_514, h515, h516, k517, h518, p519, k520⟩
    refine G_cast (st' := []) ?_ rfl rfl rfl rfl
    refine G_iinc_z hX (lv' := [(7, .int (zI (((24 + (-8)) + (-8)) + (-8)))), (5, .long (zL (adV gF bg n))), (4, .int (zI (((((((((wid n) + 1) + 4) + (wid ((D.length : Nat) : Int))) + ((D.length : Nat) : Int)) + (wid ((C.length : Nat) : Int))) + ((C.length : Nat) : Int)) + (wid ((A.length : Nat) : Int))) + ((A.length : Nat) : Int)))), (0, .ref (eA E 61)), (1, .int (zI n)), (2, .int (zI bg)), (3, .int (zI 1))]) 0 rfl (by decide) rfl d_Mo_writeWindow_180 ?_
    refine G_goto hX (tgt := 157) d_Mo_writeWindow_183 rfl ?_
    refine G_iload hX 0 rfl d_Mo_writeWindow_157 ?_
    refine G_if_lt_z hX (tgt := 186) d_Mo_writeWindow_159 rfl (by omega) (fun c521 => by exfalso; omega) (fun c522 => ?_)
    refine G_iload_n hX 6 rfl rfl d_Mo_writeWindow_162 ?_
    refine G_if_eq_z hX (tgt := 186) d_Mo_writeWindow_163 rfl (by omega) (fun c523 => by exfalso; omega) (fun c524 => ?_)
    refine G_aload_n hX 3 rfl rfl d_Mo_writeWindow_166 ?_
    refine G_lload hX 1 rfl d_Mo_writeWindow_167 ?_
    refine G_iload hX 0 rfl d_Mo_writeWindow_169 ?_
    refine G_lshr hX (v := (zL (adV gF bg n)) >>> ((zI (((24 + (-8)) + (-8)) + (-8))).toInt64 &&& 63)) rfl d_Mo_writeWindow_171 ?_
    refine G_ldc2 hX kn_Mo_164 d_Mo_writeWindow_172 ?_
    refine G_topl (show (255 : Int64) = zL (255) from by decide) ?_
    refine G_land hX d_Mo_writeWindow_175 ?_
    refine G_l2i hX (v := ((((zL (adV gF bg n)) >>> ((zI (((24 + (-8)) + (-8)) + (-8))).toInt64 &&& 63)) &&& (zL 255))).toInt32) rfl d_Mo_writeWindow_176 ?_
    refine G_top (show (((((zL (adV gF bg n)) >>> ((zI (((24 + (-8)) + (-8)) + (-8))).toInt64 &&& 63)) &&& (zL 255))).toInt32) = zI (adV gF bg n % 256) from (ck_by 0 hva (by decide)).trans (congrArg zI (by omega))) ?_
    refine F_callV hX (st := []) (c_Mo_write E f509 F512 (adV gF bg n % 256) nd'_513 dr'_514 ((((((((((L ++ [0 + 4]) ++ nbL ((((hdL n 1 (adV gF bg n) (D.length : Int) (C.length : Int) (A.length : Int))).length : Int) + (D.length : Int) + (C.length : Int) + (A.length : Int))) ++ nbL n) ++ [0]) ++ nbL ((D.length : Nat) : Int)) ++ nbL ((C.length : Nat) : Int)) ++ nbL ((A.length : Nat) : Int)) ++ [adV gF bg n / 16777216 % 256]) ++ [adV gF bg n / 65536 % 256]) ++ [adV gF bg n / 256 % 256]) h515 (moK_fr hmk (FrF.tr (FrF.tr (FrF.tr (FrF.tr (FrF.tr (FrF.tr (FrF.tr (FrF.tr (FrF.tr (FrF.tr (FrF.rf (S := [21])) k346 (by decide)) k390 (by decide)) k402 (by decide)) k414 (by decide)) k430 (by decide)) k446 (by decide)) k462 (by decide)) k485 (by decide)) k501 (by decide)) k517 (by decide)) (by decide)) h516 h518 p519 (by first | omega | (simp only [List.length_append, List.length_cons, List.length_nil]; omega))) cm_Mo_write im_Mo_write se_Mo_write rfl ml_Mo_298 d_Mo_writeWindow_177 (by decide) h515 rfl rfl (Nat.le_of_ble_eq_true rfl) (by decide) ?_
    rintro _ f525 ⟨rfl, F528, nd'_529, dr'_530, h531, h532, k533, h534, p535, k536⟩
    refine G_cast (st' := []) ?_ rfl rfl rfl rfl
    refine G_iinc_z hX (lv' := [(7, .int (zI ((((24 + (-8)) + (-8)) + (-8)) + (-8)))), (5, .long (zL (adV gF bg n))), (4, .int (zI (((((((((wid n) + 1) + 4) + (wid ((D.length : Nat) : Int))) + ((D.length : Nat) : Int)) + (wid ((C.length : Nat) : Int))) + ((C.length : Nat) : Int)) + (wid ((A.length : Nat) : Int))) + ((A.length : Nat) : Int)))), (0, .ref (eA E 61)), (1, .int (zI n)), (2, .int (zI bg)), (3, .int (zI 1))]) 0 rfl (by decide) rfl d_Mo_writeWindow_180 ?_
    refine G_goto hX (tgt := 157) d_Mo_writeWindow_183 rfl ?_
    refine G_iload hX 0 rfl d_Mo_writeWindow_157 ?_
    refine G_if_lt_z hX (tgt := 186) d_Mo_writeWindow_159 rfl (by omega) (fun c537 => ?_) (fun c538 => by exfalso; omega)
    refine G_iconst hX d_Mo_writeWindow_186 ?_
    refine G_istore hX (lv' := [(7, .int (zI 0)), (5, .long (zL (adV gF bg n))), (4, .int (zI (((((((((wid n) + 1) + 4) + (wid ((D.length : Nat) : Int))) + ((D.length : Nat) : Int)) + (wid ((C.length : Nat) : Int))) + ((C.length : Nat) : Int)) + (wid ((A.length : Nat) : Int))) + ((A.length : Nat) : Int)))), (0, .ref (eA E 61)), (1, .int (zI n)), (2, .int (zI bg)), (3, .int (zI 1))]) (by decide) rfl d_Mo_writeWindow_187 ?_
    refine G_iload hX 0 rfl d_Mo_writeWindow_189 ?_
    refine G_iconst hX d_Mo_writeWindow_191 ?_
    refine G_icmp_ge_z hX (tgt := 240) d_Mo_writeWindow_192 rfl (by omega) (fun c539 => by exfalso; omega) (fun c540 => ?_)
    refine G_iconst hX d_Mo_writeWindow_195 ?_
    refine G_istore hX (lv' := [(8, .int (zI 0)), (7, .int (zI 0)), (5, .long (zL (adV gF bg n))), (4, .int (zI (((((((((wid n) + 1) + 4) + (wid ((D.length : Nat) : Int))) + ((D.length : Nat) : Int)) + (wid ((C.length : Nat) : Int))) + ((C.length : Nat) : Int)) + (wid ((A.length : Nat) : Int))) + ((A.length : Nat) : Int)))), (0, .ref (eA E 61)), (1, .int (zI n)), (2, .int (zI bg)), (3, .int (zI 1))]) (by decide) rfl d_Mo_writeWindow_196 ?_
    have loop544 : ∀ (q : Nat) (t0 : Int) (nd0 : Int) (dr0 : Int → Int) (F541 : Nat → Value) (f545 : Nat → va_E), ((D.length : Int) - t0).toNat < q → (0 ≤ t0 ∧ t0 ≤ (D.length : Int)) → (rep dr0 nd0 ((((((((((((L ++ [0 + 4]) ++ nbL ((((hdL n 1 (adV gF bg n) (D.length : Int) (C.length : Int) (A.length : Int))).length : Int) + (D.length : Int) + (C.length : Int) + (A.length : Int))) ++ nbL n) ++ [0]) ++ nbL ((D.length : Nat) : Int)) ++ nbL ((C.length : Nat) : Int)) ++ nbL ((A.length : Nat) : Int)) ++ [adV gF bg n / 16777216 % 256]) ++ [adV gF bg n / 65536 % 256]) ++ [adV gF bg n / 256 % 256]) ++ [adV gF bg n % 256]) ++ sl (fun k => pt (0 + k)) 0 t0.toNat)) → (F541 21 = .int (zI nd0)) → (FrF [21] F528 F541) → f545 75 = iz E 3000 dr0 → f545 61 = mob F541 → Fr [75, 61] f525 f545 → G E X 0 0 198 [(0, .ref (eA E 61)), (7, .int (zI 0)), (8, .int (zI t0))] [] (wl E f545) := by
      intro q
      induction q with
      | zero => intro t0 nd0 dr0 F541 f545 hms547; exact absurd hms547 (Nat.not_lt_zero _)
      | succ q ih548 =>
        intro t0 nd0 dr0 F541 f545 hms547 ht0 hr0 h542 k543 h549 h550 k546
        refine G_iload hX 2 rfl d_Mo_writeWindow_198 ?_
        refine G_aload_n hX 0 rfl rfl d_Mo_writeWindow_200 ?_
        have h551 : F541 23 = .ref (eA E 76) := (k543 23 (by decide)).trans ((k533 23 (by decide)).trans ((k517 23 (by decide)).trans ((k501 23 (by decide)).trans ((k485 23 (by decide)).trans ((k462 23 (by decide)).trans h452)))))
        refine M_get hX fg_Mo_124 d_Mo_writeWindow_201 h550 (by decide) h551 ?_
        refine G_iload hX 1 rfl d_Mo_writeWindow_204 ?_
        have h552 : f545 76 = iz E 3 ps := (k546 76 (by decide)).trans ((k536 76 (by decide)).trans ((k520 76 (by decide)).trans ((k504 76 (by decide)).trans ((k488 76 (by decide)).trans ((k465 76 (by decide)).trans h453)))))
        refine F_iald hX d_Mo_writeWindow_206 76 (by decide) h552 (by omega) ?_
        refine G_top (show zI (ps 0) = zI ((D.length : Nat) : Int) from congrArg zI hpr.1.1) ?_
        refine G_icmp_ge_z hX (tgt := 234) d_Mo_writeWindow_207 rfl (by omega) (fun c553 => ?_) (fun c554 => ?_)
        · skip
          have et0 : t0 = (D.length : Int) := by omega
          have hs0 : (((((((((((L ++ [0 + 4]) ++ nbL ((((hdL n 1 (adV gF bg n) (D.length : Int) (C.length : Int) (A.length : Int))).length : Int) + (D.length : Int) + (C.length : Int) + (A.length : Int))) ++ nbL n) ++ [0]) ++ nbL ((D.length : Nat) : Int)) ++ nbL ((C.length : Nat) : Int)) ++ nbL ((A.length : Nat) : Int)) ++ [adV gF bg n / 16777216 % 256]) ++ [adV gF bg n / 65536 % 256]) ++ [adV gF bg n / 256 % 256]) ++ [adV gF bg n % 256]) ++ sl (fun k => pt (0 + k)) 0 t0.toNat = (((((((((((L ++ [0 + 4]) ++ nbL ((((hdL n 1 (adV gF bg n) (D.length : Int) (C.length : Int) (A.length : Int))).length : Int) + (D.length : Int) + (C.length : Int) + (A.length : Int))) ++ nbL n) ++ [0]) ++ nbL ((D.length : Nat) : Int)) ++ nbL ((C.length : Nat) : Int)) ++ nbL ((A.length : Nat) : Int)) ++ [adV gF bg n / 16777216 % 256]) ++ [adV gF bg n / 65536 % 256]) ++ [adV gF bg n / 256 % 256]) ++ [adV gF bg n % 256]) ++ D := by rw [et0, rep_sub hpr.1]
          have hz0 := hr0
          rw [hs0] at hz0
          refine G_iinc_z hX (lv' := [(7, .int (zI (0 + 1))), (0, .ref (eA E 61)), (8, .int (zI t0))]) 1 rfl (by decide) rfl d_Mo_writeWindow_234 ?_
          refine G_goto hX (tgt := 189) d_Mo_writeWindow_237 rfl ?_
          refine G_iload hX 0 rfl d_Mo_writeWindow_189 ?_
          refine G_iconst hX d_Mo_writeWindow_191 ?_
          refine G_icmp_ge_z hX (tgt := 240) d_Mo_writeWindow_192 rfl (by omega) (fun c555 => by exfalso; omega) (fun c556 => ?_)
          refine G_iconst hX d_Mo_writeWindow_195 ?_
          refine G_istore hX (lv' := [(8, .int (zI 0)), (7, .int (zI (0 + 1))), (0, .ref (eA E 61))]) (by decide) rfl d_Mo_writeWindow_196 ?_
          have loop560 : ∀ (q : Nat) (t1 : Int) (nd1 : Int) (dr1 : Int → Int) (F557 : Nat → Value) (f561 : Nat → va_E), ((C.length : Int) - t1).toNat < q → (0 ≤ t1 ∧ t1 ≤ (C.length : Int)) → (rep dr1 nd1 (((((((((((((L ++ [0 + 4]) ++ nbL ((((hdL n 1 (adV gF bg n) (D.length : Int) (C.length : Int) (A.length : Int))).length : Int) + (D.length : Int) + (C.length : Int) + (A.length : Int))) ++ nbL n) ++ [0]) ++ nbL ((D.length : Nat) : Int)) ++ nbL ((C.length : Nat) : Int)) ++ nbL ((A.length : Nat) : Int)) ++ [adV gF bg n / 16777216 % 256]) ++ [adV gF bg n / 65536 % 256]) ++ [adV gF bg n / 256 % 256]) ++ [adV gF bg n % 256]) ++ D) ++ sl (fun k => pt (1000 + k)) 0 t1.toNat)) → (F557 21 = .int (zI nd1)) → (FrF [21] F541 F557) → f561 75 = iz E 3000 dr1 → f561 61 = mob F557 → Fr [75, 61] f545 f561 → G E X 0 0 198 [(0, .ref (eA E 61)), (7, .int (zI (0 + 1))), (8, .int (zI t1))] [] (wl E f561) := by
            intro q
            induction q with
            | zero => intro t1 nd1 dr1 F557 f561 hms563; exact absurd hms563 (Nat.not_lt_zero _)
            | succ q ih564 =>
              intro t1 nd1 dr1 F557 f561 hms563 ht1 hr1 h558 k559 h565 h566 k562
              refine G_iload hX 2 rfl d_Mo_writeWindow_198 ?_
              refine G_aload_n hX 0 rfl rfl d_Mo_writeWindow_200 ?_
              have h567 : F557 23 = .ref (eA E 76) := (k559 23 (by decide)).trans h551
              refine M_get hX fg_Mo_124 d_Mo_writeWindow_201 h566 (by decide) h567 ?_
              refine G_iload hX 1 rfl d_Mo_writeWindow_204 ?_
              have h568 : f561 76 = iz E 3 ps := (k562 76 (by decide)).trans h552
              refine F_iald hX d_Mo_writeWindow_206 76 (by decide) h568 (by omega) ?_
              refine G_top (show zI (ps (0 + 1)) = zI ((C.length : Nat) : Int) from congrArg zI hpr.2.1.1) ?_
              refine G_icmp_ge_z hX (tgt := 234) d_Mo_writeWindow_207 rfl (by omega) (fun c569 => ?_) (fun c570 => ?_)
              · skip
                have et1 : t1 = (C.length : Int) := by omega
                have hs1 : ((((((((((((L ++ [0 + 4]) ++ nbL ((((hdL n 1 (adV gF bg n) (D.length : Int) (C.length : Int) (A.length : Int))).length : Int) + (D.length : Int) + (C.length : Int) + (A.length : Int))) ++ nbL n) ++ [0]) ++ nbL ((D.length : Nat) : Int)) ++ nbL ((C.length : Nat) : Int)) ++ nbL ((A.length : Nat) : Int)) ++ [adV gF bg n / 16777216 % 256]) ++ [adV gF bg n / 65536 % 256]) ++ [adV gF bg n / 256 % 256]) ++ [adV gF bg n % 256]) ++ D) ++ sl (fun k => pt (1000 + k)) 0 t1.toNat = ((((((((((((L ++ [0 + 4]) ++ nbL ((((hdL n 1 (adV gF bg n) (D.length : Int) (C.length : Int) (A.length : Int))).length : Int) + (D.length : Int) + (C.length : Int) + (A.length : Int))) ++ nbL n) ++ [0]) ++ nbL ((D.length : Nat) : Int)) ++ nbL ((C.length : Nat) : Int)) ++ nbL ((A.length : Nat) : Int)) ++ [adV gF bg n / 16777216 % 256]) ++ [adV gF bg n / 65536 % 256]) ++ [adV gF bg n / 256 % 256]) ++ [adV gF bg n % 256]) ++ D) ++ C := by rw [et1, rep_sub hpr.2.1]
                have hz1 := hr1
                rw [hs1] at hz1
                refine G_iinc_z hX (lv' := [(7, .int (zI ((0 + 1) + 1))), (0, .ref (eA E 61)), (8, .int (zI t1))]) 1 rfl (by decide) rfl d_Mo_writeWindow_234 ?_
                refine G_goto hX (tgt := 189) d_Mo_writeWindow_237 rfl ?_
                refine G_iload hX 0 rfl d_Mo_writeWindow_189 ?_
                refine G_iconst hX d_Mo_writeWindow_191 ?_
                refine G_icmp_ge_z hX (tgt := 240) d_Mo_writeWindow_192 rfl (by omega) (fun c571 => by exfalso; omega) (fun c572 => ?_)
                refine G_iconst hX d_Mo_writeWindow_195 ?_
                refine G_istore hX (lv' := [(8, .int (zI 0)), (7, .int (zI ((0 + 1) + 1))), (0, .ref (eA E 61))]) (by decide) rfl d_Mo_writeWindow_196 ?_
                have loop576 : ∀ (q : Nat) (t2 : Int) (nd2 : Int) (dr2 : Int → Int) (F573 : Nat → Value) (f577 : Nat → va_E), ((A.length : Int) - t2).toNat < q → (0 ≤ t2 ∧ t2 ≤ (A.length : Int)) → (rep dr2 nd2 ((((((((((((((L ++ [0 + 4]) ++ nbL ((((hdL n 1 (adV gF bg n) (D.length : Int) (C.length : Int) (A.length : Int))).length : Int) + (D.length : Int) + (C.length : Int) + (A.length : Int))) ++ nbL n) ++ [0]) ++ nbL ((D.length : Nat) : Int)) ++ nbL ((C.length : Nat) : Int)) ++ nbL ((A.length : Nat) : Int)) ++ [adV gF bg n / 16777216 % 256]) ++ [adV gF bg n / 65536 % 256]) ++ [adV gF bg n / 256 % 256]) ++ [adV gF bg n % 256]) ++ D) ++ C) ++ sl (fun k => pt (2000 + k)) 0 t2.toNat)) → (F573 21 = .int (zI nd2)) → (FrF [21] F557 F573) → f577 75 = iz E 3000 dr2 → f577 61 = mob F573 → Fr [75, 61] f561 f577 → G E X 0 0 198 [(0, .ref (eA E 61)), (7, .int (zI ((0 + 1) + 1))), (8, .int (zI t2))] [] (wl E f577) := by
                  intro q
                  induction q with
                  | zero => intro t2 nd2 dr2 F573 f577 hms579; exact absurd hms579 (Nat.not_lt_zero _)
                  | succ q ih580 =>
                    intro t2 nd2 dr2 F573 f577 hms579 ht2 hr2 h574 k575 h581 h582 k578
                    refine G_iload hX 2 rfl d_Mo_writeWindow_198 ?_
                    refine G_aload_n hX 0 rfl rfl d_Mo_writeWindow_200 ?_
                    have h583 : F573 23 = .ref (eA E 76) := (k575 23 (by decide)).trans h567
                    refine M_get hX fg_Mo_124 d_Mo_writeWindow_201 h582 (by decide) h583 ?_
                    refine G_iload hX 1 rfl d_Mo_writeWindow_204 ?_
                    have h584 : f577 76 = iz E 3 ps := (k578 76 (by decide)).trans h568
                    refine F_iald hX d_Mo_writeWindow_206 76 (by decide) h584 (by omega) ?_
                    refine G_top (show zI (ps ((0 + 1) + 1)) = zI ((A.length : Nat) : Int) from congrArg zI hpr.2.2.1) ?_
                    refine G_icmp_ge_z hX (tgt := 234) d_Mo_writeWindow_207 rfl (by omega) (fun c585 => ?_) (fun c586 => ?_)
                    · skip
                      have et2 : t2 = (A.length : Int) := by omega
                      have hs2 : (((((((((((((L ++ [0 + 4]) ++ nbL ((((hdL n 1 (adV gF bg n) (D.length : Int) (C.length : Int) (A.length : Int))).length : Int) + (D.length : Int) + (C.length : Int) + (A.length : Int))) ++ nbL n) ++ [0]) ++ nbL ((D.length : Nat) : Int)) ++ nbL ((C.length : Nat) : Int)) ++ nbL ((A.length : Nat) : Int)) ++ [adV gF bg n / 16777216 % 256]) ++ [adV gF bg n / 65536 % 256]) ++ [adV gF bg n / 256 % 256]) ++ [adV gF bg n % 256]) ++ D) ++ C) ++ sl (fun k => pt (2000 + k)) 0 t2.toNat = (((((((((((((L ++ [0 + 4]) ++ nbL ((((hdL n 1 (adV gF bg n) (D.length : Int) (C.length : Int) (A.length : Int))).length : Int) + (D.length : Int) + (C.length : Int) + (A.length : Int))) ++ nbL n) ++ [0]) ++ nbL ((D.length : Nat) : Int)) ++ nbL ((C.length : Nat) : Int)) ++ nbL ((A.length : Nat) : Int)) ++ [adV gF bg n / 16777216 % 256]) ++ [adV gF bg n / 65536 % 256]) ++ [adV gF bg n / 256 % 256]) ++ [adV gF bg n % 256]) ++ D) ++ C) ++ A := by rw [et2, rep_sub hpr.2.2]
                      have hz2 := hr2
                      rw [hs2] at hz2
                      refine G_iinc_z hX (lv' := [(7, .int (zI (((0 + 1) + 1) + 1))), (0, .ref (eA E 61)), (8, .int (zI t2))]) 1 rfl (by decide) rfl d_Mo_writeWindow_234 ?_
                      refine G_goto hX (tgt := 189) d_Mo_writeWindow_237 rfl ?_
                      refine G_iload hX 0 rfl d_Mo_writeWindow_189 ?_
                      refine G_iconst hX d_Mo_writeWindow_191 ?_
                      refine G_icmp_ge_z hX (tgt := 240) d_Mo_writeWindow_192 rfl (by omega) (fun c587 => ?_) (fun c588 => by exfalso; omega)
                      have ews : wsL s 1 = [0 + 4] := by unfold wsL; rw [if_neg hsp, if_neg hsp, List.append_nil, if_neg (by decide)]
                      have eal : ∀ Z : List Int, (hdL n 1 (adV gF bg n) (D.length : Int) (C.length : Int) (A.length : Int)) ++ Z = (nbL n ++ ([0] ++ (nbL (D.length : Int) ++ (nbL (C.length : Int) ++ (nbL (A.length : Int) ++ [adV gF bg n / 16777216 % 256, adV gF bg n / 65536 % 256, adV gF bg n / 256 % 256, adV gF bg n % 256]))))) ++ Z := fun Z => by rw [hd1]
                      exact F_vret hX hE d_Mo_writeWindow_240 ⟨rfl, F573, _, _, h582, h574, (FrF.tr (FrF.tr (FrF.tr (FrF.tr (FrF.tr (FrF.tr (FrF.tr (FrF.tr (FrF.tr (FrF.tr (FrF.tr (FrF.tr (FrF.tr (FrF.tr FrF.rf k346 (by decide)) k390 (by decide)) k402 (by decide)) k414 (by decide)) k430 (by decide)) k446 (by decide)) k462 (by decide)) k485 (by decide)) k501 (by decide)) k517 (by decide)) k533 (by decide)) k543 (by decide)) k559 (by decide)) k575 (by decide)), h581, (by rw [ews, eal]; simpa only [List.append_assoc, List.cons_append, List.nil_append] using hz2), (Fr.tr (Fr.tr (Fr.tr (Fr.tr (Fr.tr (Fr.tr (Fr.tr (Fr.tr (Fr.tr (Fr.tr (Fr.tr (Fr.tr (Fr.tr (Fr.tr Fr.rf k349 (by decide)) k393 (by decide)) k405 (by decide)) k417 (by decide)) k433 (by decide)) k449 (by decide)) k465 (by decide)) k488 (by decide)) k504 (by decide)) k520 (by decide)) k536 (by decide)) k546 (by decide)) k562 (by decide)) k578 (by decide))⟩
                    · skip
                      refine G_aload_n hX 0 rfl rfl d_Mo_writeWindow_210 ?_
                      refine G_aload_n hX 0 rfl rfl d_Mo_writeWindow_211 ?_
                      have h589 : F573 24 = .ref (eA E 77) := (k575 24 (by decide)).trans ((k559 24 (by decide)).trans ((k543 24 (by decide)).trans ((k533 24 (by decide)).trans ((k517 24 (by decide)).trans ((k501 24 (by decide)).trans ((k485 24 (by decide)).trans ((k462 24 (by decide)).trans ((k446 24 (by decide)).trans ((k430 24 (by decide)).trans ((k414 24 (by decide)).trans ((k402 24 (by decide)).trans ((k390 24 (by decide)).trans ((k346 24 (by decide)).trans (hmk 24 77 (by decide)))))))))))))))
                      refine M_get hX fg_Mo_127 d_Mo_writeWindow_212 h582 (by decide) h589 ?_
                      refine G_sipush hX (by decide) d_Mo_writeWindow_215 ?_
                      refine G_iload hX 1 rfl d_Mo_writeWindow_218 ?_
                      refine G_imul_z hX d_Mo_writeWindow_220 ?_
                      refine G_iload hX 2 rfl d_Mo_writeWindow_221 ?_
                      refine G_iadd_z hX d_Mo_writeWindow_223 ?_
                      have h590 : f577 77 = iz E 3000 pt := (k578 77 (by decide)).trans ((k562 77 (by decide)).trans ((k546 77 (by decide)).trans ((k536 77 (by decide)).trans ((k520 77 (by decide)).trans ((k504 77 (by decide)).trans ((k488 77 (by decide)).trans ((k465 77 (by decide)).trans ((k449 77 (by decide)).trans ((k433 77 (by decide)).trans ((k417 77 (by decide)).trans ((k405 77 (by decide)).trans ((k393 77 (by decide)).trans ((k349 77 (by decide)).trans hc77)))))))))))))
                      refine F_iald hX d_Mo_writeWindow_224 77 (by decide) h590 (by omega) ?_
                      refine G_top (show zI (pt ((1000 * ((0 + 1) + 1)) + t2)) = zI (pt (2000 + (0 + t2))) from congrArg (fun z => zI (pt z)) (by omega)) ?_
                      refine F_callV hX (st := []) (c_Mo_write E f577 F573 (pt (2000 + (0 + t2))) nd2 dr2 ((((((((((((((L ++ [0 + 4]) ++ nbL ((((hdL n 1 (adV gF bg n) (D.length : Int) (C.length : Int) (A.length : Int))).length : Int) + (D.length : Int) + (C.length : Int) + (A.length : Int))) ++ nbL n) ++ [0]) ++ nbL ((D.length : Nat) : Int)) ++ nbL ((C.length : Nat) : Int)) ++ nbL ((A.length : Nat) : Int)) ++ [adV gF bg n / 16777216 % 256]) ++ [adV gF bg n / 65536 % 256]) ++ [adV gF bg n / 256 % 256]) ++ [adV gF bg n % 256]) ++ D) ++ C) ++ sl (fun k => pt (2000 + k)) 0 t2.toNat) h582 (moK_fr hmk (FrF.tr (FrF.tr (FrF.tr (FrF.tr (FrF.tr (FrF.tr (FrF.tr (FrF.tr (FrF.tr (FrF.tr (FrF.tr (FrF.tr (FrF.tr (FrF.tr (FrF.rf (S := [21])) k346 (by decide)) k390 (by decide)) k402 (by decide)) k414 (by decide)) k430 (by decide)) k446 (by decide)) k462 (by decide)) k485 (by decide)) k501 (by decide)) k517 (by decide)) k533 (by decide)) k543 (by decide)) k559 (by decide)) k575 (by decide)) (by decide)) h574 h581 hr2 (by simp only [List.length_append, List.length_cons, List.length_nil, sl_len]; omega)) cm_Mo_write im_Mo_write se_Mo_write rfl ml_Mo_298 d_Mo_writeWindow_225 (by decide) h582 rfl rfl (Nat.le_of_ble_eq_true rfl) (by decide) ?_
                      rintro _ f591 ⟨rfl, F594, nd'_595, dr'_596, h597, h598, k599, h600, p601, k602⟩
                      refine G_cast (st' := []) ?_ rfl rfl rfl rfl
                      refine G_iinc_z hX (lv' := [(8, .int (zI (t2 + 1))), (0, .ref (eA E 61)), (7, .int (zI ((0 + 1) + 1)))]) 2 rfl (by decide) rfl d_Mo_writeWindow_228 ?_
                      refine G_goto hX (tgt := 198) d_Mo_writeWindow_231 rfl ?_
                      refine G_loc (lv' := [(0, .ref (eA E 61)), (7, .int (zI ((0 + 1) + 1))), (8, .int (zI (t2 + 1)))]) [1, 2, 0] rfl ?_
                      exact ih580 (t2 + 1) nd'_595 dr'_596 F594 f591 (by omega) (by omega) (by rw [sl_s (fun k => pt (2000 + k)) 0 ht2.1, ← List.append_assoc]; exact p601) h598 (FrF.tr (FrF.tr FrF.rf k575 (by decide)) k599 (by decide)) h600 h597 (Fr.tr (Fr.tr Fr.rf k578 (by decide)) k602 (by decide))
                refine G_loc (lv' := [(0, .ref (eA E 61)), (7, .int (zI ((0 + 1) + 1))), (8, .int (zI 0))]) [2, 1, 0] rfl ?_
                exact loop576 (_ + 1) 0 nd1 dr1 F557 f561 (Nat.lt_succ_self _) (by omega) (by rw [show sl (fun k => pt (2000 + k)) 0 (0 : Int).toNat = [] from rfl, List.append_nil]; exact hz1) h558 FrF.rf h565 h566 Fr.rf
              · skip
                refine G_aload_n hX 0 rfl rfl d_Mo_writeWindow_210 ?_
                refine G_aload_n hX 0 rfl rfl d_Mo_writeWindow_211 ?_
                have h603 : F557 24 = .ref (eA E 77) := (k559 24 (by decide)).trans ((k543 24 (by decide)).trans ((k533 24 (by decide)).trans ((k517 24 (by decide)).trans ((k501 24 (by decide)).trans ((k485 24 (by decide)).trans ((k462 24 (by decide)).trans ((k446 24 (by decide)).trans ((k430 24 (by decide)).trans ((k414 24 (by decide)).trans ((k402 24 (by decide)).trans ((k390 24 (by decide)).trans ((k346 24 (by decide)).trans (hmk 24 77 (by decide))))))))))))))
                refine M_get hX fg_Mo_127 d_Mo_writeWindow_212 h566 (by decide) h603 ?_
                refine G_sipush hX (by decide) d_Mo_writeWindow_215 ?_
                refine G_iload hX 1 rfl d_Mo_writeWindow_218 ?_
                refine G_imul_z hX d_Mo_writeWindow_220 ?_
                refine G_iload hX 2 rfl d_Mo_writeWindow_221 ?_
                refine G_iadd_z hX d_Mo_writeWindow_223 ?_
                have h604 : f561 77 = iz E 3000 pt := (k562 77 (by decide)).trans ((k546 77 (by decide)).trans ((k536 77 (by decide)).trans ((k520 77 (by decide)).trans ((k504 77 (by decide)).trans ((k488 77 (by decide)).trans ((k465 77 (by decide)).trans ((k449 77 (by decide)).trans ((k433 77 (by decide)).trans ((k417 77 (by decide)).trans ((k405 77 (by decide)).trans ((k393 77 (by decide)).trans ((k349 77 (by decide)).trans hc77))))))))))))
                refine F_iald hX d_Mo_writeWindow_224 77 (by decide) h604 (by omega) ?_
                refine G_top (show zI (pt ((1000 * (0 + 1)) + t1)) = zI (pt (1000 + (0 + t1))) from congrArg (fun z => zI (pt z)) (by omega)) ?_
                refine F_callV hX (st := []) (c_Mo_write E f561 F557 (pt (1000 + (0 + t1))) nd1 dr1 (((((((((((((L ++ [0 + 4]) ++ nbL ((((hdL n 1 (adV gF bg n) (D.length : Int) (C.length : Int) (A.length : Int))).length : Int) + (D.length : Int) + (C.length : Int) + (A.length : Int))) ++ nbL n) ++ [0]) ++ nbL ((D.length : Nat) : Int)) ++ nbL ((C.length : Nat) : Int)) ++ nbL ((A.length : Nat) : Int)) ++ [adV gF bg n / 16777216 % 256]) ++ [adV gF bg n / 65536 % 256]) ++ [adV gF bg n / 256 % 256]) ++ [adV gF bg n % 256]) ++ D) ++ sl (fun k => pt (1000 + k)) 0 t1.toNat) h566 (moK_fr hmk (FrF.tr (FrF.tr (FrF.tr (FrF.tr (FrF.tr (FrF.tr (FrF.tr (FrF.tr (FrF.tr (FrF.tr (FrF.tr (FrF.tr (FrF.tr (FrF.rf (S := [21])) k346 (by decide)) k390 (by decide)) k402 (by decide)) k414 (by decide)) k430 (by decide)) k446 (by decide)) k462 (by decide)) k485 (by decide)) k501 (by decide)) k517 (by decide)) k533 (by decide)) k543 (by decide)) k559 (by decide)) (by decide)) h558 h565 hr1 (by simp only [List.length_append, List.length_cons, List.length_nil, sl_len]; omega)) cm_Mo_write im_Mo_write se_Mo_write rfl ml_Mo_298 d_Mo_writeWindow_225 (by decide) h566 rfl rfl (Nat.le_of_ble_eq_true rfl) (by decide) ?_
                rintro _ f605 ⟨rfl, F608, nd'_609, dr'_610, h611, h612, k613, h614, p615, k616⟩
                refine G_cast (st' := []) ?_ rfl rfl rfl rfl
                refine G_iinc_z hX (lv' := [(8, .int (zI (t1 + 1))), (0, .ref (eA E 61)), (7, .int (zI (0 + 1)))]) 2 rfl (by decide) rfl d_Mo_writeWindow_228 ?_
                refine G_goto hX (tgt := 198) d_Mo_writeWindow_231 rfl ?_
                refine G_loc (lv' := [(0, .ref (eA E 61)), (7, .int (zI (0 + 1))), (8, .int (zI (t1 + 1)))]) [1, 2, 0] rfl ?_
                exact ih564 (t1 + 1) nd'_609 dr'_610 F608 f605 (by omega) (by omega) (by rw [sl_s (fun k => pt (1000 + k)) 0 ht1.1, ← List.append_assoc]; exact p615) h612 (FrF.tr (FrF.tr FrF.rf k559 (by decide)) k613 (by decide)) h614 h611 (Fr.tr (Fr.tr Fr.rf k562 (by decide)) k616 (by decide))
          refine G_loc (lv' := [(0, .ref (eA E 61)), (7, .int (zI (0 + 1))), (8, .int (zI 0))]) [2, 1, 0] rfl ?_
          exact loop560 (_ + 1) 0 nd0 dr0 F541 f545 (Nat.lt_succ_self _) (by omega) (by rw [show sl (fun k => pt (1000 + k)) 0 (0 : Int).toNat = [] from rfl, List.append_nil]; exact hz0) h542 FrF.rf h549 h550 Fr.rf
        · skip
          refine G_aload_n hX 0 rfl rfl d_Mo_writeWindow_210 ?_
          refine G_aload_n hX 0 rfl rfl d_Mo_writeWindow_211 ?_
          have h617 : F541 24 = .ref (eA E 77) := (k543 24 (by decide)).trans ((k533 24 (by decide)).trans ((k517 24 (by decide)).trans ((k501 24 (by decide)).trans ((k485 24 (by decide)).trans ((k462 24 (by decide)).trans ((k446 24 (by decide)).trans ((k430 24 (by decide)).trans ((k414 24 (by decide)).trans ((k402 24 (by decide)).trans ((k390 24 (by decide)).trans ((k346 24 (by decide)).trans (hmk 24 77 (by decide)))))))))))))
          refine M_get hX fg_Mo_127 d_Mo_writeWindow_212 h550 (by decide) h617 ?_
          refine G_sipush hX (by decide) d_Mo_writeWindow_215 ?_
          refine G_iload hX 1 rfl d_Mo_writeWindow_218 ?_
          refine G_imul_z hX d_Mo_writeWindow_220 ?_
          refine G_iload hX 2 rfl d_Mo_writeWindow_221 ?_
          refine G_iadd_z hX d_Mo_writeWindow_223 ?_
          have h618 : f545 77 = iz E 3000 pt := (k546 77 (by decide)).trans ((k536 77 (by decide)).trans ((k520 77 (by decide)).trans ((k504 77 (by decide)).trans ((k488 77 (by decide)).trans ((k465 77 (by decide)).trans ((k449 77 (by decide)).trans ((k433 77 (by decide)).trans ((k417 77 (by decide)).trans ((k405 77 (by decide)).trans ((k393 77 (by decide)).trans ((k349 77 (by decide)).trans hc77)))))))))))
          refine F_iald hX d_Mo_writeWindow_224 77 (by decide) h618 (by omega) ?_
          refine G_top (show zI (pt ((1000 * 0) + t0)) = zI (pt (0 + (0 + t0))) from congrArg (fun z => zI (pt z)) (by omega)) ?_
          refine F_callV hX (st := []) (c_Mo_write E f545 F541 (pt (0 + (0 + t0))) nd0 dr0 ((((((((((((L ++ [0 + 4]) ++ nbL ((((hdL n 1 (adV gF bg n) (D.length : Int) (C.length : Int) (A.length : Int))).length : Int) + (D.length : Int) + (C.length : Int) + (A.length : Int))) ++ nbL n) ++ [0]) ++ nbL ((D.length : Nat) : Int)) ++ nbL ((C.length : Nat) : Int)) ++ nbL ((A.length : Nat) : Int)) ++ [adV gF bg n / 16777216 % 256]) ++ [adV gF bg n / 65536 % 256]) ++ [adV gF bg n / 256 % 256]) ++ [adV gF bg n % 256]) ++ sl (fun k => pt (0 + k)) 0 t0.toNat) h550 (moK_fr hmk (FrF.tr (FrF.tr (FrF.tr (FrF.tr (FrF.tr (FrF.tr (FrF.tr (FrF.tr (FrF.tr (FrF.tr (FrF.tr (FrF.tr (FrF.rf (S := [21])) k346 (by decide)) k390 (by decide)) k402 (by decide)) k414 (by decide)) k430 (by decide)) k446 (by decide)) k462 (by decide)) k485 (by decide)) k501 (by decide)) k517 (by decide)) k533 (by decide)) k543 (by decide)) (by decide)) h542 h549 hr0 (by simp only [List.length_append, List.length_cons, List.length_nil, sl_len]; omega)) cm_Mo_write im_Mo_write se_Mo_write rfl ml_Mo_298 d_Mo_writeWindow_225 (by decide) h550 rfl rfl (Nat.le_of_ble_eq_true rfl) (by decide) ?_
          rintro _ f619 ⟨rfl, F622, nd'_623, dr'_624, h625, h626, k627, h628, p629, k630⟩
          refine G_cast (st' := []) ?_ rfl rfl rfl rfl
          refine G_iinc_z hX (lv' := [(8, .int (zI (t0 + 1))), (0, .ref (eA E 61)), (7, .int (zI 0))]) 2 rfl (by decide) rfl d_Mo_writeWindow_228 ?_
          refine G_goto hX (tgt := 198) d_Mo_writeWindow_231 rfl ?_
          refine G_loc (lv' := [(0, .ref (eA E 61)), (7, .int (zI 0)), (8, .int (zI (t0 + 1)))]) [1, 2, 0] rfl ?_
          exact ih548 (t0 + 1) nd'_623 dr'_624 F622 f619 (by omega) (by omega) (by rw [sl_s (fun k => pt (0 + k)) 0 ht0.1, ← List.append_assoc]; exact p629) h626 (FrF.tr (FrF.tr FrF.rf k543 (by decide)) k627 (by decide)) h628 h625 (Fr.tr (Fr.tr Fr.rf k546 (by decide)) k630 (by decide))
    refine G_loc (lv' := [(0, .ref (eA E 61)), (7, .int (zI 0)), (8, .int (zI 0))]) [4, 1, 0] rfl ?_
    exact loop544 (_ + 1) 0 nd'_529 dr'_530 F528 f525 (Nat.lt_succ_self _) (by omega) (by rw [show sl (fun k => pt (0 + k)) 0 (0 : Int).toNat = [] from rfl, List.append_nil]; exact p535) h532 FrF.rf h534 h531 Fr.rf
