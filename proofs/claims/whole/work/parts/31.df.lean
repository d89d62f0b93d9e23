/-! DeltaFerry: copy, clear, size, at, digest, sum, sign, begin, instruction; printed by wip/tools/m_df2.py -/
theorem c_Df_copy_00 (E : EV) (f : Nat → va_E) (bk wi ns : Int) (n1 n2 : Int64) (g : Int → Int) (c : Int) (hF : isDf E f bk wi ns n1 n2) (hR : isR E f 2 3 300 g c) (hc : 0 ≤ c ∧ c ≤ 300) (hle : c ≤ 300) : CF yn_Df_copy cd_Df_copy 3 (some (.boolean)) 3 E [.ref (eA E 0), .int (zI 0), .int (zI 0)] f (fun r f' => r = some (.int (zI 1)) ∧ isR E f' 2 3 300 (cz g g 0 0 c) c ∧ Fr [2, 3] f f') := by
  refine CF.of (by decide +kernel) (Nat.le_of_ble_eq_true rfl) fun X hX hE => ?_
  have hX : Ok E X "DeltaFerry" "copy" cd_Df_copy 3 (some (.boolean)) (rl 3) := hX
  refine G_cast (lv' := [(0, .ref (eA E 0)), (1, .int (zI 0)), (2, .int (zI 0))]) ?_ rfl rfl rfl rfl
  refine G_iload_n hX 1 rfl rfl d_Df_copy_0 ?_
  refine F_callS hX (st := []) (c_Df_isFile E f (0) (by omega)) cm_Df_isFile sm_Df_isFile ml_Df_98 d_Df_copy_1 rfl rfl (Nat.le_of_ble_eq_true rfl) (by decide) ?_
  rintro _ f1 ⟨rfl, e4⟩
  obtain rfl := e4.symm
  refine G_cast (st' := [.int (zI (if 0 ≤ (0 : Int) ∧ (0 : Int) ≤ 3 then 1 else 0))]) ?_ rfl rfl rfl rfl
  refine G_top (show zI (if 0 ≤ (0 : Int) ∧ (0 : Int) ≤ 3 then 1 else 0) = zI 1 from by rw [if_pos (by omega)]) ?_
  refine G_if_eq_z hX (tgt := 36) d_Df_copy_4 rfl (by omega) (fun c5 => by exfalso; omega) (fun c6 => ?_)
  refine G_iload_n hX 2 rfl rfl d_Df_copy_7 ?_
  refine F_callS hX (st := []) (c_Df_isWritable E f (0) (by omega)) cm_Df_isWritable sm_Df_isWritable ml_Df_77 d_Df_copy_8 rfl rfl (Nat.le_of_ble_eq_true rfl) (by decide) ?_
  rintro _ f7 ⟨rfl, e10⟩
  obtain rfl := e10.symm
  refine G_cast (st' := [.int (zI (if 0 ≤ (0 : Int) ∧ (0 : Int) ≤ 2 then 1 else 0))]) ?_ rfl rfl rfl rfl
  refine G_top (show zI (if 0 ≤ (0 : Int) ∧ (0 : Int) ≤ 2 then 1 else 0) = zI 1 from by rw [if_pos (by omega)]) ?_
  refine G_if_eq_z hX (tgt := 36) d_Df_copy_11 rfl (by omega) (fun c11 => by exfalso; omega) (fun c12 => ?_)
  refine G_aload_n hX 0 rfl rfl d_Df_copy_14 ?_
  refine F_get hX fg_Df_9 d_Df_copy_15 0 (by decide) hF.1 rfl ?_
  refine G_iload_n hX 1 rfl rfl d_Df_copy_18 ?_
  refine F_aald hX d_Df_copy_19 1 (by decide) hF.2 (by decide) (a := eA E 2) rfl ?_
  refine F_get hX fg_Df_101 d_Df_copy_20 2 (by decide) hR.1 rfl ?_
  refine G_aload_n hX 0 rfl rfl d_Df_copy_23 ?_
  refine F_get hX fg_Df_9 d_Df_copy_24 0 (by decide) hF.1 rfl ?_
  refine G_iload_n hX 2 rfl rfl d_Df_copy_27 ?_
  refine F_aald hX d_Df_copy_28 1 (by decide) hF.2 (by decide) (a := eA E 2) rfl ?_
  refine F_get hX fg_Df_94 d_Df_copy_29 2 (by decide) hR.1 rfl ?_
  refine F_alen hX d_Df_copy_32 3 (by decide) hR.2 ?_
  refine G_icmp_le_z hX (tgt := 38) d_Df_copy_33 rfl (by omega) (fun c13 => ?_) (fun c14 => by exfalso; omega)
  refine G_aload_n hX 0 rfl rfl d_Df_copy_38 ?_
  refine F_get hX fg_Df_9 d_Df_copy_39 0 (by decide) hF.1 rfl ?_
  refine G_iload_n hX 2 rfl rfl d_Df_copy_42 ?_
  refine F_aald hX d_Df_copy_43 1 (by decide) hF.2 (by decide) (a := eA E 2) rfl ?_
  refine G_aload_n hX 0 rfl rfl d_Df_copy_44 ?_
  refine F_get hX fg_Df_9 d_Df_copy_45 0 (by decide) hF.1 rfl ?_
  refine G_iload_n hX 1 rfl rfl d_Df_copy_48 ?_
  refine F_aald hX d_Df_copy_49 1 (by decide) hF.2 (by decide) (a := eA E 2) rfl ?_
  refine F_callV hX (st := []) (c_Ro_become_self E f 2 3 300 g c (by decide) (by decide) (by decide) ⟨hR.1, hR.2⟩ (by omega)) cm_Ro_become im_Ro_become se_Ro_become rfl ml_Df_104 d_Df_copy_50 (by decide) hR.1 rfl rfl (Nat.le_of_ble_eq_true rfl) (by decide) ?_
  rintro _ f15 ⟨rfl, ⟨h18, h19⟩, k20⟩
  refine G_cast (st' := []) ?_ rfl rfl rfl rfl
  refine G_aload_n hX 0 rfl rfl d_Df_copy_53 ?_
  refine G_iload_n hX 2 rfl rfl d_Df_copy_54 ?_
  have h21 : f15 0 = ob 11 [.ref (eA E 1), .ref (eA E 10), .ref (eA E 13), .ref (eA E 14), .ref (eA E 22), .ref (eA E 27), .ref (eA E 29), .ref (eA E 44), .int (zI bk), .int (zI wi), .int (zI ns), .long n1, .long n2] := (k20 0 (by decide)).trans hF.1
  have h22 : f15 1 = ra E 4 (fun j => some (eA E (2 + 2 * j))) := (k20 1 (by decide)).trans hF.2
  refine F_callV hX (st := []) (c_Df_giveUp_0 E f15 bk wi ns n1 n2 ⟨h21, h22⟩) cm_Df_giveUpPlanOf im_Df_giveUpPlanOf se_Df_giveUpPlanOf rfl ml_Df_88 d_Df_copy_55 (by decide) h21 rfl rfl (Nat.le_of_ble_eq_true rfl) (by decide) ?_
  rintro _ f23 ⟨rfl, e26⟩
  obtain rfl := e26.symm
  refine G_cast (st' := []) ?_ rfl rfl rfl rfl
  refine G_iconst hX d_Df_copy_58 ?_
  exact F_zret hX hE (by decide) d_Df_copy_59 ⟨rfl, ⟨h18, h19⟩, (Fr.tr Fr.rf k20 (by decide))⟩
theorem c_Df_copy_01 (E : EV) (f : Nat → va_E) (bk wi ns : Int) (n1 n2 : Int64) (g : Int → Int) (c : Int) (g0 : Int → Int) (c0 : Int) (P : PS) (md w s : Int) (hF : isDf E f bk wi ns n1 n2) (hR : isR E f 4 5 300 g c) (hc : 0 ≤ c ∧ c ≤ 300) (hO : isR E f 2 3 300 g0 c0) (hc0 : 0 ≤ c0 ∧ c0 ≤ 300) (hP : isPl E f P md w s) (hle : c0 ≤ 300) : CF yn_Df_copy cd_Df_copy 3 (some (.boolean)) 3 E [.ref (eA E 0), .int (zI 0), .int (zI 1)] f (fun r f' => r = some (.int (zI 1)) ∧ isR E f' 4 5 300 (cz g0 g 0 0 c0) c0 ∧ isPl E f' P 0 w s ∧ Fr [4, 5, 22] f f') := by
  refine CF.of (by decide +kernel) (Nat.le_of_ble_eq_true rfl) fun X hX hE => ?_
  have hX : Ok E X "DeltaFerry" "copy" cd_Df_copy 3 (some (.boolean)) (rl 3) := hX
  refine G_cast (lv' := [(0, .ref (eA E 0)), (1, .int (zI 0)), (2, .int (zI 1))]) ?_ rfl rfl rfl rfl
  refine G_iload_n hX 1 rfl rfl d_Df_copy_0 ?_
  refine F_callS hX (st := []) (c_Df_isFile E f (0) (by omega)) cm_Df_isFile sm_Df_isFile ml_Df_98 d_Df_copy_1 rfl rfl (Nat.le_of_ble_eq_true rfl) (by decide) ?_
  rintro _ f1 ⟨rfl, e4⟩
  obtain rfl := e4.symm
  refine G_cast (st' := [.int (zI (if 0 ≤ (0 : Int) ∧ (0 : Int) ≤ 3 then 1 else 0))]) ?_ rfl rfl rfl rfl
  refine G_top (show zI (if 0 ≤ (0 : Int) ∧ (0 : Int) ≤ 3 then 1 else 0) = zI 1 from by rw [if_pos (by omega)]) ?_
  refine G_if_eq_z hX (tgt := 36) d_Df_copy_4 rfl (by omega) (fun c5 => by exfalso; omega) (fun c6 => ?_)
  refine G_iload_n hX 2 rfl rfl d_Df_copy_7 ?_
  refine F_callS hX (st := []) (c_Df_isWritable E f (1) (by omega)) cm_Df_isWritable sm_Df_isWritable ml_Df_77 d_Df_copy_8 rfl rfl (Nat.le_of_ble_eq_true rfl) (by decide) ?_
  rintro _ f7 ⟨rfl, e10⟩
  obtain rfl := e10.symm
  refine G_cast (st' := [.int (zI (if 0 ≤ (1 : Int) ∧ (1 : Int) ≤ 2 then 1 else 0))]) ?_ rfl rfl rfl rfl
  refine G_top (show zI (if 0 ≤ (1 : Int) ∧ (1 : Int) ≤ 2 then 1 else 0) = zI 1 from by rw [if_pos (by omega)]) ?_
  refine G_if_eq_z hX (tgt := 36) d_Df_copy_11 rfl (by omega) (fun c11 => by exfalso; omega) (fun c12 => ?_)
  refine G_aload_n hX 0 rfl rfl d_Df_copy_14 ?_
  refine F_get hX fg_Df_9 d_Df_copy_15 0 (by decide) hF.1 rfl ?_
  refine G_iload_n hX 1 rfl rfl d_Df_copy_18 ?_
  refine F_aald hX d_Df_copy_19 1 (by decide) hF.2 (by decide) (a := eA E 2) rfl ?_
  refine F_get hX fg_Df_101 d_Df_copy_20 2 (by decide) hO.1 rfl ?_
  refine G_aload_n hX 0 rfl rfl d_Df_copy_23 ?_
  refine F_get hX fg_Df_9 d_Df_copy_24 0 (by decide) hF.1 rfl ?_
  refine G_iload_n hX 2 rfl rfl d_Df_copy_27 ?_
  refine F_aald hX d_Df_copy_28 1 (by decide) hF.2 (by decide) (a := eA E 4) rfl ?_
  refine F_get hX fg_Df_94 d_Df_copy_29 4 (by decide) hR.1 rfl ?_
  refine F_alen hX d_Df_copy_32 5 (by decide) hR.2 ?_
  refine G_icmp_le_z hX (tgt := 38) d_Df_copy_33 rfl (by omega) (fun c13 => ?_) (fun c14 => by exfalso; omega)
  refine G_aload_n hX 0 rfl rfl d_Df_copy_38 ?_
  refine F_get hX fg_Df_9 d_Df_copy_39 0 (by decide) hF.1 rfl ?_
  refine G_iload_n hX 2 rfl rfl d_Df_copy_42 ?_
  refine F_aald hX d_Df_copy_43 1 (by decide) hF.2 (by decide) (a := eA E 4) rfl ?_
  refine G_aload_n hX 0 rfl rfl d_Df_copy_44 ?_
  refine F_get hX fg_Df_9 d_Df_copy_45 0 (by decide) hF.1 rfl ?_
  refine G_iload_n hX 1 rfl rfl d_Df_copy_48 ?_
  refine F_aald hX d_Df_copy_49 1 (by decide) hF.2 (by decide) (a := eA E 2) rfl ?_
  refine F_callV hX (st := []) (c_Ro_become E f 4 5 300 g c 2 3 300 g0 c0 (by decide) (by decide) (by decide) ⟨hR.1, hR.2⟩ (by omega) (by decide) (by decide) (by decide) (by decide) ⟨hO.1, hO.2⟩ (by omega)) cm_Ro_become im_Ro_become se_Ro_become rfl ml_Df_104 d_Df_copy_50 (by decide) hR.1 rfl rfl (Nat.le_of_ble_eq_true rfl) (by decide) ?_
  rintro _ f15 ⟨rfl, ⟨h18, h19⟩, k20⟩
  refine G_cast (st' := []) ?_ rfl rfl rfl rfl
  refine G_aload_n hX 0 rfl rfl d_Df_copy_53 ?_
  refine G_iload_n hX 2 rfl rfl d_Df_copy_54 ?_
  have h21 : f15 0 = ob 11 [.ref (eA E 1), .ref (eA E 10), .ref (eA E 13), .ref (eA E 14), .ref (eA E 22), .ref (eA E 27), .ref (eA E 29), .ref (eA E 44), .int (zI bk), .int (zI wi), .int (zI ns), .long n1, .long n2] := (k20 0 (by decide)).trans hF.1
  have h22 : f15 1 = ra E 4 (fun j => some (eA E (2 + 2 * j))) := (k20 1 (by decide)).trans hF.2
  have h23 : f15 22 = ob 4 [.ref (eA E 23), .ref (eA E 24), .ref (eA E 25), .ref (eA E 26), .int (zI md), .int (zI (pC P)), .int (zI w), .int (zI s)] := (k20 22 (by decide)).trans hP.1
  have h24 : f15 23 = iz E 300 (pT P) := (k20 23 (by decide)).trans hP.2.1
  have h25 : f15 24 = iz E 300 (pS P) := (k20 24 (by decide)).trans hP.2.2.1
  have h26 : f15 25 = iz E 300 (pA P) := (k20 25 (by decide)).trans hP.2.2.2.1
  have h27 : f15 26 = iz E 300 (pN P) := (k20 26 (by decide)).trans hP.2.2.2.2
  refine F_callV hX (st := []) (c_Df_giveUp_1 E f15 bk wi ns n1 n2 P md w s ⟨h21, h22⟩ ⟨h23, h24, h25, h26, h27⟩) cm_Df_giveUpPlanOf im_Df_giveUpPlanOf se_Df_giveUpPlanOf rfl ml_Df_88 d_Df_copy_55 (by decide) h21 rfl rfl (Nat.le_of_ble_eq_true rfl) (by decide) ?_
  rintro _ f28 ⟨rfl, ⟨h31, h32, h33, h34, h35⟩, k36⟩
  refine G_cast (st' := []) ?_ rfl rfl rfl rfl
  refine G_iconst hX d_Df_copy_58 ?_
  have h37 : f28 4 = ob 6 [.ref (eA E 5), .int (zI c0)] := (k36 4 (by decide)).trans h18
  have h38 : f28 5 = iz E 300 (cz g0 g 0 0 c0) := (k36 5 (by decide)).trans h19
  exact F_zret hX hE (by decide) d_Df_copy_59 ⟨rfl, ⟨h37, h38⟩, ⟨h31, h32, h33, h34, h35⟩, (Fr.tr (Fr.tr Fr.rf k20 (by decide)) k36 (by decide))⟩
theorem c_Df_copy_02 (E : EV) (f : Nat → va_E) (bk wi ns : Int) (n1 n2 : Int64) (g : Int → Int) (c : Int) (g0 : Int → Int) (c0 : Int) (hF : isDf E f bk wi ns n1 n2) (hR : isR E f 6 7 700 g c) (hc : 0 ≤ c ∧ c ≤ 700) (hO : isR E f 2 3 300 g0 c0) (hc0 : 0 ≤ c0 ∧ c0 ≤ 300) (hle : c0 ≤ 700) : CF yn_Df_copy cd_Df_copy 3 (some (.boolean)) 3 E [.ref (eA E 0), .int (zI 0), .int (zI 2)] f (fun r f' => r = some (.int (zI 1)) ∧ isR E f' 6 7 700 (cz g0 g 0 0 c0) c0 ∧ Fr [6, 7] f f') := by
  refine CF.of (by decide +kernel) (Nat.le_of_ble_eq_true rfl) fun X hX hE => ?_
  have hX : Ok E X "DeltaFerry" "copy" cd_Df_copy 3 (some (.boolean)) (rl 3) := hX
  refine G_cast (lv' := [(0, .ref (eA E 0)), (1, .int (zI 0)), (2, .int (zI 2))]) ?_ rfl rfl rfl rfl
  refine G_iload_n hX 1 rfl rfl d_Df_copy_0 ?_
  refine F_callS hX (st := []) (c_Df_isFile E f (0) (by omega)) cm_Df_isFile sm_Df_isFile ml_Df_98 d_Df_copy_1 rfl rfl (Nat.le_of_ble_eq_true rfl) (by decide) ?_
  rintro _ f1 ⟨rfl, e4⟩
  obtain rfl := e4.symm
  refine G_cast (st' := [.int (zI (if 0 ≤ (0 : Int) ∧ (0 : Int) ≤ 3 then 1 else 0))]) ?_ rfl rfl rfl rfl
  refine G_top (show zI (if 0 ≤ (0 : Int) ∧ (0 : Int) ≤ 3 then 1 else 0) = zI 1 from by rw [if_pos (by omega)]) ?_
  refine G_if_eq_z hX (tgt := 36) d_Df_copy_4 rfl (by omega) (fun c5 => by exfalso; omega) (fun c6 => ?_)
  refine G_iload_n hX 2 rfl rfl d_Df_copy_7 ?_
  refine F_callS hX (st := []) (c_Df_isWritable E f (2) (by omega)) cm_Df_isWritable sm_Df_isWritable ml_Df_77 d_Df_copy_8 rfl rfl (Nat.le_of_ble_eq_true rfl) (by decide) ?_
  rintro _ f7 ⟨rfl, e10⟩
  obtain rfl := e10.symm
  refine G_cast (st' := [.int (zI (if 0 ≤ (2 : Int) ∧ (2 : Int) ≤ 2 then 1 else 0))]) ?_ rfl rfl rfl rfl
  refine G_top (show zI (if 0 ≤ (2 : Int) ∧ (2 : Int) ≤ 2 then 1 else 0) = zI 1 from by rw [if_pos (by omega)]) ?_
  refine G_if_eq_z hX (tgt := 36) d_Df_copy_11 rfl (by omega) (fun c11 => by exfalso; omega) (fun c12 => ?_)
  refine G_aload_n hX 0 rfl rfl d_Df_copy_14 ?_
  refine F_get hX fg_Df_9 d_Df_copy_15 0 (by decide) hF.1 rfl ?_
  refine G_iload_n hX 1 rfl rfl d_Df_copy_18 ?_
  refine F_aald hX d_Df_copy_19 1 (by decide) hF.2 (by decide) (a := eA E 2) rfl ?_
  refine F_get hX fg_Df_101 d_Df_copy_20 2 (by decide) hO.1 rfl ?_
  refine G_aload_n hX 0 rfl rfl d_Df_copy_23 ?_
  refine F_get hX fg_Df_9 d_Df_copy_24 0 (by decide) hF.1 rfl ?_
  refine G_iload_n hX 2 rfl rfl d_Df_copy_27 ?_
  refine F_aald hX d_Df_copy_28 1 (by decide) hF.2 (by decide) (a := eA E 6) rfl ?_
  refine F_get hX fg_Df_94 d_Df_copy_29 6 (by decide) hR.1 rfl ?_
  refine F_alen hX d_Df_copy_32 7 (by decide) hR.2 ?_
  refine G_icmp_le_z hX (tgt := 38) d_Df_copy_33 rfl (by omega) (fun c13 => ?_) (fun c14 => by exfalso; omega)
  refine G_aload_n hX 0 rfl rfl d_Df_copy_38 ?_
  refine F_get hX fg_Df_9 d_Df_copy_39 0 (by decide) hF.1 rfl ?_
  refine G_iload_n hX 2 rfl rfl d_Df_copy_42 ?_
  refine F_aald hX d_Df_copy_43 1 (by decide) hF.2 (by decide) (a := eA E 6) rfl ?_
  refine G_aload_n hX 0 rfl rfl d_Df_copy_44 ?_
  refine F_get hX fg_Df_9 d_Df_copy_45 0 (by decide) hF.1 rfl ?_
  refine G_iload_n hX 1 rfl rfl d_Df_copy_48 ?_
  refine F_aald hX d_Df_copy_49 1 (by decide) hF.2 (by decide) (a := eA E 2) rfl ?_
  refine F_callV hX (st := []) (c_Ro_become E f 6 7 700 g c 2 3 300 g0 c0 (by decide) (by decide) (by decide) ⟨hR.1, hR.2⟩ (by omega) (by decide) (by decide) (by decide) (by decide) ⟨hO.1, hO.2⟩ (by omega)) cm_Ro_become im_Ro_become se_Ro_become rfl ml_Df_104 d_Df_copy_50 (by decide) hR.1 rfl rfl (Nat.le_of_ble_eq_true rfl) (by decide) ?_
  rintro _ f15 ⟨rfl, ⟨h18, h19⟩, k20⟩
  refine G_cast (st' := []) ?_ rfl rfl rfl rfl
  refine G_aload_n hX 0 rfl rfl d_Df_copy_53 ?_
  refine G_iload_n hX 2 rfl rfl d_Df_copy_54 ?_
  have h21 : f15 0 = ob 11 [.ref (eA E 1), .ref (eA E 10), .ref (eA E 13), .ref (eA E 14), .ref (eA E 22), .ref (eA E 27), .ref (eA E 29), .ref (eA E 44), .int (zI bk), .int (zI wi), .int (zI ns), .long n1, .long n2] := (k20 0 (by decide)).trans hF.1
  have h22 : f15 1 = ra E 4 (fun j => some (eA E (2 + 2 * j))) := (k20 1 (by decide)).trans hF.2
  refine F_callV hX (st := []) (c_Df_giveUp_2 E f15 bk wi ns n1 n2 ⟨h21, h22⟩) cm_Df_giveUpPlanOf im_Df_giveUpPlanOf se_Df_giveUpPlanOf rfl ml_Df_88 d_Df_copy_55 (by decide) h21 rfl rfl (Nat.le_of_ble_eq_true rfl) (by decide) ?_
  rintro _ f23 ⟨rfl, e26⟩
  obtain rfl := e26.symm
  refine G_cast (st' := []) ?_ rfl rfl rfl rfl
  refine G_iconst hX d_Df_copy_58 ?_
  exact F_zret hX hE (by decide) d_Df_copy_59 ⟨rfl, ⟨h18, h19⟩, (Fr.tr Fr.rf k20 (by decide))⟩
theorem c_Df_copy_10 (E : EV) (f : Nat → va_E) (bk wi ns : Int) (n1 n2 : Int64) (g : Int → Int) (c : Int) (g0 : Int → Int) (c0 : Int) (hF : isDf E f bk wi ns n1 n2) (hR : isR E f 2 3 300 g c) (hc : 0 ≤ c ∧ c ≤ 300) (hO : isR E f 4 5 300 g0 c0) (hc0 : 0 ≤ c0 ∧ c0 ≤ 300) (hle : c0 ≤ 300) : CF yn_Df_copy cd_Df_copy 3 (some (.boolean)) 3 E [.ref (eA E 0), .int (zI 1), .int (zI 0)] f (fun r f' => r = some (.int (zI 1)) ∧ isR E f' 2 3 300 (cz g0 g 0 0 c0) c0 ∧ Fr [2, 3] f f') := by
  refine CF.of (by decide +kernel) (Nat.le_of_ble_eq_true rfl) fun X hX hE => ?_
  have hX : Ok E X "DeltaFerry" "copy" cd_Df_copy 3 (some (.boolean)) (rl 3) := hX
  refine G_cast (lv' := [(0, .ref (eA E 0)), (1, .int (zI 1)), (2, .int (zI 0))]) ?_ rfl rfl rfl rfl
  refine G_iload_n hX 1 rfl rfl d_Df_copy_0 ?_
  refine F_callS hX (st := []) (c_Df_isFile E f (1) (by omega)) cm_Df_isFile sm_Df_isFile ml_Df_98 d_Df_copy_1 rfl rfl (Nat.le_of_ble_eq_true rfl) (by decide) ?_
  rintro _ f1 ⟨rfl, e4⟩
  obtain rfl := e4.symm
  refine G_cast (st' := [.int (zI (if 0 ≤ (1 : Int) ∧ (1 : Int) ≤ 3 then 1 else 0))]) ?_ rfl rfl rfl rfl
  refine G_top (show zI (if 0 ≤ (1 : Int) ∧ (1 : Int) ≤ 3 then 1 else 0) = zI 1 from by rw [if_pos (by omega)]) ?_
  refine G_if_eq_z hX (tgt := 36) d_Df_copy_4 rfl (by omega) (fun c5 => by exfalso; omega) (fun c6 => ?_)
  refine G_iload_n hX 2 rfl rfl d_Df_copy_7 ?_
  refine F_callS hX (st := []) (c_Df_isWritable E f (0) (by omega)) cm_Df_isWritable sm_Df_isWritable ml_Df_77 d_Df_copy_8 rfl rfl (Nat.le_of_ble_eq_true rfl) (by decide) ?_
  rintro _ f7 ⟨rfl, e10⟩
  obtain rfl := e10.symm
  refine G_cast (st' := [.int (zI (if 0 ≤ (0 : Int) ∧ (0 : Int) ≤ 2 then 1 else 0))]) ?_ rfl rfl rfl rfl
  refine G_top (show zI (if 0 ≤ (0 : Int) ∧ (0 : Int) ≤ 2 then 1 else 0) = zI 1 from by rw [if_pos (by omega)]) ?_
  refine G_if_eq_z hX (tgt := 36) d_Df_copy_11 rfl (by omega) (fun c11 => by exfalso; omega) (fun c12 => ?_)
  refine G_aload_n hX 0 rfl rfl d_Df_copy_14 ?_
  refine F_get hX fg_Df_9 d_Df_copy_15 0 (by decide) hF.1 rfl ?_
  refine G_iload_n hX 1 rfl rfl d_Df_copy_18 ?_
  refine F_aald hX d_Df_copy_19 1 (by decide) hF.2 (by decide) (a := eA E 4) rfl ?_
  refine F_get hX fg_Df_101 d_Df_copy_20 4 (by decide) hO.1 rfl ?_
  refine G_aload_n hX 0 rfl rfl d_Df_copy_23 ?_
  refine F_get hX fg_Df_9 d_Df_copy_24 0 (by decide) hF.1 rfl ?_
  refine G_iload_n hX 2 rfl rfl d_Df_copy_27 ?_
  refine F_aald hX d_Df_copy_28 1 (by decide) hF.2 (by decide) (a := eA E 2) rfl ?_
  refine F_get hX fg_Df_94 d_Df_copy_29 2 (by decide) hR.1 rfl ?_
  refine F_alen hX d_Df_copy_32 3 (by decide) hR.2 ?_
  refine G_icmp_le_z hX (tgt := 38) d_Df_copy_33 rfl (by omega) (fun c13 => ?_) (fun c14 => by exfalso; omega)
  refine G_aload_n hX 0 rfl rfl d_Df_copy_38 ?_
  refine F_get hX fg_Df_9 d_Df_copy_39 0 (by decide) hF.1 rfl ?_
  refine G_iload_n hX 2 rfl rfl d_Df_copy_42 ?_
  refine F_aald hX d_Df_copy_43 1 (by decide) hF.2 (by decide) (a := eA E 2) rfl ?_
  refine G_aload_n hX 0 rfl rfl d_Df_copy_44 ?_
  refine F_get hX fg_Df_9 d_Df_copy_45 0 (by decide) hF.1 rfl ?_
  refine G_iload_n hX 1 rfl rfl d_Df_copy_48 ?_
  refine F_aald hX d_Df_copy_49 1 (by decide) hF.2 (by decide) (a := eA E 4) rfl ?_
  refine F_callV hX (st := []) (c_Ro_become E f 2 3 300 g c 4 5 300 g0 c0 (by decide) (by decide) (by decide) ⟨hR.1, hR.2⟩ (by omega) (by decide) (by decide) (by decide) (by decide) ⟨hO.1, hO.2⟩ (by omega)) cm_Ro_become im_Ro_become se_Ro_become rfl ml_Df_104 d_Df_copy_50 (by decide) hR.1 rfl rfl (Nat.le_of_ble_eq_true rfl) (by decide) ?_
  rintro _ f15 ⟨rfl, ⟨h18, h19⟩, k20⟩
  refine G_cast (st' := []) ?_ rfl rfl rfl rfl
  refine G_aload_n hX 0 rfl rfl d_Df_copy_53 ?_
  refine G_iload_n hX 2 rfl rfl d_Df_copy_54 ?_
  have h21 : f15 0 = ob 11 [.ref (eA E 1), .ref (eA E 10), .ref (eA E 13), .ref (eA E 14), .ref (eA E 22), .ref (eA E 27), .ref (eA E 29), .ref (eA E 44), .int (zI bk), .int (zI wi), .int (zI ns), .long n1, .long n2] := (k20 0 (by decide)).trans hF.1
  have h22 : f15 1 = ra E 4 (fun j => some (eA E (2 + 2 * j))) := (k20 1 (by decide)).trans hF.2
  refine F_callV hX (st := []) (c_Df_giveUp_0 E f15 bk wi ns n1 n2 ⟨h21, h22⟩) cm_Df_giveUpPlanOf im_Df_giveUpPlanOf se_Df_giveUpPlanOf rfl ml_Df_88 d_Df_copy_55 (by decide) h21 rfl rfl (Nat.le_of_ble_eq_true rfl) (by decide) ?_
  rintro _ f23 ⟨rfl, e26⟩
  obtain rfl := e26.symm
  refine G_cast (st' := []) ?_ rfl rfl rfl rfl
  refine G_iconst hX d_Df_copy_58 ?_
  exact F_zret hX hE (by decide) d_Df_copy_59 ⟨rfl, ⟨h18, h19⟩, (Fr.tr Fr.rf k20 (by decide))⟩
theorem c_Df_copy_11 (E : EV) (f : Nat → va_E) (bk wi ns : Int) (n1 n2 : Int64) (g : Int → Int) (c : Int) (P : PS) (md w s : Int) (hF : isDf E f bk wi ns n1 n2) (hR : isR E f 4 5 300 g c) (hc : 0 ≤ c ∧ c ≤ 300) (hP : isPl E f P md w s) (hle : c ≤ 300) : CF yn_Df_copy cd_Df_copy 3 (some (.boolean)) 3 E [.ref (eA E 0), .int (zI 1), .int (zI 1)] f (fun r f' => r = some (.int (zI 1)) ∧ isR E f' 4 5 300 (cz g g 0 0 c) c ∧ isPl E f' P 0 w s ∧ Fr [4, 5, 22] f f') := by
  refine CF.of (by decide +kernel) (Nat.le_of_ble_eq_true rfl) fun X hX hE => ?_
  have hX : Ok E X "DeltaFerry" "copy" cd_Df_copy 3 (some (.boolean)) (rl 3) := hX
  refine G_cast (lv' := [(0, .ref (eA E 0)), (1, .int (zI 1)), (2, .int (zI 1))]) ?_ rfl rfl rfl rfl
  refine G_iload_n hX 1 rfl rfl d_Df_copy_0 ?_
  refine F_callS hX (st := []) (c_Df_isFile E f (1) (by omega)) cm_Df_isFile sm_Df_isFile ml_Df_98 d_Df_copy_1 rfl rfl (Nat.le_of_ble_eq_true rfl) (by decide) ?_
  rintro _ f1 ⟨rfl, e4⟩
  obtain rfl := e4.symm
  refine G_cast (st' := [.int (zI (if 0 ≤ (1 : Int) ∧ (1 : Int) ≤ 3 then 1 else 0))]) ?_ rfl rfl rfl rfl
  refine G_top (show zI (if 0 ≤ (1 : Int) ∧ (1 : Int) ≤ 3 then 1 else 0) = zI 1 from by rw [if_pos (by omega)]) ?_
  refine G_if_eq_z hX (tgt := 36) d_Df_copy_4 rfl (by omega) (fun c5 => by exfalso; omega) (fun c6 => ?_)
  refine G_iload_n hX 2 rfl rfl d_Df_copy_7 ?_
  refine F_callS hX (st := []) (c_Df_isWritable E f (1) (by omega)) cm_Df_isWritable sm_Df_isWritable ml_Df_77 d_Df_copy_8 rfl rfl (Nat.le_of_ble_eq_true rfl) (by decide) ?_
  rintro _ f7 ⟨rfl, e10⟩
  obtain rfl := e10.symm
  refine G_cast (st' := [.int (zI (if 0 ≤ (1 : Int) ∧ (1 : Int) ≤ 2 then 1 else 0))]) ?_ rfl rfl rfl rfl
  refine G_top (show zI (if 0 ≤ (1 : Int) ∧ (1 : Int) ≤ 2 then 1 else 0) = zI 1 from by rw [if_pos (by omega)]) ?_
  refine G_if_eq_z hX (tgt := 36) d_Df_copy_11 rfl (by omega) (fun c11 => by exfalso; omega) (fun c12 => ?_)
  refine G_aload_n hX 0 rfl rfl d_Df_copy_14 ?_
  refine F_get hX fg_Df_9 d_Df_copy_15 0 (by decide) hF.1 rfl ?_
  refine G_iload_n hX 1 rfl rfl d_Df_copy_18 ?_
  refine F_aald hX d_Df_copy_19 1 (by decide) hF.2 (by decide) (a := eA E 4) rfl ?_
  refine F_get hX fg_Df_101 d_Df_copy_20 4 (by decide) hR.1 rfl ?_
  refine G_aload_n hX 0 rfl rfl d_Df_copy_23 ?_
  refine F_get hX fg_Df_9 d_Df_copy_24 0 (by decide) hF.1 rfl ?_
  refine G_iload_n hX 2 rfl rfl d_Df_copy_27 ?_
  refine F_aald hX d_Df_copy_28 1 (by decide) hF.2 (by decide) (a := eA E 4) rfl ?_
  refine F_get hX fg_Df_94 d_Df_copy_29 4 (by decide) hR.1 rfl ?_
  refine F_alen hX d_Df_copy_32 5 (by decide) hR.2 ?_
  refine G_icmp_le_z hX (tgt := 38) d_Df_copy_33 rfl (by omega) (fun c13 => ?_) (fun c14 => by exfalso; omega)
  refine G_aload_n hX 0 rfl rfl d_Df_copy_38 ?_
  refine F_get hX fg_Df_9 d_Df_copy_39 0 (by decide) hF.1 rfl ?_
  refine G_iload_n hX 2 rfl rfl d_Df_copy_42 ?_
  refine F_aald hX d_Df_copy_43 1 (by decide) hF.2 (by decide) (a := eA E 4) rfl ?_
  refine G_aload_n hX 0 rfl rfl d_Df_copy_44 ?_
  refine F_get hX fg_Df_9 d_Df_copy_45 0 (by decide) hF.1 rfl ?_
  refine G_iload_n hX 1 rfl rfl d_Df_copy_48 ?_
  refine F_aald hX d_Df_copy_49 1 (by decide) hF.2 (by decide) (a := eA E 4) rfl ?_
  refine F_callV hX (st := []) (c_Ro_become_self E f 4 5 300 g c (by decide) (by decide) (by decide) ⟨hR.1, hR.2⟩ (by omega)) cm_Ro_become im_Ro_become se_Ro_become rfl ml_Df_104 d_Df_copy_50 (by decide) hR.1 rfl rfl (Nat.le_of_ble_eq_true rfl) (by decide) ?_
  rintro _ f15 ⟨rfl, ⟨h18, h19⟩, k20⟩
  refine G_cast (st' := []) ?_ rfl rfl rfl rfl
  refine G_aload_n hX 0 rfl rfl d_Df_copy_53 ?_
  refine G_iload_n hX 2 rfl rfl d_Df_copy_54 ?_
  have h21 : f15 0 = ob 11 [.ref (eA E 1), .ref (eA E 10), .ref (eA E 13), .ref (eA E 14), .ref (eA E 22), .ref (eA E 27), .ref (eA E 29), .ref (eA E 44), .int (zI bk), .int (zI wi), .int (zI ns), .long n1, .long n2] := (k20 0 (by decide)).trans hF.1
  have h22 : f15 1 = ra E 4 (fun j => some (eA E (2 + 2 * j))) := (k20 1 (by decide)).trans hF.2
  have h23 : f15 22 = ob 4 [.ref (eA E 23), .ref (eA E 24), .ref (eA E 25), .ref (eA E 26), .int (zI md), .int (zI (pC P)), .int (zI w), .int (zI s)] := (k20 22 (by decide)).trans hP.1
  have h24 : f15 23 = iz E 300 (pT P) := (k20 23 (by decide)).trans hP.2.1
  have h25 : f15 24 = iz E 300 (pS P) := (k20 24 (by decide)).trans hP.2.2.1
  have h26 : f15 25 = iz E 300 (pA P) := (k20 25 (by decide)).trans hP.2.2.2.1
  have h27 : f15 26 = iz E 300 (pN P) := (k20 26 (by decide)).trans hP.2.2.2.2
  refine F_callV hX (st := []) (c_Df_giveUp_1 E f15 bk wi ns n1 n2 P md w s ⟨h21, h22⟩ ⟨h23, h24, h25, h26, h27⟩) cm_Df_giveUpPlanOf im_Df_giveUpPlanOf se_Df_giveUpPlanOf rfl ml_Df_88 d_Df_copy_55 (by decide) h21 rfl rfl (Nat.le_of_ble_eq_true rfl) (by decide) ?_
  rintro _ f28 ⟨rfl, ⟨h31, h32, h33, h34, h35⟩, k36⟩
  refine G_cast (st' := []) ?_ rfl rfl rfl rfl
  refine G_iconst hX d_Df_copy_58 ?_
  have h37 : f28 4 = ob 6 [.ref (eA E 5), .int (zI c)] := (k36 4 (by decide)).trans h18
  have h38 : f28 5 = iz E 300 (cz g g 0 0 c) := (k36 5 (by decide)).trans h19
  exact F_zret hX hE (by decide) d_Df_copy_59 ⟨rfl, ⟨h37, h38⟩, ⟨h31, h32, h33, h34, h35⟩, (Fr.tr (Fr.tr Fr.rf k20 (by decide)) k36 (by decide))⟩
theorem c_Df_copy_12 (E : EV) (f : Nat → va_E) (bk wi ns : Int) (n1 n2 : Int64) (g : Int → Int) (c : Int) (g0 : Int → Int) (c0 : Int) (hF : isDf E f bk wi ns n1 n2) (hR : isR E f 6 7 700 g c) (hc : 0 ≤ c ∧ c ≤ 700) (hO : isR E f 4 5 300 g0 c0) (hc0 : 0 ≤ c0 ∧ c0 ≤ 300) (hle : c0 ≤ 700) : CF yn_Df_copy cd_Df_copy 3 (some (.boolean)) 3 E [.ref (eA E 0), .int (zI 1), .int (zI 2)] f (fun r f' => r = some (.int (zI 1)) ∧ isR E f' 6 7 700 (cz g0 g 0 0 c0) c0 ∧ Fr [6, 7] f f') := by
  refine CF.of (by decide +kernel) (Nat.le_of_ble_eq_true rfl) fun X hX hE => ?_
  have hX : Ok E X "DeltaFerry" "copy" cd_Df_copy 3 (some (.boolean)) (rl 3) := hX
  refine G_cast (lv' := [(0, .ref (eA E 0)), (1, .int (zI 1)), (2, .int (zI 2))]) ?_ rfl rfl rfl rfl
  refine G_iload_n hX 1 rfl rfl d_Df_copy_0 ?_
  refine F_callS hX (st := []) (c_Df_isFile E f (1) (by omega)) cm_Df_isFile sm_Df_isFile ml_Df_98 d_Df_copy_1 rfl rfl (Nat.le_of_ble_eq_true rfl) (by decide) ?_
  rintro _ f1 ⟨rfl, e4⟩
  obtain rfl := e4.symm
  refine G_cast (st' := [.int (zI (if 0 ≤ (1 : Int) ∧ (1 : Int) ≤ 3 then 1 else 0))]) ?_ rfl rfl rfl rfl
  refine G_top (show zI (if 0 ≤ (1 : Int) ∧ (1 : Int) ≤ 3 then 1 else 0) = zI 1 from by rw [if_pos (by omega)]) ?_
  refine G_if_eq_z hX (tgt := 36) d_Df_copy_4 rfl (by omega) (fun c5 => by exfalso; omega) (fun c6 => ?_)
  refine G_iload_n hX 2 rfl rfl d_Df_copy_7 ?_
  refine F_callS hX (st := []) (c_Df_isWritable E f (2) (by omega)) cm_Df_isWritable sm_Df_isWritable ml_Df_77 d_Df_copy_8 rfl rfl (Nat.le_of_ble_eq_true rfl) (by decide) ?_
  rintro _ f7 ⟨rfl, e10⟩
  obtain rfl := e10.symm
  refine G_cast (st' := [.int (zI (if 0 ≤ (2 : Int) ∧ (2 : Int) ≤ 2 then 1 else 0))]) ?_ rfl rfl rfl rfl
  refine G_top (show zI (if 0 ≤ (2 : Int) ∧ (2 : Int) ≤ 2 then 1 else 0) = zI 1 from by rw [if_pos (by omega)]) ?_
  refine G_if_eq_z hX (tgt := 36) d_Df_copy_11 rfl (by omega) (fun c11 => by exfalso; omega) (fun c12 => ?_)
  refine G_aload_n hX 0 rfl rfl d_Df_copy_14 ?_
  refine F_get hX fg_Df_9 d_Df_copy_15 0 (by decide) hF.1 rfl ?_
  refine G_iload_n hX 1 rfl rfl d_Df_copy_18 ?_
  refine F_aald hX d_Df_copy_19 1 (by decide) hF.2 (by decide) (a := eA E 4) rfl ?_
  refine F_get hX fg_Df_101 d_Df_copy_20 4 (by decide) hO.1 rfl ?_
  refine G_aload_n hX 0 rfl rfl d_Df_copy_23 ?_
  refine F_get hX fg_Df_9 d_Df_copy_24 0 (by decide) hF.1 rfl ?_
  refine G_iload_n hX 2 rfl rfl d_Df_copy_27 ?_
  refine F_aald hX d_Df_copy_28 1 (by decide) hF.2 (by decide) (a := eA E 6) rfl ?_
  refine F_get hX fg_Df_94 d_Df_copy_29 6 (by decide) hR.1 rfl ?_
  refine F_alen hX d_Df_copy_32 7 (by decide) hR.2 ?_
  refine G_icmp_le_z hX (tgt := 38) d_Df_copy_33 rfl (by omega) (fun c13 => ?_) (fun c14 => by exfalso; omega)
  refine G_aload_n hX 0 rfl rfl d_Df_copy_38 ?_
  refine F_get hX fg_Df_9 d_Df_copy_39 0 (by decide) hF.1 rfl ?_
  refine G_iload_n hX 2 rfl rfl d_Df_copy_42 ?_
  refine F_aald hX d_Df_copy_43 1 (by decide) hF.2 (by decide) (a := eA E 6) rfl ?_
  refine G_aload_n hX 0 rfl rfl d_Df_copy_44 ?_
  refine F_get hX fg_Df_9 d_Df_copy_45 0 (by decide) hF.1 rfl ?_
  refine G_iload_n hX 1 rfl rfl d_Df_copy_48 ?_
  refine F_aald hX d_Df_copy_49 1 (by decide) hF.2 (by decide) (a := eA E 4) rfl ?_
  refine F_callV hX (st := []) (c_Ro_become E f 6 7 700 g c 4 5 300 g0 c0 (by decide) (by decide) (by decide) ⟨hR.1, hR.2⟩ (by omega) (by decide) (by decide) (by decide) (by decide) ⟨hO.1, hO.2⟩ (by omega)) cm_Ro_become im_Ro_become se_Ro_become rfl ml_Df_104 d_Df_copy_50 (by decide) hR.1 rfl rfl (Nat.le_of_ble_eq_true rfl) (by decide) ?_
  rintro _ f15 ⟨rfl, ⟨h18, h19⟩, k20⟩
  refine G_cast (st' := []) ?_ rfl rfl rfl rfl
  refine G_aload_n hX 0 rfl rfl d_Df_copy_53 ?_
  refine G_iload_n hX 2 rfl rfl d_Df_copy_54 ?_
  have h21 : f15 0 = ob 11 [.ref (eA E 1), .ref (eA E 10), .ref (eA E 13), .ref (eA E 14), .ref (eA E 22), .ref (eA E 27), .ref (eA E 29), .ref (eA E 44), .int (zI bk), .int (zI wi), .int (zI ns), .long n1, .long n2] := (k20 0 (by decide)).trans hF.1
  have h22 : f15 1 = ra E 4 (fun j => some (eA E (2 + 2 * j))) := (k20 1 (by decide)).trans hF.2
  refine F_callV hX (st := []) (c_Df_giveUp_2 E f15 bk wi ns n1 n2 ⟨h21, h22⟩) cm_Df_giveUpPlanOf im_Df_giveUpPlanOf se_Df_giveUpPlanOf rfl ml_Df_88 d_Df_copy_55 (by decide) h21 rfl rfl (Nat.le_of_ble_eq_true rfl) (by decide) ?_
  rintro _ f23 ⟨rfl, e26⟩
  obtain rfl := e26.symm
  refine G_cast (st' := []) ?_ rfl rfl rfl rfl
  refine G_iconst hX d_Df_copy_58 ?_
  exact F_zret hX hE (by decide) d_Df_copy_59 ⟨rfl, ⟨h18, h19⟩, (Fr.tr Fr.rf k20 (by decide))⟩
theorem c_Df_copy_20 (E : EV) (f : Nat → va_E) (bk wi ns : Int) (n1 n2 : Int64) (g : Int → Int) (c : Int) (g0 : Int → Int) (c0 : Int) (hF : isDf E f bk wi ns n1 n2) (hR : isR E f 2 3 300 g c) (hc : 0 ≤ c ∧ c ≤ 300) (hO : isR E f 6 7 700 g0 c0) (hc0 : 0 ≤ c0 ∧ c0 ≤ 700) (hle : c0 ≤ 300) : CF yn_Df_copy cd_Df_copy 3 (some (.boolean)) 3 E [.ref (eA E 0), .int (zI 2), .int (zI 0)] f (fun r f' => r = some (.int (zI 1)) ∧ isR E f' 2 3 300 (cz g0 g 0 0 c0) c0 ∧ Fr [2, 3] f f') := by
  refine CF.of (by decide +kernel) (Nat.le_of_ble_eq_true rfl) fun X hX hE => ?_
  have hX : Ok E X "DeltaFerry" "copy" cd_Df_copy 3 (some (.boolean)) (rl 3) := hX
  refine G_cast (lv' := [(0, .ref (eA E 0)), (1, .int (zI 2)), (2, .int (zI 0))]) ?_ rfl rfl rfl rfl
  refine G_iload_n hX 1 rfl rfl d_Df_copy_0 ?_
  refine F_callS hX (st := []) (c_Df_isFile E f (2) (by omega)) cm_Df_isFile sm_Df_isFile ml_Df_98 d_Df_copy_1 rfl rfl (Nat.le_of_ble_eq_true rfl) (by decide) ?_
  rintro _ f1 ⟨rfl, e4⟩
  obtain rfl := e4.symm
  refine G_cast (st' := [.int (zI (if 0 ≤ (2 : Int) ∧ (2 : Int) ≤ 3 then 1 else 0))]) ?_ rfl rfl rfl rfl
  refine G_top (show zI (if 0 ≤ (2 : Int) ∧ (2 : Int) ≤ 3 then 1 else 0) = zI 1 from by rw [if_pos (by omega)]) ?_
  refine G_if_eq_z hX (tgt := 36) d_Df_copy_4 rfl (by omega) (fun c5 => by exfalso; omega) (fun c6 => ?_)
  refine G_iload_n hX 2 rfl rfl d_Df_copy_7 ?_
  refine F_callS hX (st := []) (c_Df_isWritable E f (0) (by omega)) cm_Df_isWritable sm_Df_isWritable ml_Df_77 d_Df_copy_8 rfl rfl (Nat.le_of_ble_eq_true rfl) (by decide) ?_
  rintro _ f7 ⟨rfl, e10⟩
  obtain rfl := e10.symm
  refine G_cast (st' := [.int (zI (if 0 ≤ (0 : Int) ∧ (0 : Int) ≤ 2 then 1 else 0))]) ?_ rfl rfl rfl rfl
  refine G_top (show zI (if 0 ≤ (0 : Int) ∧ (0 : Int) ≤ 2 then 1 else 0) = zI 1 from by rw [if_pos (by omega)]) ?_
  refine G_if_eq_z hX (tgt := 36) d_Df_copy_11 rfl (by omega) (fun c11 => by exfalso; omega) (fun c12 => ?_)
  refine G_aload_n hX 0 rfl rfl d_Df_copy_14 ?_
  refine F_get hX fg_Df_9 d_Df_copy_15 0 (by decide) hF.1 rfl ?_
  refine G_iload_n hX 1 rfl rfl d_Df_copy_18 ?_
  refine F_aald hX d_Df_copy_19 1 (by decide) hF.2 (by decide) (a := eA E 6) rfl ?_
  refine F_get hX fg_Df_101 d_Df_copy_20 6 (by decide) hO.1 rfl ?_
  refine G_aload_n hX 0 rfl rfl d_Df_copy_23 ?_
  refine F_get hX fg_Df_9 d_Df_copy_24 0 (by decide) hF.1 rfl ?_
  refine G_iload_n hX 2 rfl rfl d_Df_copy_27 ?_
  refine F_aald hX d_Df_copy_28 1 (by decide) hF.2 (by decide) (a := eA E 2) rfl ?_
  refine F_get hX fg_Df_94 d_Df_copy_29 2 (by decide) hR.1 rfl ?_
  refine F_alen hX d_Df_copy_32 3 (by decide) hR.2 ?_
  refine G_icmp_le_z hX (tgt := 38) d_Df_copy_33 rfl (by omega) (fun c13 => ?_) (fun c14 => by exfalso; omega)
  refine G_aload_n hX 0 rfl rfl d_Df_copy_38 ?_
  refine F_get hX fg_Df_9 d_Df_copy_39 0 (by decide) hF.1 rfl ?_
  refine G_iload_n hX 2 rfl rfl d_Df_copy_42 ?_
  refine F_aald hX d_Df_copy_43 1 (by decide) hF.2 (by decide) (a := eA E 2) rfl ?_
  refine G_aload_n hX 0 rfl rfl d_Df_copy_44 ?_
  refine F_get hX fg_Df_9 d_Df_copy_45 0 (by decide) hF.1 rfl ?_
  refine G_iload_n hX 1 rfl rfl d_Df_copy_48 ?_
  refine F_aald hX d_Df_copy_49 1 (by decide) hF.2 (by decide) (a := eA E 6) rfl ?_
  refine F_callV hX (st := []) (c_Ro_become E f 2 3 300 g c 6 7 700 g0 c0 (by decide) (by decide) (by decide) ⟨hR.1, hR.2⟩ (by omega) (by decide) (by decide) (by decide) (by decide) ⟨hO.1, hO.2⟩ (by omega)) cm_Ro_become im_Ro_become se_Ro_become rfl ml_Df_104 d_Df_copy_50 (by decide) hR.1 rfl rfl (Nat.le_of_ble_eq_true rfl) (by decide) ?_
  rintro _ f15 ⟨rfl, ⟨h18, h19⟩, k20⟩
  refine G_cast (st' := []) ?_ rfl rfl rfl rfl
  refine G_aload_n hX 0 rfl rfl d_Df_copy_53 ?_
  refine G_iload_n hX 2 rfl rfl d_Df_copy_54 ?_
  have h21 : f15 0 = ob 11 [.ref (eA E 1), .ref (eA E 10), .ref (eA E 13), .ref (eA E 14), .ref (eA E 22), .ref (eA E 27), .ref (eA E 29), .ref (eA E 44), .int (zI bk), .int (zI wi), .int (zI ns), .long n1, .long n2] := (k20 0 (by decide)).trans hF.1
  have h22 : f15 1 = ra E 4 (fun j => some (eA E (2 + 2 * j))) := (k20 1 (by decide)).trans hF.2
  refine F_callV hX (st := []) (c_Df_giveUp_0 E f15 bk wi ns n1 n2 ⟨h21, h22⟩) cm_Df_giveUpPlanOf im_Df_giveUpPlanOf se_Df_giveUpPlanOf rfl ml_Df_88 d_Df_copy_55 (by decide) h21 rfl rfl (Nat.le_of_ble_eq_true rfl) (by decide) ?_
  rintro _ f23 ⟨rfl, e26⟩
  obtain rfl := e26.symm
  refine G_cast (st' := []) ?_ rfl rfl rfl rfl
  refine G_iconst hX d_Df_copy_58 ?_
  exact F_zret hX hE (by decide) d_Df_copy_59 ⟨rfl, ⟨h18, h19⟩, (Fr.tr Fr.rf k20 (by decide))⟩
theorem c_Df_copy_no20 (E : EV) (f : Nat → va_E) (bk wi ns : Int) (n1 n2 : Int64) (g : Int → Int) (c : Int) (g0 : Int → Int) (c0 : Int) (hF : isDf E f bk wi ns n1 n2) (hR : isR E f 2 3 300 g c) (hc : 0 ≤ c ∧ c ≤ 300) (hO : isR E f 6 7 700 g0 c0) (hc0 : 0 ≤ c0 ∧ c0 ≤ 700) (hle : 300 < c0) : CF yn_Df_copy cd_Df_copy 3 (some (.boolean)) 3 E [.ref (eA E 0), .int (zI 2), .int (zI 0)] f (fun r f' => r = some (.int (zI 0)) ∧ f' = f) := by
  refine CF.of (by decide +kernel) (Nat.le_of_ble_eq_true rfl) fun X hX hE => ?_
  have hX : Ok E X "DeltaFerry" "copy" cd_Df_copy 3 (some (.boolean)) (rl 3) := hX
  refine G_cast (lv' := [(0, .ref (eA E 0)), (1, .int (zI 2)), (2, .int (zI 0))]) ?_ rfl rfl rfl rfl
  refine G_iload_n hX 1 rfl rfl d_Df_copy_0 ?_
  refine F_callS hX (st := []) (c_Df_isFile E f (2) (by omega)) cm_Df_isFile sm_Df_isFile ml_Df_98 d_Df_copy_1 rfl rfl (Nat.le_of_ble_eq_true rfl) (by decide) ?_
  rintro _ f1 ⟨rfl, e4⟩
  obtain rfl := e4.symm
  refine G_cast (st' := [.int (zI (if 0 ≤ (2 : Int) ∧ (2 : Int) ≤ 3 then 1 else 0))]) ?_ rfl rfl rfl rfl
  refine G_top (show zI (if 0 ≤ (2 : Int) ∧ (2 : Int) ≤ 3 then 1 else 0) = zI 1 from by rw [if_pos (by omega)]) ?_
  refine G_if_eq_z hX (tgt := 36) d_Df_copy_4 rfl (by omega) (fun c5 => by exfalso; omega) (fun c6 => ?_)
  refine G_iload_n hX 2 rfl rfl d_Df_copy_7 ?_
  refine F_callS hX (st := []) (c_Df_isWritable E f (0) (by omega)) cm_Df_isWritable sm_Df_isWritable ml_Df_77 d_Df_copy_8 rfl rfl (Nat.le_of_ble_eq_true rfl) (by decide) ?_
  rintro _ f7 ⟨rfl, e10⟩
  obtain rfl := e10.symm
  refine G_cast (st' := [.int (zI (if 0 ≤ (0 : Int) ∧ (0 : Int) ≤ 2 then 1 else 0))]) ?_ rfl rfl rfl rfl
  refine G_top (show zI (if 0 ≤ (0 : Int) ∧ (0 : Int) ≤ 2 then 1 else 0) = zI 1 from by rw [if_pos (by omega)]) ?_
  refine G_if_eq_z hX (tgt := 36) d_Df_copy_11 rfl (by omega) (fun c11 => by exfalso; omega) (fun c12 => ?_)
  refine G_aload_n hX 0 rfl rfl d_Df_copy_14 ?_
  refine F_get hX fg_Df_9 d_Df_copy_15 0 (by decide) hF.1 rfl ?_
  refine G_iload_n hX 1 rfl rfl d_Df_copy_18 ?_
  refine F_aald hX d_Df_copy_19 1 (by decide) hF.2 (by decide) (a := eA E 6) rfl ?_
  refine F_get hX fg_Df_101 d_Df_copy_20 6 (by decide) hO.1 rfl ?_
  refine G_aload_n hX 0 rfl rfl d_Df_copy_23 ?_
  refine F_get hX fg_Df_9 d_Df_copy_24 0 (by decide) hF.1 rfl ?_
  refine G_iload_n hX 2 rfl rfl d_Df_copy_27 ?_
  refine F_aald hX d_Df_copy_28 1 (by decide) hF.2 (by decide) (a := eA E 2) rfl ?_
  refine F_get hX fg_Df_94 d_Df_copy_29 2 (by decide) hR.1 rfl ?_
  refine F_alen hX d_Df_copy_32 3 (by decide) hR.2 ?_
  refine G_icmp_le_z hX (tgt := 38) d_Df_copy_33 rfl (by omega) (fun c13 => by exfalso; omega) (fun c14 => ?_)
  refine G_iconst hX d_Df_copy_36 ?_
  exact F_zret hX hE (by decide) d_Df_copy_37 ⟨rfl, rfl⟩
theorem c_Df_copy_21 (E : EV) (f : Nat → va_E) (bk wi ns : Int) (n1 n2 : Int64) (g : Int → Int) (c : Int) (g0 : Int → Int) (c0 : Int) (P : PS) (md w s : Int) (hF : isDf E f bk wi ns n1 n2) (hR : isR E f 4 5 300 g c) (hc : 0 ≤ c ∧ c ≤ 300) (hO : isR E f 6 7 700 g0 c0) (hc0 : 0 ≤ c0 ∧ c0 ≤ 700) (hP : isPl E f P md w s) (hle : c0 ≤ 300) : CF yn_Df_copy cd_Df_copy 3 (some (.boolean)) 3 E [.ref (eA E 0), .int (zI 2), .int (zI 1)] f (fun r f' => r = some (.int (zI 1)) ∧ isR E f' 4 5 300 (cz g0 g 0 0 c0) c0 ∧ isPl E f' P 0 w s ∧ Fr [4, 5, 22] f f') := by
  refine CF.of (by decide +kernel) (Nat.le_of_ble_eq_true rfl) fun X hX hE => ?_
  have hX : Ok E X "DeltaFerry" "copy" cd_Df_copy 3 (some (.boolean)) (rl 3) := hX
  refine G_cast (lv' := [(0, .ref (eA E 0)), (1, .int (zI 2)), (2, .int (zI 1))]) ?_ rfl rfl rfl rfl
  refine G_iload_n hX 1 rfl rfl d_Df_copy_0 ?_
  refine F_callS hX (st := []) (c_Df_isFile E f (2) (by omega)) cm_Df_isFile sm_Df_isFile ml_Df_98 d_Df_copy_1 rfl rfl (Nat.le_of_ble_eq_true rfl) (by decide) ?_
  rintro _ f1 ⟨rfl, e4⟩
  obtain rfl := e4.symm
  refine G_cast (st' := [.int (zI (if 0 ≤ (2 : Int) ∧ (2 : Int) ≤ 3 then 1 else 0))]) ?_ rfl rfl rfl rfl
  refine G_top (show zI (if 0 ≤ (2 : Int) ∧ (2 : Int) ≤ 3 then 1 else 0) = zI 1 from by rw [if_pos (by omega)]) ?_
  refine G_if_eq_z hX (tgt := 36) d_Df_copy_4 rfl (by omega) (fun c5 => by exfalso; omega) (fun c6 => ?_)
  refine G_iload_n hX 2 rfl rfl d_Df_copy_7 ?_
  refine F_callS hX (st := []) (c_Df_isWritable E f (1) (by omega)) cm_Df_isWritable sm_Df_isWritable ml_Df_77 d_Df_copy_8 rfl rfl (Nat.le_of_ble_eq_true rfl) (by decide) ?_
  rintro _ f7 ⟨rfl, e10⟩
  obtain rfl := e10.symm
  refine G_cast (st' := [.int (zI (if 0 ≤ (1 : Int) ∧ (1 : Int) ≤ 2 then 1 else 0))]) ?_ rfl rfl rfl rfl
  refine G_top (show zI (if 0 ≤ (1 : Int) ∧ (1 : Int) ≤ 2 then 1 else 0) = zI 1 from by rw [if_pos (by omega)]) ?_
  refine G_if_eq_z hX (tgt := 36) d_Df_copy_11 rfl (by omega) (fun c11 => by exfalso; omega) (fun c12 => ?_)
  refine G_aload_n hX 0 rfl rfl d_Df_copy_14 ?_
  refine F_get hX fg_Df_9 d_Df_copy_15 0 (by decide) hF.1 rfl ?_
  refine G_iload_n hX 1 rfl rfl d_Df_copy_18 ?_
  refine F_aald hX d_Df_copy_19 1 (by decide) hF.2 (by decide) (a := eA E 6) rfl ?_
  refine F_get hX fg_Df_101 d_Df_copy_20 6 (by decide) hO.1 rfl ?_
  refine G_aload_n hX 0 rfl rfl d_Df_copy_23 ?_
  refine F_get hX fg_Df_9 d_Df_copy_24 0 (by decide) hF.1 rfl ?_
  refine G_iload_n hX 2 rfl rfl d_Df_copy_27 ?_
  refine F_aald hX d_Df_copy_28 1 (by decide) hF.2 (by decide) (a := eA E 4) rfl ?_
  refine F_get hX fg_Df_94 d_Df_copy_29 4 (by decide) hR.1 rfl ?_
  refine F_alen hX d_Df_copy_32 5 (by decide) hR.2 ?_
  refine G_icmp_le_z hX (tgt := 38) d_Df_copy_33 rfl (by omega) (fun c13 => ?_) (fun c14 => by exfalso; omega)
  refine G_aload_n hX 0 rfl rfl d_Df_copy_38 ?_
  refine F_get hX fg_Df_9 d_Df_copy_39 0 (by decide) hF.1 rfl ?_
  refine G_iload_n hX 2 rfl rfl d_Df_copy_42 ?_
  refine F_aald hX d_Df_copy_43 1 (by decide) hF.2 (by decide) (a := eA E 4) rfl ?_
  refine G_aload_n hX 0 rfl rfl d_Df_copy_44 ?_
  refine F_get hX fg_Df_9 d_Df_copy_45 0 (by decide) hF.1 rfl ?_
  refine G_iload_n hX 1 rfl rfl d_Df_copy_48 ?_
  refine F_aald hX d_Df_copy_49 1 (by decide) hF.2 (by decide) (a := eA E 6) rfl ?_
  refine F_callV hX (st := []) (c_Ro_become E f 4 5 300 g c 6 7 700 g0 c0 (by decide) (by decide) (by decide) ⟨hR.1, hR.2⟩ (by omega) (by decide) (by decide) (by decide) (by decide) ⟨hO.1, hO.2⟩ (by omega)) cm_Ro_become im_Ro_become se_Ro_become rfl ml_Df_104 d_Df_copy_50 (by decide) hR.1 rfl rfl (Nat.le_of_ble_eq_true rfl) (by decide) ?_
  rintro _ f15 ⟨rfl, ⟨h18, h19⟩, k20⟩
  refine G_cast (st' := []) ?_ rfl rfl rfl rfl
  refine G_aload_n hX 0 rfl rfl d_Df_copy_53 ?_
  refine G_iload_n hX 2 rfl rfl d_Df_copy_54 ?_
  have h21 : f15 0 = ob 11 [.ref (eA E 1), .ref (eA E 10), .ref (eA E 13), .ref (eA E 14), .ref (eA E 22), .ref (eA E 27), .ref (eA E 29), .ref (eA E 44), .int (zI bk), .int (zI wi), .int (zI ns), .long n1, .long n2] := (k20 0 (by decide)).trans hF.1
  have h22 : f15 1 = ra E 4 (fun j => some (eA E (2 + 2 * j))) := (k20 1 (by decide)).trans hF.2
  have h23 : f15 22 = ob 4 [.ref (eA E 23), .ref (eA E 24), .ref (eA E 25), .ref (eA E 26), .int (zI md), .int (zI (pC P)), .int (zI w), .int (zI s)] := (k20 22 (by decide)).trans hP.1
  have h24 : f15 23 = iz E 300 (pT P) := (k20 23 (by decide)).trans hP.2.1
  have h25 : f15 24 = iz E 300 (pS P) := (k20 24 (by decide)).trans hP.2.2.1
  have h26 : f15 25 = iz E 300 (pA P) := (k20 25 (by decide)).trans hP.2.2.2.1
  have h27 : f15 26 = iz E 300 (pN P) := (k20 26 (by decide)).trans hP.2.2.2.2
  refine F_callV hX (st := []) (c_Df_giveUp_1 E f15 bk wi ns n1 n2 P md w s ⟨h21, h22⟩ ⟨h23, h24, h25, h26, h27⟩) cm_Df_giveUpPlanOf im_Df_giveUpPlanOf se_Df_giveUpPlanOf rfl ml_Df_88 d_Df_copy_55 (by decide) h21 rfl rfl (Nat.le_of_ble_eq_true rfl) (by decide) ?_
  rintro _ f28 ⟨rfl, ⟨h31, h32, h33, h34, h35⟩, k36⟩
  refine G_cast (st' := []) ?_ rfl rfl rfl rfl
  refine G_iconst hX d_Df_copy_58 ?_
  have h37 : f28 4 = ob 6 [.ref (eA E 5), .int (zI c0)] := (k36 4 (by decide)).trans h18
  have h38 : f28 5 = iz E 300 (cz g0 g 0 0 c0) := (k36 5 (by decide)).trans h19
  exact F_zret hX hE (by decide) d_Df_copy_59 ⟨rfl, ⟨h37, h38⟩, ⟨h31, h32, h33, h34, h35⟩, (Fr.tr (Fr.tr Fr.rf k20 (by decide)) k36 (by decide))⟩
theorem c_Df_copy_no21 (E : EV) (f : Nat → va_E) (bk wi ns : Int) (n1 n2 : Int64) (g : Int → Int) (c : Int) (g0 : Int → Int) (c0 : Int) (P : PS) (md w s : Int) (hF : isDf E f bk wi ns n1 n2) (hR : isR E f 4 5 300 g c) (hc : 0 ≤ c ∧ c ≤ 300) (hO : isR E f 6 7 700 g0 c0) (hc0 : 0 ≤ c0 ∧ c0 ≤ 700) (hP : isPl E f P md w s) (hle : 300 < c0) : CF yn_Df_copy cd_Df_copy 3 (some (.boolean)) 3 E [.ref (eA E 0), .int (zI 2), .int (zI 1)] f (fun r f' => r = some (.int (zI 0)) ∧ f' = f) := by
  refine CF.of (by decide +kernel) (Nat.le_of_ble_eq_true rfl) fun X hX hE => ?_
  have hX : Ok E X "DeltaFerry" "copy" cd_Df_copy 3 (some (.boolean)) (rl 3) := hX
  refine G_cast (lv' := [(0, .ref (eA E 0)), (1, .int (zI 2)), (2, .int (zI 1))]) ?_ rfl rfl rfl rfl
  refine G_iload_n hX 1 rfl rfl d_Df_copy_0 ?_
  refine F_callS hX (st := []) (c_Df_isFile E f (2) (by omega)) cm_Df_isFile sm_Df_isFile ml_Df_98 d_Df_copy_1 rfl rfl (Nat.le_of_ble_eq_true rfl) (by decide) ?_
  rintro _ f1 ⟨rfl, e4⟩
  obtain rfl := e4.symm
  refine G_cast (st' := [.int (zI (if 0 ≤ (2 : Int) ∧ (2 : Int) ≤ 3 then 1 else 0))]) ?_ rfl rfl rfl rfl
  refine G_top (show zI (if 0 ≤ (2 : Int) ∧ (2 : Int) ≤ 3 then 1 else 0) = zI 1 from by rw [if_pos (by omega)]) ?_
  refine G_if_eq_z hX (tgt := 36) d_Df_copy_4 rfl (by omega) (fun c5 => by exfalso; omega) (fun c6 => ?_)
  refine G_iload_n hX 2 rfl rfl d_Df_copy_7 ?_
  refine F_callS hX (st := []) (c_Df_isWritable E f (1) (by omega)) cm_Df_isWritable sm_Df_isWritable ml_Df_77 d_Df_copy_8 rfl rfl (Nat.le_of_ble_eq_true rfl) (by decide) ?_
  rintro _ f7 ⟨rfl, e10⟩
  obtain rfl := e10.symm
  refine G_cast (st' := [.int (zI (if 0 ≤ (1 : Int) ∧ (1 : Int) ≤ 2 then 1 else 0))]) ?_ rfl rfl rfl rfl
  refine G_top (show zI (if 0 ≤ (1 : Int) ∧ (1 : Int) ≤ 2 then 1 else 0) = zI 1 from by rw [if_pos (by omega)]) ?_
  refine G_if_eq_z hX (tgt := 36) d_Df_copy_11 rfl (by omega) (fun c11 => by exfalso; omega) (fun c12 => ?_)
  refine G_aload_n hX 0 rfl rfl d_Df_copy_14 ?_
  refine F_get hX fg_Df_9 d_Df_copy_15 0 (by decide) hF.1 rfl ?_
  refine G_iload_n hX 1 rfl rfl d_Df_copy_18 ?_
  refine F_aald hX d_Df_copy_19 1 (by decide) hF.2 (by decide) (a := eA E 6) rfl ?_
  refine F_get hX fg_Df_101 d_Df_copy_20 6 (by decide) hO.1 rfl ?_
  refine G_aload_n hX 0 rfl rfl d_Df_copy_23 ?_
  refine F_get hX fg_Df_9 d_Df_copy_24 0 (by decide) hF.1 rfl ?_
  refine G_iload_n hX 2 rfl rfl d_Df_copy_27 ?_
  refine F_aald hX d_Df_copy_28 1 (by decide) hF.2 (by decide) (a := eA E 4) rfl ?_
  refine F_get hX fg_Df_94 d_Df_copy_29 4 (by decide) hR.1 rfl ?_
  refine F_alen hX d_Df_copy_32 5 (by decide) hR.2 ?_
  refine G_icmp_le_z hX (tgt := 38) d_Df_copy_33 rfl (by omega) (fun c13 => by exfalso; omega) (fun c14 => ?_)
  refine G_iconst hX d_Df_copy_36 ?_
  exact F_zret hX hE (by decide) d_Df_copy_37 ⟨rfl, rfl⟩
theorem c_Df_copy_22 (E : EV) (f : Nat → va_E) (bk wi ns : Int) (n1 n2 : Int64) (g : Int → Int) (c : Int) (hF : isDf E f bk wi ns n1 n2) (hR : isR E f 6 7 700 g c) (hc : 0 ≤ c ∧ c ≤ 700) (hle : c ≤ 700) : CF yn_Df_copy cd_Df_copy 3 (some (.boolean)) 3 E [.ref (eA E 0), .int (zI 2), .int (zI 2)] f (fun r f' => r = some (.int (zI 1)) ∧ isR E f' 6 7 700 (cz g g 0 0 c) c ∧ Fr [6, 7] f f') := by
  refine CF.of (by decide +kernel) (Nat.le_of_ble_eq_true rfl) fun X hX hE => ?_
  have hX : Ok E X "DeltaFerry" "copy" cd_Df_copy 3 (some (.boolean)) (rl 3) := hX
  refine G_cast (lv' := [(0, .ref (eA E 0)), (1, .int (zI 2)), (2, .int (zI 2))]) ?_ rfl rfl rfl rfl
  refine G_iload_n hX 1 rfl rfl d_Df_copy_0 ?_
  refine F_callS hX (st := []) (c_Df_isFile E f (2) (by omega)) cm_Df_isFile sm_Df_isFile ml_Df_98 d_Df_copy_1 rfl rfl (Nat.le_of_ble_eq_true rfl) (by decide) ?_
  rintro _ f1 ⟨rfl, e4⟩
  obtain rfl := e4.symm
  refine G_cast (st' := [.int (zI (if 0 ≤ (2 : Int) ∧ (2 : Int) ≤ 3 then 1 else 0))]) ?_ rfl rfl rfl rfl
  refine G_top (show zI (if 0 ≤ (2 : Int) ∧ (2 : Int) ≤ 3 then 1 else 0) = zI 1 from by rw [if_pos (by omega)]) ?_
  refine G_if_eq_z hX (tgt := 36) d_Df_copy_4 rfl (by omega) (fun c5 => by exfalso; omega) (fun c6 => ?_)
  refine G_iload_n hX 2 rfl rfl d_Df_copy_7 ?_
  refine F_callS hX (st := []) (c_Df_isWritable E f (2) (by omega)) cm_Df_isWritable sm_Df_isWritable ml_Df_77 d_Df_copy_8 rfl rfl (Nat.le_of_ble_eq_true rfl) (by decide) ?_
  rintro _ f7 ⟨rfl, e10⟩
  obtain rfl := e10.symm
  refine G_cast (st' := [.int (zI (if 0 ≤ (2 : Int) ∧ (2 : Int) ≤ 2 then 1 else 0))]) ?_ rfl rfl rfl rfl
  refine G_top (show zI (if 0 ≤ (2 : Int) ∧ (2 : Int) ≤ 2 then 1 else 0) = zI 1 from by rw [if_pos (by omega)]) ?_
  refine G_if_eq_z hX (tgt := 36) d_Df_copy_11 rfl (by omega) (fun c11 => by exfalso; omega) (fun c12 => ?_)
  refine G_aload_n hX 0 rfl rfl d_Df_copy_14 ?_
  refine F_get hX fg_Df_9 d_Df_copy_15 0 (by decide) hF.1 rfl ?_
  refine G_iload_n hX 1 rfl rfl d_Df_copy_18 ?_
  refine F_aald hX d_Df_copy_19 1 (by decide) hF.2 (by decide) (a := eA E 6) rfl ?_
  refine F_get hX fg_Df_101 d_Df_copy_20 6 (by decide) hR.1 rfl ?_
  refine G_aload_n hX 0 rfl rfl d_Df_copy_23 ?_
  refine F_get hX fg_Df_9 d_Df_copy_24 0 (by decide) hF.1 rfl ?_
  refine G_iload_n hX 2 rfl rfl d_Df_copy_27 ?_
  refine F_aald hX d_Df_copy_28 1 (by decide) hF.2 (by decide) (a := eA E 6) rfl ?_
  refine F_get hX fg_Df_94 d_Df_copy_29 6 (by decide) hR.1 rfl ?_
  refine F_alen hX d_Df_copy_32 7 (by decide) hR.2 ?_
  refine G_icmp_le_z hX (tgt := 38) d_Df_copy_33 rfl (by omega) (fun c13 => ?_) (fun c14 => by exfalso; omega)
  refine G_aload_n hX 0 rfl rfl d_Df_copy_38 ?_
  refine F_get hX fg_Df_9 d_Df_copy_39 0 (by decide) hF.1 rfl ?_
  refine G_iload_n hX 2 rfl rfl d_Df_copy_42 ?_
  refine F_aald hX d_Df_copy_43 1 (by decide) hF.2 (by decide) (a := eA E 6) rfl ?_
  refine G_aload_n hX 0 rfl rfl d_Df_copy_44 ?_
  refine F_get hX fg_Df_9 d_Df_copy_45 0 (by decide) hF.1 rfl ?_
  refine G_iload_n hX 1 rfl rfl d_Df_copy_48 ?_
  refine F_aald hX d_Df_copy_49 1 (by decide) hF.2 (by decide) (a := eA E 6) rfl ?_
  refine F_callV hX (st := []) (c_Ro_become_self E f 6 7 700 g c (by decide) (by decide) (by decide) ⟨hR.1, hR.2⟩ (by omega)) cm_Ro_become im_Ro_become se_Ro_become rfl ml_Df_104 d_Df_copy_50 (by decide) hR.1 rfl rfl (Nat.le_of_ble_eq_true rfl) (by decide) ?_
  rintro _ f15 ⟨rfl, ⟨h18, h19⟩, k20⟩
  refine G_cast (st' := []) ?_ rfl rfl rfl rfl
  refine G_aload_n hX 0 rfl rfl d_Df_copy_53 ?_
  refine G_iload_n hX 2 rfl rfl d_Df_copy_54 ?_
  have h21 : f15 0 = ob 11 [.ref (eA E 1), .ref (eA E 10), .ref (eA E 13), .ref (eA E 14), .ref (eA E 22), .ref (eA E 27), .ref (eA E 29), .ref (eA E 44), .int (zI bk), .int (zI wi), .int (zI ns), .long n1, .long n2] := (k20 0 (by decide)).trans hF.1
  have h22 : f15 1 = ra E 4 (fun j => some (eA E (2 + 2 * j))) := (k20 1 (by decide)).trans hF.2
  refine F_callV hX (st := []) (c_Df_giveUp_2 E f15 bk wi ns n1 n2 ⟨h21, h22⟩) cm_Df_giveUpPlanOf im_Df_giveUpPlanOf se_Df_giveUpPlanOf rfl ml_Df_88 d_Df_copy_55 (by decide) h21 rfl rfl (Nat.le_of_ble_eq_true rfl) (by decide) ?_
  rintro _ f23 ⟨rfl, e26⟩
  obtain rfl := e26.symm
  refine G_cast (st' := []) ?_ rfl rfl rfl rfl
  refine G_iconst hX d_Df_copy_58 ?_
  exact F_zret hX hE (by decide) d_Df_copy_59 ⟨rfl, ⟨h18, h19⟩, (Fr.tr Fr.rf k20 (by decide))⟩
theorem c_Df_copy_30 (E : EV) (f : Nat → va_E) (bk wi ns : Int) (n1 n2 : Int64) (g : Int → Int) (c : Int) (g0 : Int → Int) (c0 : Int) (hF : isDf E f bk wi ns n1 n2) (hR : isR E f 2 3 300 g c) (hc : 0 ≤ c ∧ c ≤ 300) (hO : isR E f 8 9 300 g0 c0) (hc0 : 0 ≤ c0 ∧ c0 ≤ 300) (hle : c0 ≤ 300) : CF yn_Df_copy cd_Df_copy 3 (some (.boolean)) 3 E [.ref (eA E 0), .int (zI 3), .int (zI 0)] f (fun r f' => r = some (.int (zI 1)) ∧ isR E f' 2 3 300 (cz g0 g 0 0 c0) c0 ∧ Fr [2, 3] f f') := by
  refine CF.of (by decide +kernel) (Nat.le_of_ble_eq_true rfl) fun X hX hE => ?_
  have hX : Ok E X "DeltaFerry" "copy" cd_Df_copy 3 (some (.boolean)) (rl 3) := hX
  refine G_cast (lv' := [(0, .ref (eA E 0)), (1, .int (zI 3)), (2, .int (zI 0))]) ?_ rfl rfl rfl rfl
  refine G_iload_n hX 1 rfl rfl d_Df_copy_0 ?_
  refine F_callS hX (st := []) (c_Df_isFile E f (3) (by omega)) cm_Df_isFile sm_Df_isFile ml_Df_98 d_Df_copy_1 rfl rfl (Nat.le_of_ble_eq_true rfl) (by decide) ?_
  rintro _ f1 ⟨rfl, e4⟩
  obtain rfl := e4.symm
  refine G_cast (st' := [.int (zI (if 0 ≤ (3 : Int) ∧ (3 : Int) ≤ 3 then 1 else 0))]) ?_ rfl rfl rfl rfl
  refine G_top (show zI (if 0 ≤ (3 : Int) ∧ (3 : Int) ≤ 3 then 1 else 0) = zI 1 from by rw [if_pos (by omega)]) ?_
  refine G_if_eq_z hX (tgt := 36) d_Df_copy_4 rfl (by omega) (fun c5 => by exfalso; omega) (fun c6 => ?_)
  refine G_iload_n hX 2 rfl rfl d_Df_copy_7 ?_
  refine F_callS hX (st := []) (c_Df_isWritable E f (0) (by omega)) cm_Df_isWritable sm_Df_isWritable ml_Df_77 d_Df_copy_8 rfl rfl (Nat.le_of_ble_eq_true rfl) (by decide) ?_
  rintro _ f7 ⟨rfl, e10⟩
  obtain rfl := e10.symm
  refine G_cast (st' := [.int (zI (if 0 ≤ (0 : Int) ∧ (0 : Int) ≤ 2 then 1 else 0))]) ?_ rfl rfl rfl rfl
  refine G_top (show zI (if 0 ≤ (0 : Int) ∧ (0 : Int) ≤ 2 then 1 else 0) = zI 1 from by rw [if_pos (by omega)]) ?_
  refine G_if_eq_z hX (tgt := 36) d_Df_copy_11 rfl (by omega) (fun c11 => by exfalso; omega) (fun c12 => ?_)
  refine G_aload_n hX 0 rfl rfl d_Df_copy_14 ?_
  refine F_get hX fg_Df_9 d_Df_copy_15 0 (by decide) hF.1 rfl ?_
  refine G_iload_n hX 1 rfl rfl d_Df_copy_18 ?_
  refine F_aald hX d_Df_copy_19 1 (by decide) hF.2 (by decide) (a := eA E 8) rfl ?_
  refine F_get hX fg_Df_101 d_Df_copy_20 8 (by decide) hO.1 rfl ?_
  refine G_aload_n hX 0 rfl rfl d_Df_copy_23 ?_
  refine F_get hX fg_Df_9 d_Df_copy_24 0 (by decide) hF.1 rfl ?_
  refine G_iload_n hX 2 rfl rfl d_Df_copy_27 ?_
  refine F_aald hX d_Df_copy_28 1 (by decide) hF.2 (by decide) (a := eA E 2) rfl ?_
  refine F_get hX fg_Df_94 d_Df_copy_29 2 (by decide) hR.1 rfl ?_
  refine F_alen hX d_Df_copy_32 3 (by decide) hR.2 ?_
  refine G_icmp_le_z hX (tgt := 38) d_Df_copy_33 rfl (by omega) (fun c13 => ?_) (fun c14 => by exfalso; omega)
  refine G_aload_n hX 0 rfl rfl d_Df_copy_38 ?_
  refine F_get hX fg_Df_9 d_Df_copy_39 0 (by decide) hF.1 rfl ?_
  refine G_iload_n hX 2 rfl rfl d_Df_copy_42 ?_
  refine F_aald hX d_Df_copy_43 1 (by decide) hF.2 (by decide) (a := eA E 2) rfl ?_
  refine G_aload_n hX 0 rfl rfl d_Df_copy_44 ?_
  refine F_get hX fg_Df_9 d_Df_copy_45 0 (by decide) hF.1 rfl ?_
  refine G_iload_n hX 1 rfl rfl d_Df_copy_48 ?_
  refine F_aald hX d_Df_copy_49 1 (by decide) hF.2 (by decide) (a := eA E 8) rfl ?_
  refine F_callV hX (st := []) (c_Ro_become E f 2 3 300 g c 8 9 300 g0 c0 (by decide) (by decide) (by decide) ⟨hR.1, hR.2⟩ (by omega) (by decide) (by decide) (by decide) (by decide) ⟨hO.1, hO.2⟩ (by omega)) cm_Ro_become im_Ro_become se_Ro_become rfl ml_Df_104 d_Df_copy_50 (by decide) hR.1 rfl rfl (Nat.le_of_ble_eq_true rfl) (by decide) ?_
  rintro _ f15 ⟨rfl, ⟨h18, h19⟩, k20⟩
  refine G_cast (st' := []) ?_ rfl rfl rfl rfl
  refine G_aload_n hX 0 rfl rfl d_Df_copy_53 ?_
  refine G_iload_n hX 2 rfl rfl d_Df_copy_54 ?_
  have h21 : f15 0 = ob 11 [.ref (eA E 1), .ref (eA E 10), .ref (eA E 13), .ref (eA E 14), .ref (eA E 22), .ref (eA E 27), .ref (eA E 29), .ref (eA E 44), .int (zI bk), .int (zI wi), .int (zI ns), .long n1, .long n2] := (k20 0 (by decide)).trans hF.1
  have h22 : f15 1 = ra E 4 (fun j => some (eA E (2 + 2 * j))) := (k20 1 (by decide)).trans hF.2
  refine F_callV hX (st := []) (c_Df_giveUp_0 E f15 bk wi ns n1 n2 ⟨h21, h22⟩) cm_Df_giveUpPlanOf im_Df_giveUpPlanOf se_Df_giveUpPlanOf rfl ml_Df_88 d_Df_copy_55 (by decide) h21 rfl rfl (Nat.le_of_ble_eq_true rfl) (by decide) ?_
  rintro _ f23 ⟨rfl, e26⟩
  obtain rfl := e26.symm
  refine G_cast (st' := []) ?_ rfl rfl rfl rfl
  refine G_iconst hX d_Df_copy_58 ?_
  exact F_zret hX hE (by decide) d_Df_copy_59 ⟨rfl, ⟨h18, h19⟩, (Fr.tr Fr.rf k20 (by decide))⟩
theorem c_Df_copy_31 (E : EV) (f : Nat → va_E) (bk wi ns : Int) (n1 n2 : Int64) (g : Int → Int) (c : Int) (g0 : Int → Int) (c0 : Int) (P : PS) (md w s : Int) (hF : isDf E f bk wi ns n1 n2) (hR : isR E f 4 5 300 g c) (hc : 0 ≤ c ∧ c ≤ 300) (hO : isR E f 8 9 300 g0 c0) (hc0 : 0 ≤ c0 ∧ c0 ≤ 300) (hP : isPl E f P md w s) (hle : c0 ≤ 300) : CF yn_Df_copy cd_Df_copy 3 (some (.boolean)) 3 E [.ref (eA E 0), .int (zI 3), .int (zI 1)] f (fun r f' => r = some (.int (zI 1)) ∧ isR E f' 4 5 300 (cz g0 g 0 0 c0) c0 ∧ isPl E f' P 0 w s ∧ Fr [4, 5, 22] f f') := by
  refine CF.of (by decide +kernel) (Nat.le_of_ble_eq_true rfl) fun X hX hE => ?_
  have hX : Ok E X "DeltaFerry" "copy" cd_Df_copy 3 (some (.boolean)) (rl 3) := hX
  refine G_cast (lv' := [(0, .ref (eA E 0)), (1, .int (zI 3)), (2, .int (zI 1))]) ?_ rfl rfl rfl rfl
  refine G_iload_n hX 1 rfl rfl d_Df_copy_0 ?_
  refine F_callS hX (st := []) (c_Df_isFile E f (3) (by omega)) cm_Df_isFile sm_Df_isFile ml_Df_98 d_Df_copy_1 rfl rfl (Nat.le_of_ble_eq_true rfl) (by decide) ?_
  rintro _ f1 ⟨rfl, e4⟩
  obtain rfl := e4.symm
  refine G_cast (st' := [.int (zI (if 0 ≤ (3 : Int) ∧ (3 : Int) ≤ 3 then 1 else 0))]) ?_ rfl rfl rfl rfl
  refine G_top (show zI (if 0 ≤ (3 : Int) ∧ (3 : Int) ≤ 3 then 1 else 0) = zI 1 from by rw [if_pos (by omega)]) ?_
  refine G_if_eq_z hX (tgt := 36) d_Df_copy_4 rfl (by omega) (fun c5 => by exfalso; omega) (fun c6 => ?_)
  refine G_iload_n hX 2 rfl rfl d_Df_copy_7 ?_
  refine F_callS hX (st := []) (c_Df_isWritable E f (1) (by omega)) cm_Df_isWritable sm_Df_isWritable ml_Df_77 d_Df_copy_8 rfl rfl (Nat.le_of_ble_eq_true rfl) (by decide) ?_
  rintro _ f7 ⟨rfl, e10⟩
  obtain rfl := e10.symm
  refine G_cast (st' := [.int (zI (if 0 ≤ (1 : Int) ∧ (1 : Int) ≤ 2 then 1 else 0))]) ?_ rfl rfl rfl rfl
  refine G_top (show zI (if 0 ≤ (1 : Int) ∧ (1 : Int) ≤ 2 then 1 else 0) = zI 1 from by rw [if_pos (by omega)]) ?_
  refine G_if_eq_z hX (tgt := 36) d_Df_copy_11 rfl (by omega) (fun c11 => by exfalso; omega) (fun c12 => ?_)
  refine G_aload_n hX 0 rfl rfl d_Df_copy_14 ?_
  refine F_get hX fg_Df_9 d_Df_copy_15 0 (by decide) hF.1 rfl ?_
  refine G_iload_n hX 1 rfl rfl d_Df_copy_18 ?_
  refine F_aald hX d_Df_copy_19 1 (by decide) hF.2 (by decide) (a := eA E 8) rfl ?_
  refine F_get hX fg_Df_101 d_Df_copy_20 8 (by decide) hO.1 rfl ?_
  refine G_aload_n hX 0 rfl rfl d_Df_copy_23 ?_
  refine F_get hX fg_Df_9 d_Df_copy_24 0 (by decide) hF.1 rfl ?_
  refine G_iload_n hX 2 rfl rfl d_Df_copy_27 ?_
  refine F_aald hX d_Df_copy_28 1 (by decide) hF.2 (by decide) (a := eA E 4) rfl ?_
  refine F_get hX fg_Df_94 d_Df_copy_29 4 (by decide) hR.1 rfl ?_
  refine F_alen hX d_Df_copy_32 5 (by decide) hR.2 ?_
  refine G_icmp_le_z hX (tgt := 38) d_Df_copy_33 rfl (by omega) (fun c13 => ?_) (fun c14 => by exfalso; omega)
  refine G_aload_n hX 0 rfl rfl d_Df_copy_38 ?_
  refine F_get hX fg_Df_9 d_Df_copy_39 0 (by decide) hF.1 rfl ?_
  refine G_iload_n hX 2 rfl rfl d_Df_copy_42 ?_
  refine F_aald hX d_Df_copy_43 1 (by decide) hF.2 (by decide) (a := eA E 4) rfl ?_
  refine G_aload_n hX 0 rfl rfl d_Df_copy_44 ?_
  refine F_get hX fg_Df_9 d_Df_copy_45 0 (by decide) hF.1 rfl ?_
  refine G_iload_n hX 1 rfl rfl d_Df_copy_48 ?_
  refine F_aald hX d_Df_copy_49 1 (by decide) hF.2 (by decide) (a := eA E 8) rfl ?_
  refine F_callV hX (st := []) (c_Ro_become E f 4 5 300 g c 8 9 300 g0 c0 (by decide) (by decide) (by decide) ⟨hR.1, hR.2⟩ (by omega) (by decide) (by decide) (by decide) (by decide) ⟨hO.1, hO.2⟩ (by omega)) cm_Ro_become im_Ro_become se_Ro_become rfl ml_Df_104 d_Df_copy_50 (by decide) hR.1 rfl rfl (Nat.le_of_ble_eq_true rfl) (by decide) ?_
  rintro _ f15 ⟨rfl, ⟨h18, h19⟩, k20⟩
  refine G_cast (st' := []) ?_ rfl rfl rfl rfl
  refine G_aload_n hX 0 rfl rfl d_Df_copy_53 ?_
  refine G_iload_n hX 2 rfl rfl d_Df_copy_54 ?_
  have h21 : f15 0 = ob 11 [.ref (eA E 1), .ref (eA E 10), .ref (eA E 13), .ref (eA E 14), .ref (eA E 22), .ref (eA E 27), .ref (eA E 29), .ref (eA E 44), .int (zI bk), .int (zI wi), .int (zI ns), .long n1, .long n2] := (k20 0 (by decide)).trans hF.1
  have h22 : f15 1 = ra E 4 (fun j => some (eA E (2 + 2 * j))) := (k20 1 (by decide)).trans hF.2
  have h23 : f15 22 = ob 4 [.ref (eA E 23), .ref (eA E 24), .ref (eA E 25), .ref (eA E 26), .int (zI md), .int (zI (pC P)), .int (zI w), .int (zI s)] := (k20 22 (by decide)).trans hP.1
  have h24 : f15 23 = iz E 300 (pT P) := (k20 23 (by decide)).trans hP.2.1
  have h25 : f15 24 = iz E 300 (pS P) := (k20 24 (by decide)).trans hP.2.2.1
  have h26 : f15 25 = iz E 300 (pA P) := (k20 25 (by decide)).trans hP.2.2.2.1
  have h27 : f15 26 = iz E 300 (pN P) := (k20 26 (by decide)).trans hP.2.2.2.2
  refine F_callV hX (st := []) (c_Df_giveUp_1 E f15 bk wi ns n1 n2 P md w s ⟨h21, h22⟩ ⟨h23, h24, h25, h26, h27⟩) cm_Df_giveUpPlanOf im_Df_giveUpPlanOf se_Df_giveUpPlanOf rfl ml_Df_88 d_Df_copy_55 (by decide) h21 rfl rfl (Nat.le_of_ble_eq_true rfl) (by decide) ?_
  rintro _ f28 ⟨rfl, ⟨h31, h32, h33, h34, h35⟩, k36⟩
  refine G_cast (st' := []) ?_ rfl rfl rfl rfl
  refine G_iconst hX d_Df_copy_58 ?_
  have h37 : f28 4 = ob 6 [.ref (eA E 5), .int (zI c0)] := (k36 4 (by decide)).trans h18
  have h38 : f28 5 = iz E 300 (cz g0 g 0 0 c0) := (k36 5 (by decide)).trans h19
  exact F_zret hX hE (by decide) d_Df_copy_59 ⟨rfl, ⟨h37, h38⟩, ⟨h31, h32, h33, h34, h35⟩, (Fr.tr (Fr.tr Fr.rf k20 (by decide)) k36 (by decide))⟩
theorem c_Df_copy_32 (E : EV) (f : Nat → va_E) (bk wi ns : Int) (n1 n2 : Int64) (g : Int → Int) (c : Int) (g0 : Int → Int) (c0 : Int) (hF : isDf E f bk wi ns n1 n2) (hR : isR E f 6 7 700 g c) (hc : 0 ≤ c ∧ c ≤ 700) (hO : isR E f 8 9 300 g0 c0) (hc0 : 0 ≤ c0 ∧ c0 ≤ 300) (hle : c0 ≤ 700) : CF yn_Df_copy cd_Df_copy 3 (some (.boolean)) 3 E [.ref (eA E 0), .int (zI 3), .int (zI 2)] f (fun r f' => r = some (.int (zI 1)) ∧ isR E f' 6 7 700 (cz g0 g 0 0 c0) c0 ∧ Fr [6, 7] f f') := by
  refine CF.of (by decide +kernel) (Nat.le_of_ble_eq_true rfl) fun X hX hE => ?_
  have hX : Ok E X "DeltaFerry" "copy" cd_Df_copy 3 (some (.boolean)) (rl 3) := hX
  refine G_cast (lv' := [(0, .ref (eA E 0)), (1, .int (zI 3)), (2, .int (zI 2))]) ?_ rfl rfl rfl rfl
  refine G_iload_n hX 1 rfl rfl d_Df_copy_0 ?_
  refine F_callS hX (st := []) (c_Df_isFile E f (3) (by omega)) cm_Df_isFile sm_Df_isFile ml_Df_98 d_Df_copy_1 rfl rfl (Nat.le_of_ble_eq_true rfl) (by decide) ?_
  rintro _ f1 ⟨rfl, e4⟩
  obtain rfl := e4.symm
  refine G_cast (st' := [.int (zI (if 0 ≤ (3 : Int) ∧ (3 : Int) ≤ 3 then 1 else 0))]) ?_ rfl rfl rfl rfl
  refine G_top (show zI (if 0 ≤ (3 : Int) ∧ (3 : Int) ≤ 3 then 1 else 0) = zI 1 from by rw [if_pos (by omega)]) ?_
  refine G_if_eq_z hX (tgt := 36) d_Df_copy_4 rfl (by omega) (fun c5 => by exfalso; omega) (fun c6 => ?_)
  refine G_iload_n hX 2 rfl rfl d_Df_copy_7 ?_
  refine F_callS hX (st := []) (c_Df_isWritable E f (2) (by omega)) cm_Df_isWritable sm_Df_isWritable ml_Df_77 d_Df_copy_8 rfl rfl (Nat.le_of_ble_eq_true rfl) (by decide) ?_
  rintro _ f7 ⟨rfl, e10⟩
  obtain rfl := e10.symm
  refine G_cast (st' := [.int (zI (if 0 ≤ (2 : Int) ∧ (2 : Int) ≤ 2 then 1 else 0))]) ?_ rfl rfl rfl rfl
  refine G_top (show zI (if 0 ≤ (2 : Int) ∧ (2 : Int) ≤ 2 then 1 else 0) = zI 1 from by rw [if_pos (by omega)]) ?_
  refine G_if_eq_z hX (tgt := 36) d_Df_copy_11 rfl (by omega) (fun c11 => by exfalso; omega) (fun c12 => ?_)
  refine G_aload_n hX 0 rfl rfl d_Df_copy_14 ?_
  refine F_get hX fg_Df_9 d_Df_copy_15 0 (by decide) hF.1 rfl ?_
  refine G_iload_n hX 1 rfl rfl d_Df_copy_18 ?_
  refine F_aald hX d_Df_copy_19 1 (by decide) hF.2 (by decide) (a := eA E 8) rfl ?_
  refine F_get hX fg_Df_101 d_Df_copy_20 8 (by decide) hO.1 rfl ?_
  refine G_aload_n hX 0 rfl rfl d_Df_copy_23 ?_
  refine F_get hX fg_Df_9 d_Df_copy_24 0 (by decide) hF.1 rfl ?_
  refine G_iload_n hX 2 rfl rfl d_Df_copy_27 ?_
  refine F_aald hX d_Df_copy_28 1 (by decide) hF.2 (by decide) (a := eA E 6) rfl ?_
  refine F_get hX fg_Df_94 d_Df_copy_29 6 (by decide) hR.1 rfl ?_
  refine F_alen hX d_Df_copy_32 7 (by decide) hR.2 ?_
  refine G_icmp_le_z hX (tgt := 38) d_Df_copy_33 rfl (by omega) (fun c13 => ?_) (fun c14 => by exfalso; omega)
  refine G_aload_n hX 0 rfl rfl d_Df_copy_38 ?_
  refine F_get hX fg_Df_9 d_Df_copy_39 0 (by decide) hF.1 rfl ?_
  refine G_iload_n hX 2 rfl rfl d_Df_copy_42 ?_
  refine F_aald hX d_Df_copy_43 1 (by decide) hF.2 (by decide) (a := eA E 6) rfl ?_
  refine G_aload_n hX 0 rfl rfl d_Df_copy_44 ?_
  refine F_get hX fg_Df_9 d_Df_copy_45 0 (by decide) hF.1 rfl ?_
  refine G_iload_n hX 1 rfl rfl d_Df_copy_48 ?_
  refine F_aald hX d_Df_copy_49 1 (by decide) hF.2 (by decide) (a := eA E 8) rfl ?_
  refine F_callV hX (st := []) (c_Ro_become E f 6 7 700 g c 8 9 300 g0 c0 (by decide) (by decide) (by decide) ⟨hR.1, hR.2⟩ (by omega) (by decide) (by decide) (by decide) (by decide) ⟨hO.1, hO.2⟩ (by omega)) cm_Ro_become im_Ro_become se_Ro_become rfl ml_Df_104 d_Df_copy_50 (by decide) hR.1 rfl rfl (Nat.le_of_ble_eq_true rfl) (by decide) ?_
  rintro _ f15 ⟨rfl, ⟨h18, h19⟩, k20⟩
  refine G_cast (st' := []) ?_ rfl rfl rfl rfl
  refine G_aload_n hX 0 rfl rfl d_Df_copy_53 ?_
  refine G_iload_n hX 2 rfl rfl d_Df_copy_54 ?_
  have h21 : f15 0 = ob 11 [.ref (eA E 1), .ref (eA E 10), .ref (eA E 13), .ref (eA E 14), .ref (eA E 22), .ref (eA E 27), .ref (eA E 29), .ref (eA E 44), .int (zI bk), .int (zI wi), .int (zI ns), .long n1, .long n2] := (k20 0 (by decide)).trans hF.1
  have h22 : f15 1 = ra E 4 (fun j => some (eA E (2 + 2 * j))) := (k20 1 (by decide)).trans hF.2
  refine F_callV hX (st := []) (c_Df_giveUp_2 E f15 bk wi ns n1 n2 ⟨h21, h22⟩) cm_Df_giveUpPlanOf im_Df_giveUpPlanOf se_Df_giveUpPlanOf rfl ml_Df_88 d_Df_copy_55 (by decide) h21 rfl rfl (Nat.le_of_ble_eq_true rfl) (by decide) ?_
  rintro _ f23 ⟨rfl, e26⟩
  obtain rfl := e26.symm
  refine G_cast (st' := []) ?_ rfl rfl rfl rfl
  refine G_iconst hX d_Df_copy_58 ?_
  exact F_zret hX hE (by decide) d_Df_copy_59 ⟨rfl, ⟨h18, h19⟩, (Fr.tr Fr.rf k20 (by decide))⟩
theorem c_Df_copy_nf (E : EV) (f : Nat → va_E) (bk wi ns : Int) (n1 n2 : Int64) (a b : Int) (hF : isDf E f bk wi ns n1 n2) (hk : (a < 0 ∨ 3 < a) ∨ (b < 0 ∨ 2 < b)) (hk2 : -2147483648 ≤ a ∧ a < 2147483648 ∧ -2147483648 ≤ b ∧ b < 2147483648) : CF yn_Df_copy cd_Df_copy 3 (some (.boolean)) 3 E [.ref (eA E 0), .int (zI a), .int (zI b)] f (fun r f' => r = some (.int (zI 0)) ∧ f' = f) := by
  refine CF.of (by decide +kernel) (Nat.le_of_ble_eq_true rfl) fun X hX hE => ?_
  have hX : Ok E X "DeltaFerry" "copy" cd_Df_copy 3 (some (.boolean)) (rl 3) := hX
  refine G_cast (lv' := [(0, .ref (eA E 0)), (1, .int (zI a)), (2, .int (zI b))]) ?_ rfl rfl rfl rfl
  refine G_iload_n hX 1 rfl rfl d_Df_copy_0 ?_
  refine F_callS hX (st := []) (c_Df_isFile E f a (by omega)) cm_Df_isFile sm_Df_isFile ml_Df_98 d_Df_copy_1 rfl rfl (Nat.le_of_ble_eq_true rfl) (by decide) ?_
  rintro _ f1 ⟨rfl, e4⟩
  obtain rfl := e4.symm
  refine G_cast (st' := [.int (zI (if 0 ≤ a ∧ a ≤ 3 then 1 else 0))]) ?_ rfl rfl rfl rfl
  by_cases hw5 : 0 ≤ a ∧ a ≤ 3
  · skip
    refine G_top (show zI (if 0 ≤ a ∧ a ≤ 3 then 1 else 0) = zI 1 from by rw [if_pos hw5]) ?_
    refine G_if_eq_z hX (tgt := 36) d_Df_copy_4 rfl (by omega) (fun c6 => by exfalso; omega) (fun c7 => ?_)
    refine G_iload_n hX 2 rfl rfl d_Df_copy_7 ?_
    refine F_callS hX (st := []) (c_Df_isWritable E f b (by omega)) cm_Df_isWritable sm_Df_isWritable ml_Df_77 d_Df_copy_8 rfl rfl (Nat.le_of_ble_eq_true rfl) (by decide) ?_
    rintro _ f8 ⟨rfl, e11⟩
    obtain rfl := e11.symm
    refine G_cast (st' := [.int (zI (if 0 ≤ b ∧ b ≤ 2 then 1 else 0))]) ?_ rfl rfl rfl rfl
    by_cases hw12 : 0 ≤ b ∧ b ≤ 2
    · skip
      refine G_top (show zI (if 0 ≤ b ∧ b ≤ 2 then 1 else 0) = zI 1 from by rw [if_pos hw12]) ?_
      refine G_if_eq_z hX (tgt := 36) d_Df_copy_11 rfl (by omega) (fun c13 => by exfalso; omega) (fun c14 => ?_)
      exfalso; omega
    · skip
      refine G_top (show zI (if 0 ≤ b ∧ b ≤ 2 then 1 else 0) = zI 0 from by rw [if_neg hw12]) ?_
      refine G_if_eq_z hX (tgt := 36) d_Df_copy_11 rfl (by omega) (fun c15 => ?_) (fun c16 => by exfalso; omega)
      refine G_iconst hX d_Df_copy_36 ?_
      exact F_zret hX hE (by decide) d_Df_copy_37 ⟨rfl, rfl⟩
  · skip
    refine G_top (show zI (if 0 ≤ a ∧ a ≤ 3 then 1 else 0) = zI 0 from by rw [if_neg hw5]) ?_
    refine G_if_eq_z hX (tgt := 36) d_Df_copy_4 rfl (by omega) (fun c17 => ?_) (fun c18 => by exfalso; omega)
    refine G_iconst hX d_Df_copy_36 ?_
    exact F_zret hX hE (by decide) d_Df_copy_37 ⟨rfl, rfl⟩
theorem c_Df_clear_0 (E : EV) (f : Nat → va_E) (bk wi ns : Int) (n1 n2 : Int64) (g : Int → Int) (c : Int) (hF : isDf E f bk wi ns n1 n2) (hR : isR E f 2 3 300 g c) (hc : 0 ≤ c ∧ c ≤ 300) : CF yn_Df_clear cd_Df_clear 3 (some (.int)) 1 E [.ref (eA E 0), .int (zI 0)] f (fun r f' => r = some (.int (zI c)) ∧ isR E f' 2 3 300 g 0 ∧ Fr [2] f f') := by
  refine CF.of (by decide +kernel) (Nat.le_of_ble_eq_true rfl) fun X hX hE => ?_
  have hX : Ok E X "DeltaFerry" "clear" cd_Df_clear 3 (some (.int)) (rl 1) := hX
  refine G_cast (lv' := [(0, .ref (eA E 0)), (1, .int (zI 0))]) ?_ rfl rfl rfl rfl
  refine G_iload_n hX 1 rfl rfl d_Df_clear_0 ?_
  refine F_callS hX (st := []) (c_Df_isFile E f (0) (by omega)) cm_Df_isFile sm_Df_isFile ml_Df_98 d_Df_clear_1 rfl rfl (Nat.le_of_ble_eq_true rfl) (by decide) ?_
  rintro _ f1 ⟨rfl, e4⟩
  obtain rfl := e4.symm
  refine G_cast (st' := [.int (zI (if 0 ≤ (0 : Int) ∧ (0 : Int) ≤ 3 then 1 else 0))]) ?_ rfl rfl rfl rfl
  refine G_top (show zI (if 0 ≤ (0 : Int) ∧ (0 : Int) ≤ 3 then 1 else 0) = zI 1 from by rw [if_pos (by omega)]) ?_
  refine G_if_ne_z hX (tgt := 9) d_Df_clear_4 rfl (by omega) (fun c5 => ?_) (fun c6 => by exfalso; omega)
  refine G_aload_n hX 0 rfl rfl d_Df_clear_9 ?_
  refine F_get hX fg_Df_9 d_Df_clear_10 0 (by decide) hF.1 rfl ?_
  refine G_iload_n hX 1 rfl rfl d_Df_clear_13 ?_
  refine F_aald hX d_Df_clear_14 1 (by decide) hF.2 (by decide) (a := eA E 2) rfl ?_
  refine F_get hX fg_Df_101 d_Df_clear_15 2 (by decide) hR.1 rfl ?_
  refine G_istore_n hX (lv' := [(2, .int (zI c)), (0, .ref (eA E 0)), (1, .int (zI 0))]) rfl (by decide) rfl d_Df_clear_18 ?_
  refine G_aload_n hX 1 rfl rfl d_Df_clear_19 ?_
  refine F_get hX fg_Df_9 d_Df_clear_20 0 (by decide) hF.1 rfl ?_
  refine G_iload_n hX 2 rfl rfl d_Df_clear_23 ?_
  refine F_aald hX d_Df_clear_24 1 (by decide) hF.2 (by decide) (a := eA E 2) rfl ?_
  refine G_iconst hX d_Df_clear_25 ?_
  refine F_put hX fg_Df_101 fp_Ro_1 d_Df_clear_26 2 (fs' := [.ref (eA E 3), .int (zI 0)]) (by decide) hR.1 rfl rfl (Nat.le_of_ble_eq_true rfl) rfl (fun f7 h8 k9 => ?_)
  refine G_aload_n hX 1 rfl rfl d_Df_clear_29 ?_
  refine G_iload_n hX 2 rfl rfl d_Df_clear_30 ?_
  have h10 : f7 0 = ob 11 [.ref (eA E 1), .ref (eA E 10), .ref (eA E 13), .ref (eA E 14), .ref (eA E 22), .ref (eA E 27), .ref (eA E 29), .ref (eA E 44), .int (zI bk), .int (zI wi), .int (zI ns), .long n1, .long n2] := (k9 0 (by decide)).trans hF.1
  have h11 : f7 1 = ra E 4 (fun j => some (eA E (2 + 2 * j))) := (k9 1 (by decide)).trans hF.2
  refine F_callV hX (st := []) (c_Df_giveUp_0 E f7 bk wi ns n1 n2 ⟨h10, h11⟩) cm_Df_giveUpPlanOf im_Df_giveUpPlanOf se_Df_giveUpPlanOf rfl ml_Df_88 d_Df_clear_31 (by decide) h10 rfl rfl (Nat.le_of_ble_eq_true rfl) (by decide) ?_
  rintro _ f12 ⟨rfl, e15⟩
  obtain rfl := e15.symm
  refine G_cast (st' := []) ?_ rfl rfl rfl rfl
  refine G_iload_n hX 0 rfl rfl d_Df_clear_34 ?_
  have h16 : f7 3 = iz E 300 g := (k9 3 (by decide)).trans hR.2
  exact F_iret hX hE d_Df_clear_35 ⟨rfl, ⟨h8, h16⟩, (Fr.tr Fr.rf k9 (by decide))⟩
theorem c_Df_size_0 (E : EV) (f : Nat → va_E) (bk wi ns : Int) (n1 n2 : Int64) (g : Int → Int) (c : Int) (hF : isDf E f bk wi ns n1 n2) (hR : isR E f 2 3 300 g c) (hc : 0 ≤ c ∧ c ≤ 300) : CF yn_Df_size cd_Df_size 2 (some (.int)) 1 E [.ref (eA E 0), .int (zI 0)] f (fun r f' => r = some (.int (zI c)) ∧ f' = f) := by
  refine CF.of (by decide +kernel) (Nat.le_of_ble_eq_true rfl) fun X hX hE => ?_
  have hX : Ok E X "DeltaFerry" "size" cd_Df_size 2 (some (.int)) (rl 1) := hX
  refine G_cast (lv' := [(0, .ref (eA E 0)), (1, .int (zI 0))]) ?_ rfl rfl rfl rfl
  refine G_iload_n hX 1 rfl rfl d_Df_size_0 ?_
  refine F_callS hX (st := []) (c_Df_isFile E f (0) (by omega)) cm_Df_isFile sm_Df_isFile ml_Df_98 d_Df_size_1 rfl rfl (Nat.le_of_ble_eq_true rfl) (by decide) ?_
  rintro _ f1 ⟨rfl, e4⟩
  obtain rfl := e4.symm
  refine G_cast (st' := [.int (zI (if 0 ≤ (0 : Int) ∧ (0 : Int) ≤ 3 then 1 else 0))]) ?_ rfl rfl rfl rfl
  refine G_top (show zI (if 0 ≤ (0 : Int) ∧ (0 : Int) ≤ 3 then 1 else 0) = zI 1 from by rw [if_pos (by omega)]) ?_
  refine G_if_eq_z hX (tgt := 19) d_Df_size_4 rfl (by omega) (fun c5 => by exfalso; omega) (fun c6 => ?_)
  refine G_aload_n hX 0 rfl rfl d_Df_size_7 ?_
  refine F_get hX fg_Df_9 d_Df_size_8 0 (by decide) hF.1 rfl ?_
  refine G_iload_n hX 1 rfl rfl d_Df_size_11 ?_
  refine F_aald hX d_Df_size_12 1 (by decide) hF.2 (by decide) (a := eA E 2) rfl ?_
  refine F_get hX fg_Df_101 d_Df_size_13 2 (by decide) hR.1 rfl ?_
  refine G_goto hX (tgt := 20) d_Df_size_16 rfl ?_
  exact F_iret hX hE d_Df_size_20 ⟨rfl, rfl⟩
theorem c_Df_at_0 (E : EV) (f : Nat → va_E) (bk wi ns : Int) (n1 n2 : Int64) (g : Int → Int) (c : Int) (p : Int) (hF : isDf E f bk wi ns n1 n2) (hR : isR E f 2 3 300 g c) (hc : 0 ≤ c ∧ c ≤ 300) (hp : 0 ≤ p ∧ p < c) : CF yn_Df_at cd_Df_at 3 (some (.int)) 1 E [.ref (eA E 0), .int (zI 0), .int (zI p)] f (fun r f' => r = some (.int (zI (g p))) ∧ f' = f) := by
  refine CF.of (by decide +kernel) (Nat.le_of_ble_eq_true rfl) fun X hX hE => ?_
  have hX : Ok E X "DeltaFerry" "at" cd_Df_at 3 (some (.int)) (rl 1) := hX
  refine G_cast (lv' := [(0, .ref (eA E 0)), (1, .int (zI 0)), (2, .int (zI p))]) ?_ rfl rfl rfl rfl
  refine G_iload_n hX 1 rfl rfl d_Df_at_0 ?_
  refine F_callS hX (st := []) (c_Df_isFile E f (0) (by omega)) cm_Df_isFile sm_Df_isFile ml_Df_98 d_Df_at_1 rfl rfl (Nat.le_of_ble_eq_true rfl) (by decide) ?_
  rintro _ f1 ⟨rfl, e4⟩
  obtain rfl := e4.symm
  refine G_cast (st' := [.int (zI (if 0 ≤ (0 : Int) ∧ (0 : Int) ≤ 3 then 1 else 0))]) ?_ rfl rfl rfl rfl
  refine G_top (show zI (if 0 ≤ (0 : Int) ∧ (0 : Int) ≤ 3 then 1 else 0) = zI 1 from by rw [if_pos (by omega)]) ?_
  refine G_if_eq_z hX (tgt := 34) d_Df_at_4 rfl (by omega) (fun c5 => by exfalso; omega) (fun c6 => ?_)
  refine G_aload_n hX 0 rfl rfl d_Df_at_7 ?_
  refine F_get hX fg_Df_9 d_Df_at_8 0 (by decide) hF.1 rfl ?_
  refine G_iload_n hX 1 rfl rfl d_Df_at_11 ?_
  refine F_aald hX d_Df_at_12 1 (by decide) hF.2 (by decide) (a := eA E 2) rfl ?_
  refine G_iload_n hX 2 rfl rfl d_Df_at_13 ?_
  refine F_callV hX (st := []) (c_Ro_has E f 2 3 300 g c p (by decide) (by decide) (by decide) ⟨hR.1, hR.2⟩ (by omega) (by omega)) cm_Ro_has im_Ro_has se_Ro_has rfl ml_Df_91 d_Df_at_14 (by decide) hR.1 rfl rfl (Nat.le_of_ble_eq_true rfl) (by decide) ?_
  rintro _ f7 ⟨rfl, e10⟩
  obtain rfl := e10.symm
  refine G_cast (st' := [.int (zI (if 0 ≤ p ∧ p < c then 1 else 0))]) ?_ rfl rfl rfl rfl
  refine G_top (show zI (if 0 ≤ p ∧ p < c then 1 else 0) = zI 1 from by rw [if_pos (by omega)]) ?_
  refine G_if_eq_z hX (tgt := 34) d_Df_at_17 rfl (by omega) (fun c11 => by exfalso; omega) (fun c12 => ?_)
  refine G_aload_n hX 0 rfl rfl d_Df_at_20 ?_
  refine F_get hX fg_Df_9 d_Df_at_21 0 (by decide) hF.1 rfl ?_
  refine G_iload_n hX 1 rfl rfl d_Df_at_24 ?_
  refine F_aald hX d_Df_at_25 1 (by decide) hF.2 (by decide) (a := eA E 2) rfl ?_
  refine F_get hX fg_Df_94 d_Df_at_26 2 (by decide) hR.1 rfl ?_
  refine G_iload_n hX 2 rfl rfl d_Df_at_29 ?_
  refine F_iald hX d_Df_at_30 3 (by decide) hR.2 (by omega) ?_
  refine G_goto hX (tgt := 35) d_Df_at_31 rfl ?_
  exact F_iret hX hE d_Df_at_35 ⟨rfl, rfl⟩
theorem c_Df_at_no0 (E : EV) (f : Nat → va_E) (bk wi ns : Int) (n1 n2 : Int64) (g : Int → Int) (c : Int) (p : Int) (hF : isDf E f bk wi ns n1 n2) (hR : isR E f 2 3 300 g c) (hc : 0 ≤ c ∧ c ≤ 300) (hp : p < 0 ∨ c ≤ p) (hp2 : -2147483648 ≤ p ∧ p < 2147483648) : CF yn_Df_at cd_Df_at 3 (some (.int)) 1 E [.ref (eA E 0), .int (zI 0), .int (zI p)] f (fun r f' => r = some (.int (zI (-1))) ∧ f' = f) := by
  refine CF.of (by decide +kernel) (Nat.le_of_ble_eq_true rfl) fun X hX hE => ?_
  have hX : Ok E X "DeltaFerry" "at" cd_Df_at 3 (some (.int)) (rl 1) := hX
  refine G_cast (lv' := [(0, .ref (eA E 0)), (1, .int (zI 0)), (2, .int (zI p))]) ?_ rfl rfl rfl rfl
  refine G_iload_n hX 1 rfl rfl d_Df_at_0 ?_
  refine F_callS hX (st := []) (c_Df_isFile E f (0) (by omega)) cm_Df_isFile sm_Df_isFile ml_Df_98 d_Df_at_1 rfl rfl (Nat.le_of_ble_eq_true rfl) (by decide) ?_
  rintro _ f1 ⟨rfl, e4⟩
  obtain rfl := e4.symm
  refine G_cast (st' := [.int (zI (if 0 ≤ (0 : Int) ∧ (0 : Int) ≤ 3 then 1 else 0))]) ?_ rfl rfl rfl rfl
  refine G_top (show zI (if 0 ≤ (0 : Int) ∧ (0 : Int) ≤ 3 then 1 else 0) = zI 1 from by rw [if_pos (by omega)]) ?_
  refine G_if_eq_z hX (tgt := 34) d_Df_at_4 rfl (by omega) (fun c5 => by exfalso; omega) (fun c6 => ?_)
  refine G_aload_n hX 0 rfl rfl d_Df_at_7 ?_
  refine F_get hX fg_Df_9 d_Df_at_8 0 (by decide) hF.1 rfl ?_
  refine G_iload_n hX 1 rfl rfl d_Df_at_11 ?_
  refine F_aald hX d_Df_at_12 1 (by decide) hF.2 (by decide) (a := eA E 2) rfl ?_
  refine G_iload_n hX 2 rfl rfl d_Df_at_13 ?_
  refine F_callV hX (st := []) (c_Ro_has E f 2 3 300 g c p (by decide) (by decide) (by decide) ⟨hR.1, hR.2⟩ (by omega) (by omega)) cm_Ro_has im_Ro_has se_Ro_has rfl ml_Df_91 d_Df_at_14 (by decide) hR.1 rfl rfl (Nat.le_of_ble_eq_true rfl) (by decide) ?_
  rintro _ f7 ⟨rfl, e10⟩
  obtain rfl := e10.symm
  refine G_cast (st' := [.int (zI (if 0 ≤ p ∧ p < c then 1 else 0))]) ?_ rfl rfl rfl rfl
  refine G_top (show zI (if 0 ≤ p ∧ p < c then 1 else 0) = zI 0 from by rw [if_neg (by omega)]) ?_
  refine G_if_eq_z hX (tgt := 34) d_Df_at_17 rfl (by omega) (fun c11 => ?_) (fun c12 => by exfalso; omega)
  refine G_iconst hX d_Df_at_34 ?_
  exact F_iret hX hE d_Df_at_35 ⟨rfl, rfl⟩
theorem c_Df_digest_0 (E : EV) (f : Nat → va_E) (bk wi ns : Int) (n1 n2 : Int64) (g : Int → Int) (c : Int) (s0 wd0 : Nat → Int32) (h : Int) (hF : isDf E f bk wi ns n1 n2) (hR : isR E f 2 3 300 g c) (hc : 0 ≤ c ∧ c ≤ 300) (hD : isD E f 10 11 12 s0 wd0) (hh : -2147483648 ≤ h ∧ h < 2147483648) : CF yn_Df_digest cd_Df_digest 3 (some (.long)) 3 E [.ref (eA E 0), .int (zI 0), .int (zI h)] f (fun r f' => r = some (.long (if h = 0 then dgA g 0 c else dgB g 0 c)) ∧ (∃ s' wd', isD E f' 10 11 12 s' wd') ∧ Fr [11, 12] f f') := by
  refine CF.of (by decide +kernel) (Nat.le_of_ble_eq_true rfl) fun X hX hE => ?_
  have hX : Ok E X "DeltaFerry" "digest" cd_Df_digest 3 (some (.long)) (rl 3) := hX
  refine G_cast (lv' := [(0, .ref (eA E 0)), (1, .int (zI 0)), (2, .int (zI h))]) ?_ rfl rfl rfl rfl
  refine G_iload_n hX 1 rfl rfl d_Df_digest_0 ?_
  refine F_callS hX (st := []) (c_Df_isFile E f (0) (by omega)) cm_Df_isFile sm_Df_isFile ml_Df_98 d_Df_digest_1 rfl rfl (Nat.le_of_ble_eq_true rfl) (by decide) ?_
  rintro _ f1 ⟨rfl, e4⟩
  obtain rfl := e4.symm
  refine G_cast (st' := [.int (zI (if 0 ≤ (0 : Int) ∧ (0 : Int) ≤ 3 then 1 else 0))]) ?_ rfl rfl rfl rfl
  refine G_top (show zI (if 0 ≤ (0 : Int) ∧ (0 : Int) ≤ 3 then 1 else 0) = zI 1 from by rw [if_pos (by omega)]) ?_
  refine G_if_ne_z hX (tgt := 9) d_Df_digest_4 rfl (by omega) (fun c5 => ?_) (fun c6 => by exfalso; omega)
  refine G_aload_n hX 0 rfl rfl d_Df_digest_9 ?_
  refine F_get hX fg_Df_18 d_Df_digest_10 0 (by decide) hF.1 rfl ?_
  refine G_aload_n hX 0 rfl rfl d_Df_digest_13 ?_
  refine F_get hX fg_Df_9 d_Df_digest_14 0 (by decide) hF.1 rfl ?_
  refine G_iload_n hX 1 rfl rfl d_Df_digest_17 ?_
  refine F_aald hX d_Df_digest_18 1 (by decide) hF.2 (by decide) (a := eA E 2) rfl ?_
  refine F_get hX fg_Df_94 d_Df_digest_19 2 (by decide) hR.1 rfl ?_
  refine G_iconst hX d_Df_digest_22 ?_
  refine G_aload_n hX 0 rfl rfl d_Df_digest_23 ?_
  refine F_get hX fg_Df_9 d_Df_digest_24 0 (by decide) hF.1 rfl ?_
  refine G_iload_n hX 1 rfl rfl d_Df_digest_27 ?_
  refine F_aald hX d_Df_digest_28 1 (by decide) hF.2 (by decide) (a := eA E 2) rfl ?_
  refine F_get hX fg_Df_101 d_Df_digest_29 2 (by decide) hR.1 rfl ?_
  refine F_callV hX (st := []) (c_Dg_take E f 10 11 12 s0 wd0 3 300 g 0 c (by decide) (by decide) (by decide) (by decide) (by decide) (by decide) (by decide) (by decide) (by decide) (by decide) ⟨hD.1, hD.2.1, hD.2.2⟩ hR.2 (by omega)) cm_Dg_take im_Dg_take se_Dg_take rfl ml_Df_108 d_Df_digest_32 (by decide) hD.1 rfl rfl (Nat.le_of_ble_eq_true rfl) (by decide) ?_
  rintro _ f7 ⟨rfl, ⟨wd10, h11, h12, h13⟩, k14⟩
  refine G_cast (st' := []) ?_ rfl rfl rfl rfl
  refine G_iload_n hX 2 rfl rfl d_Df_digest_35 ?_
  refine G_if_ne_z hX (tgt := 49) d_Df_digest_36 rfl (by omega) (fun c15 => ?_) (fun c16 => ?_)
  · skip
    refine G_aload_n hX 0 rfl rfl d_Df_digest_49 ?_
    have h17 : f7 0 = ob 11 [.ref (eA E 1), .ref (eA E 10), .ref (eA E 13), .ref (eA E 14), .ref (eA E 22), .ref (eA E 27), .ref (eA E 29), .ref (eA E 44), .int (zI bk), .int (zI wi), .int (zI ns), .long n1, .long n2] := (k14 0 (by decide)).trans hF.1
    refine F_get hX fg_Df_18 d_Df_digest_50 0 (by decide) h17 rfl ?_
    refine F_callV hX (st := []) (c_Dg_lastHalf E f7 10 11 12 (m5D g 0 c) wd10 (by decide) (by decide) (by decide) (by decide) (by decide) (by decide) ⟨h11, h12, h13⟩) cm_Dg_lastHalf im_Dg_lastHalf se_Dg_lastHalf rfl ml_Df_116 d_Df_digest_53 (by decide) h11 rfl rfl (Nat.le_of_ble_eq_true rfl) (by decide) ?_
    rintro _ f18 ⟨rfl, e21⟩
    obtain rfl := e21.symm
    refine G_cast (st' := [.long (hfF (m5D g 0 c).2.2.1 (m5D g 0 c).2.2.2)]) ?_ rfl rfl rfl rfl
    refine G_topl (show (hfF (m5D g 0 c).2.2.1 (m5D g 0 c).2.2.2) = (dgB g 0 c) from rfl) ?_
    exact F_lret hX hE d_Df_digest_56 ⟨by rw [if_neg (by omega)], ⟨_, _, h11, h12, h13⟩, (Fr.tr Fr.rf k14 (by decide))⟩
  · skip
    refine G_aload_n hX 0 rfl rfl d_Df_digest_39 ?_
    have h22 : f7 0 = ob 11 [.ref (eA E 1), .ref (eA E 10), .ref (eA E 13), .ref (eA E 14), .ref (eA E 22), .ref (eA E 27), .ref (eA E 29), .ref (eA E 44), .int (zI bk), .int (zI wi), .int (zI ns), .long n1, .long n2] := (k14 0 (by decide)).trans hF.1
    refine F_get hX fg_Df_18 d_Df_digest_40 0 (by decide) h22 rfl ?_
    refine F_callV hX (st := []) (c_Dg_firstHalf E f7 10 11 12 (m5D g 0 c) wd10 (by decide) (by decide) (by decide) (by decide) (by decide) (by decide) ⟨h11, h12, h13⟩) cm_Dg_firstHalf im_Dg_firstHalf se_Dg_firstHalf rfl ml_Df_112 d_Df_digest_43 (by decide) h11 rfl rfl (Nat.le_of_ble_eq_true rfl) (by decide) ?_
    rintro _ f23 ⟨rfl, e26⟩
    obtain rfl := e26.symm
    refine G_cast (st' := [.long (hfF (m5D g 0 c).1 (m5D g 0 c).2.1)]) ?_ rfl rfl rfl rfl
    refine G_topl (show (hfF (m5D g 0 c).1 (m5D g 0 c).2.1) = (dgA g 0 c) from rfl) ?_
    refine G_goto hX (tgt := 56) d_Df_digest_46 rfl ?_
    exact F_lret hX hE d_Df_digest_56 ⟨by rw [if_pos (by omega)], ⟨_, _, h11, h12, h13⟩, (Fr.tr Fr.rf k14 (by decide))⟩
theorem c_Df_sum_0 (E : EV) (f : Nat → va_E) (bk wi ns : Int) (n1 n2 : Int64) (g : Int → Int) (c : Int) (y0 y1 y2 y3 : Int32) (a m : Int) (hF : isDf E f bk wi ns n1 n2) (hR : isR E f 2 3 300 g c) (hc : 0 ≤ c ∧ c ≤ 300) (hB : isB g) (hW : f 13 = ob 8 [.int y0, .int y1, .int y2, .int y3]) (ham : -2147483648 ≤ a ∧ a < 2147483648 ∧ -2147483648 ≤ m ∧ m < 2147483648) : CF yn_Df_sum cd_Df_sum 5 (some (.long)) 1 E [.ref (eA E 0), .int (zI 0), .int (zI a), .int (zI m)] f (fun r f' => r = some (.long (zL (if a = 0 ∧ m = 0 then adV g 0 c else if a < 0 ∨ m < 1 ∨ c - m < a then -1 else wkV g a m))) ∧ (∃ z0 z1 z2 z3, f' 13 = ob 8 [.int z0, .int z1, .int z2, .int z3]) ∧ Fr [13] f f') := by
  refine CF.of (by decide +kernel) (Nat.le_of_ble_eq_true rfl) fun X hX hE => ?_
  have hX : Ok E X "DeltaFerry" "sum" cd_Df_sum 5 (some (.long)) (rl 1) := hX
  refine G_cast (lv' := [(0, .ref (eA E 0)), (1, .int (zI 0)), (2, .int (zI a)), (3, .int (zI m))]) ?_ rfl rfl rfl rfl
  refine G_iload_n hX 1 rfl rfl d_Df_sum_0 ?_
  refine F_callS hX (st := []) (c_Df_isFile E f (0) (by omega)) cm_Df_isFile sm_Df_isFile ml_Df_98 d_Df_sum_1 rfl rfl (Nat.le_of_ble_eq_true rfl) (by decide) ?_
  rintro _ f1 ⟨rfl, e4⟩
  obtain rfl := e4.symm
  refine G_cast (st' := [.int (zI (if 0 ≤ (0 : Int) ∧ (0 : Int) ≤ 3 then 1 else 0))]) ?_ rfl rfl rfl rfl
  refine G_top (show zI (if 0 ≤ (0 : Int) ∧ (0 : Int) ≤ 3 then 1 else 0) = zI 1 from by rw [if_pos (by omega)]) ?_
  refine G_if_eq_z hX (tgt := 15) d_Df_sum_4 rfl (by omega) (fun c5 => by exfalso; omega) (fun c6 => ?_)
  refine G_iload_n hX 2 rfl rfl d_Df_sum_7 ?_
  refine G_if_lt_z hX (tgt := 15) d_Df_sum_8 rfl (by omega) (fun c7 => ?_) (fun c8 => ?_)
  · skip
    refine G_ldc2 hX kn_Df_119 d_Df_sum_15 ?_
    refine G_topl (show (-1 : Int64) = zL (-1) from by decide) ?_
    exact F_lret hX hE d_Df_sum_18 ⟨by rw [if_neg (by omega), if_pos (by omega)], ⟨_, _, _, _, hW⟩, Fr.rf⟩
  · skip
    refine G_iload_n hX 3 rfl rfl d_Df_sum_11 ?_
    refine G_if_ge_z hX (tgt := 19) d_Df_sum_12 rfl (by omega) (fun c9 => ?_) (fun c10 => ?_)
    · skip
      refine G_aload_n hX 0 rfl rfl d_Df_sum_19 ?_
      refine F_get hX fg_Df_9 d_Df_sum_20 0 (by decide) hF.1 rfl ?_
      refine G_iload_n hX 1 rfl rfl d_Df_sum_23 ?_
      refine F_aald hX d_Df_sum_24 1 (by decide) hF.2 (by decide) (a := eA E 2) rfl ?_
      refine G_astore hX (lv' := [(4, .ref (eA E 2)), (0, .ref (eA E 0)), (1, .int (zI 0)), (2, .int (zI a)), (3, .int (zI m))]) (by decide) rfl d_Df_sum_25 ?_
      refine G_iload_n hX 4 rfl rfl d_Df_sum_27 ?_
      refine G_if_ne_z hX (tgt := 56) d_Df_sum_28 rfl (by omega) (fun c11 => ?_) (fun c12 => ?_)
      · skip
        refine G_iload_n hX 3 rfl rfl d_Df_sum_56 ?_
        refine G_aload hX 0 rfl d_Df_sum_57 ?_
        refine F_get hX fg_Df_101 d_Df_sum_59 2 (by decide) hR.1 rfl ?_
        refine G_iload_n hX 4 rfl rfl d_Df_sum_62 ?_
        refine G_isub_z hX d_Df_sum_63 ?_
        refine G_icmp_le_z hX (tgt := 71) d_Df_sum_64 rfl (by omega) (fun c13 => ?_) (fun c14 => ?_)
        · skip
          refine G_aload_n hX 1 rfl rfl d_Df_sum_71 ?_
          refine F_get hX fg_Df_25 d_Df_sum_72 0 (by decide) hF.1 rfl ?_
          refine G_aload hX 0 rfl d_Df_sum_75 ?_
          refine F_get hX fg_Df_94 d_Df_sum_77 2 (by decide) hR.1 rfl ?_
          refine G_iload_n hX 3 rfl rfl d_Df_sum_80 ?_
          refine G_iload_n hX 4 rfl rfl d_Df_sum_81 ?_
          refine F_callV hX (st := []) (c_Ws_take E f 13 3 300 g y0 y1 y2 y3 a m (by decide) (by decide) (by decide) hW hR.2 (by omega)) cm_Ws_take im_Ws_take se_Ws_take rfl ml_Df_125 d_Df_sum_82 (by decide) hW rfl rfl (Nat.le_of_ble_eq_true rfl) (by decide) ?_
          rintro _ f15 ⟨rfl, h18, k19⟩
          refine G_cast (st' := []) ?_ rfl rfl rfl rfl
          refine G_aload_n hX 1 rfl rfl d_Df_sum_85 ?_
          have h20 : f15 0 = ob 11 [.ref (eA E 1), .ref (eA E 10), .ref (eA E 13), .ref (eA E 14), .ref (eA E 22), .ref (eA E 27), .ref (eA E 29), .ref (eA E 44), .int (zI bk), .int (zI wi), .int (zI ns), .long n1, .long n2] := (k19 0 (by decide)).trans hF.1
          refine F_get hX fg_Df_25 d_Df_sum_86 0 (by decide) h20 rfl ?_
          refine F_callV hX (st := []) (c_Ws_value E f15 13 a m (sP g a (m).toNat) (sW g a m (m).toNat) (by decide) h18) cm_Ws_value im_Ws_value se_Ws_value rfl ml_Df_126 d_Df_sum_89 (by decide) h18 rfl rfl (Nat.le_of_ble_eq_true rfl) (by decide) ?_
          rintro _ f21 ⟨rfl, e24⟩
          obtain rfl := e24.symm
          refine G_cast (st' := [.long (zL (65536 * ((sW g a m (m).toNat) % 65536) + (sP g a (m).toNat) % 65536))]) ?_ rfl rfl rfl rfl
          exact F_lret hX hE d_Df_sum_92 ⟨by rw [if_neg (by omega), if_neg (by omega)]; rfl, ⟨_, _, _, _, h18⟩, (Fr.tr Fr.rf k19 (by decide))⟩
        · skip
          refine G_ldc2 hX kn_Df_119 d_Df_sum_67 ?_
          refine G_topl (show (-1 : Int64) = zL (-1) from by decide) ?_
          exact F_lret hX hE d_Df_sum_70 ⟨by rw [if_neg (by omega), if_pos (by omega)], ⟨_, _, _, _, hW⟩, Fr.rf⟩
      · skip
        refine G_iload_n hX 3 rfl rfl d_Df_sum_31 ?_
        refine G_if_ne_z hX (tgt := 52) d_Df_sum_32 rfl (by omega) (fun c25 => ?_) (fun c26 => ?_)
        · skip
          refine G_ldc2 hX kn_Df_119 d_Df_sum_52 ?_
          refine G_topl (show (-1 : Int64) = zL (-1) from by decide) ?_
          exact F_lret hX hE d_Df_sum_55 ⟨by rw [if_neg (by omega), if_pos (by omega)], ⟨_, _, _, _, hW⟩, Fr.rf⟩
        · skip
          refine G_aload hX 0 rfl d_Df_sum_35 ?_
          refine F_get hX fg_Df_94 d_Df_sum_37 2 (by decide) hR.1 rfl ?_
          refine G_iconst hX d_Df_sum_40 ?_
          refine G_aload hX 0 rfl d_Df_sum_41 ?_
          refine F_get hX fg_Df_101 d_Df_sum_43 2 (by decide) hR.1 rfl ?_
          refine F_callS hX (st := []) (c_Df_checkOf E f 3 300 g 0 c (by decide) hR.2 hB (by omega)) cm_Df_checkOf sm_Df_checkOf ml_Df_121 d_Df_sum_46 rfl rfl (Nat.le_of_ble_eq_true rfl) (by decide) ?_
          rintro _ f27 ⟨rfl, e30⟩
          obtain rfl := e30.symm
          refine G_cast (st' := [.long (zL (adV g 0 c))]) ?_ rfl rfl rfl rfl
          refine G_goto hX (tgt := 55) d_Df_sum_49 rfl ?_
          exact F_lret hX hE d_Df_sum_55 ⟨by rw [if_pos (by omega)], ⟨_, _, _, _, hW⟩, Fr.rf⟩
    · skip
      refine G_ldc2 hX kn_Df_119 d_Df_sum_15 ?_
      refine G_topl (show (-1 : Int64) = zL (-1) from by decide) ?_
      exact F_lret hX hE d_Df_sum_18 ⟨by rw [if_neg (by omega), if_pos (by omega)], ⟨_, _, _, _, hW⟩, Fr.rf⟩
theorem c_Df_clear_1 (E : EV) (f : Nat → va_E) (bk wi ns : Int) (n1 n2 : Int64) (g : Int → Int) (c : Int) (P : PS) (md w s : Int) (hF : isDf E f bk wi ns n1 n2) (hR : isR E f 4 5 300 g c) (hc : 0 ≤ c ∧ c ≤ 300) (hP : isPl E f P md w s) : CF yn_Df_clear cd_Df_clear 3 (some (.int)) 1 E [.ref (eA E 0), .int (zI 1)] f (fun r f' => r = some (.int (zI c)) ∧ isR E f' 4 5 300 g 0 ∧ isPl E f' P 0 w s ∧ Fr [4, 22] f f') := by
  refine CF.of (by decide +kernel) (Nat.le_of_ble_eq_true rfl) fun X hX hE => ?_
  have hX : Ok E X "DeltaFerry" "clear" cd_Df_clear 3 (some (.int)) (rl 1) := hX
  refine G_cast (lv' := [(0, .ref (eA E 0)), (1, .int (zI 1))]) ?_ rfl rfl rfl rfl
  refine G_iload_n hX 1 rfl rfl d_Df_clear_0 ?_
  refine F_callS hX (st := []) (c_Df_isFile E f (1) (by omega)) cm_Df_isFile sm_Df_isFile ml_Df_98 d_Df_clear_1 rfl rfl (Nat.le_of_ble_eq_true rfl) (by decide) ?_
  rintro _ f1 ⟨rfl, e4⟩
  obtain rfl := e4.symm
  refine G_cast (st' := [.int (zI (if 0 ≤ (1 : Int) ∧ (1 : Int) ≤ 3 then 1 else 0))]) ?_ rfl rfl rfl rfl
  refine G_top (show zI (if 0 ≤ (1 : Int) ∧ (1 : Int) ≤ 3 then 1 else 0) = zI 1 from by rw [if_pos (by omega)]) ?_
  refine G_if_ne_z hX (tgt := 9) d_Df_clear_4 rfl (by omega) (fun c5 => ?_) (fun c6 => by exfalso; omega)
  refine G_aload_n hX 0 rfl rfl d_Df_clear_9 ?_
  refine F_get hX fg_Df_9 d_Df_clear_10 0 (by decide) hF.1 rfl ?_
  refine G_iload_n hX 1 rfl rfl d_Df_clear_13 ?_
  refine F_aald hX d_Df_clear_14 1 (by decide) hF.2 (by decide) (a := eA E 4) rfl ?_
  refine F_get hX fg_Df_101 d_Df_clear_15 4 (by decide) hR.1 rfl ?_
  refine G_istore_n hX (lv' := [(2, .int (zI c)), (0, .ref (eA E 0)), (1, .int (zI 1))]) rfl (by decide) rfl d_Df_clear_18 ?_
  refine G_aload_n hX 1 rfl rfl d_Df_clear_19 ?_
  refine F_get hX fg_Df_9 d_Df_clear_20 0 (by decide) hF.1 rfl ?_
  refine G_iload_n hX 2 rfl rfl d_Df_clear_23 ?_
  refine F_aald hX d_Df_clear_24 1 (by decide) hF.2 (by decide) (a := eA E 4) rfl ?_
  refine G_iconst hX d_Df_clear_25 ?_
  refine F_put hX fg_Df_101 fp_Ro_1 d_Df_clear_26 4 (fs' := [.ref (eA E 5), .int (zI 0)]) (by decide) hR.1 rfl rfl (Nat.le_of_ble_eq_true rfl) rfl (fun f7 h8 k9 => ?_)
  refine G_aload_n hX 1 rfl rfl d_Df_clear_29 ?_
  refine G_iload_n hX 2 rfl rfl d_Df_clear_30 ?_
  have h10 : f7 0 = ob 11 [.ref (eA E 1), .ref (eA E 10), .ref (eA E 13), .ref (eA E 14), .ref (eA E 22), .ref (eA E 27), .ref (eA E 29), .ref (eA E 44), .int (zI bk), .int (zI wi), .int (zI ns), .long n1, .long n2] := (k9 0 (by decide)).trans hF.1
  have h11 : f7 1 = ra E 4 (fun j => some (eA E (2 + 2 * j))) := (k9 1 (by decide)).trans hF.2
  have h12 : f7 22 = ob 4 [.ref (eA E 23), .ref (eA E 24), .ref (eA E 25), .ref (eA E 26), .int (zI md), .int (zI (pC P)), .int (zI w), .int (zI s)] := (k9 22 (by decide)).trans hP.1
  have h13 : f7 23 = iz E 300 (pT P) := (k9 23 (by decide)).trans hP.2.1
  have h14 : f7 24 = iz E 300 (pS P) := (k9 24 (by decide)).trans hP.2.2.1
  have h15 : f7 25 = iz E 300 (pA P) := (k9 25 (by decide)).trans hP.2.2.2.1
  have h16 : f7 26 = iz E 300 (pN P) := (k9 26 (by decide)).trans hP.2.2.2.2
  refine F_callV hX (st := []) (c_Df_giveUp_1 E f7 bk wi ns n1 n2 P md w s ⟨h10, h11⟩ ⟨h12, h13, h14, h15, h16⟩) cm_Df_giveUpPlanOf im_Df_giveUpPlanOf se_Df_giveUpPlanOf rfl ml_Df_88 d_Df_clear_31 (by decide) h10 rfl rfl (Nat.le_of_ble_eq_true rfl) (by decide) ?_
  rintro _ f17 ⟨rfl, ⟨h20, h21, h22, h23, h24⟩, k25⟩
  refine G_cast (st' := []) ?_ rfl rfl rfl rfl
  refine G_iload_n hX 0 rfl rfl d_Df_clear_34 ?_
  have h26 : f17 4 = ob 6 [.ref (eA E 5), .int (zI 0)] := (k25 4 (by decide)).trans h8
  have h27 : f17 5 = iz E 300 g := (k25 5 (by decide)).trans ((k9 5 (by decide)).trans hR.2)
  exact F_iret hX hE d_Df_clear_35 ⟨rfl, ⟨h26, h27⟩, ⟨h20, h21, h22, h23, h24⟩, (Fr.tr (Fr.tr Fr.rf k9 (by decide)) k25 (by decide))⟩
theorem c_Df_size_1 (E : EV) (f : Nat → va_E) (bk wi ns : Int) (n1 n2 : Int64) (g : Int → Int) (c : Int) (hF : isDf E f bk wi ns n1 n2) (hR : isR E f 4 5 300 g c) (hc : 0 ≤ c ∧ c ≤ 300) : CF yn_Df_size cd_Df_size 2 (some (.int)) 1 E [.ref (eA E 0), .int (zI 1)] f (fun r f' => r = some (.int (zI c)) ∧ f' = f) := by
  refine CF.of (by decide +kernel) (Nat.le_of_ble_eq_true rfl) fun X hX hE => ?_
  have hX : Ok E X "DeltaFerry" "size" cd_Df_size 2 (some (.int)) (rl 1) := hX
  refine G_cast (lv' := [(0, .ref (eA E 0)), (1, .int (zI 1))]) ?_ rfl rfl rfl rfl
  refine G_iload_n hX 1 rfl rfl d_Df_size_0 ?_
  refine F_callS hX (st := []) (c_Df_isFile E f (1) (by omega)) cm_Df_isFile sm_Df_isFile ml_Df_98 d_Df_size_1 rfl rfl (Nat.le_of_ble_eq_true rfl) (by decide) ?_
  rintro _ f1 ⟨rfl, e4⟩
  obtain rfl := e4.symm
  refine G_cast (st' := [.int (zI (if 0 ≤ (1 : Int) ∧ (1 : Int) ≤ 3 then 1 else 0))]) ?_ rfl rfl rfl rfl
  refine G_top (show zI (if 0 ≤ (1 : Int) ∧ (1 : Int) ≤ 3 then 1 else 0) = zI 1 from by rw [if_pos (by omega)]) ?_
  refine G_if_eq_z hX (tgt := 19) d_Df_size_4 rfl (by omega) (fun c5 => by exfalso; omega) (fun c6 => ?_)
  refine G_aload_n hX 0 rfl rfl d_Df_size_7 ?_
  refine F_get hX fg_Df_9 d_Df_size_8 0 (by decide) hF.1 rfl ?_
  refine G_iload_n hX 1 rfl rfl d_Df_size_11 ?_
  refine F_aald hX d_Df_size_12 1 (by decide) hF.2 (by decide) (a := eA E 4) rfl ?_
  refine F_get hX fg_Df_101 d_Df_size_13 4 (by decide) hR.1 rfl ?_
  refine G_goto hX (tgt := 20) d_Df_size_16 rfl ?_
  exact F_iret hX hE d_Df_size_20 ⟨rfl, rfl⟩
theorem c_Df_at_1 (E : EV) (f : Nat → va_E) (bk wi ns : Int) (n1 n2 : Int64) (g : Int → Int) (c : Int) (p : Int) (hF : isDf E f bk wi ns n1 n2) (hR : isR E f 4 5 300 g c) (hc : 0 ≤ c ∧ c ≤ 300) (hp : 0 ≤ p ∧ p < c) : CF yn_Df_at cd_Df_at 3 (some (.int)) 1 E [.ref (eA E 0), .int (zI 1), .int (zI p)] f (fun r f' => r = some (.int (zI (g p))) ∧ f' = f) := by
  refine CF.of (by decide +kernel) (Nat.le_of_ble_eq_true rfl) fun X hX hE => ?_
  have hX : Ok E X "DeltaFerry" "at" cd_Df_at 3 (some (.int)) (rl 1) := hX
  refine G_cast (lv' := [(0, .ref (eA E 0)), (1, .int (zI 1)), (2, .int (zI p))]) ?_ rfl rfl rfl rfl
  refine G_iload_n hX 1 rfl rfl d_Df_at_0 ?_
  refine F_callS hX (st := []) (c_Df_isFile E f (1) (by omega)) cm_Df_isFile sm_Df_isFile ml_Df_98 d_Df_at_1 rfl rfl (Nat.le_of_ble_eq_true rfl) (by decide) ?_
  rintro _ f1 ⟨rfl, e4⟩
  obtain rfl := e4.symm
  refine G_cast (st' := [.int (zI (if 0 ≤ (1 : Int) ∧ (1 : Int) ≤ 3 then 1 else 0))]) ?_ rfl rfl rfl rfl
  refine G_top (show zI (if 0 ≤ (1 : Int) ∧ (1 : Int) ≤ 3 then 1 else 0) = zI 1 from by rw [if_pos (by omega)]) ?_
  refine G_if_eq_z hX (tgt := 34) d_Df_at_4 rfl (by omega) (fun c5 => by exfalso; omega) (fun c6 => ?_)
  refine G_aload_n hX 0 rfl rfl d_Df_at_7 ?_
  refine F_get hX fg_Df_9 d_Df_at_8 0 (by decide) hF.1 rfl ?_
  refine G_iload_n hX 1 rfl rfl d_Df_at_11 ?_
  refine F_aald hX d_Df_at_12 1 (by decide) hF.2 (by decide) (a := eA E 4) rfl ?_
  refine G_iload_n hX 2 rfl rfl d_Df_at_13 ?_
  refine F_callV hX (st := []) (c_Ro_has E f 4 5 300 g c p (by decide) (by decide) (by decide) ⟨hR.1, hR.2⟩ (by omega) (by omega)) cm_Ro_has im_Ro_has se_Ro_has rfl ml_Df_91 d_Df_at_14 (by decide) hR.1 rfl rfl (Nat.le_of_ble_eq_true rfl) (by decide) ?_
  rintro _ f7 ⟨rfl, e10⟩
  obtain rfl := e10.symm
  refine G_cast (st' := [.int (zI (if 0 ≤ p ∧ p < c then 1 else 0))]) ?_ rfl rfl rfl rfl
  refine G_top (show zI (if 0 ≤ p ∧ p < c then 1 else 0) = zI 1 from by rw [if_pos (by omega)]) ?_
  refine G_if_eq_z hX (tgt := 34) d_Df_at_17 rfl (by omega) (fun c11 => by exfalso; omega) (fun c12 => ?_)
  refine G_aload_n hX 0 rfl rfl d_Df_at_20 ?_
  refine F_get hX fg_Df_9 d_Df_at_21 0 (by decide) hF.1 rfl ?_
  refine G_iload_n hX 1 rfl rfl d_Df_at_24 ?_
  refine F_aald hX d_Df_at_25 1 (by decide) hF.2 (by decide) (a := eA E 4) rfl ?_
  refine F_get hX fg_Df_94 d_Df_at_26 4 (by decide) hR.1 rfl ?_
  refine G_iload_n hX 2 rfl rfl d_Df_at_29 ?_
  refine F_iald hX d_Df_at_30 5 (by decide) hR.2 (by omega) ?_
  refine G_goto hX (tgt := 35) d_Df_at_31 rfl ?_
  exact F_iret hX hE d_Df_at_35 ⟨rfl, rfl⟩
theorem c_Df_at_no1 (E : EV) (f : Nat → va_E) (bk wi ns : Int) (n1 n2 : Int64) (g : Int → Int) (c : Int) (p : Int) (hF : isDf E f bk wi ns n1 n2) (hR : isR E f 4 5 300 g c) (hc : 0 ≤ c ∧ c ≤ 300) (hp : p < 0 ∨ c ≤ p) (hp2 : -2147483648 ≤ p ∧ p < 2147483648) : CF yn_Df_at cd_Df_at 3 (some (.int)) 1 E [.ref (eA E 0), .int (zI 1), .int (zI p)] f (fun r f' => r = some (.int (zI (-1))) ∧ f' = f) := by
  refine CF.of (by decide +kernel) (Nat.le_of_ble_eq_true rfl) fun X hX hE => ?_
  have hX : Ok E X "DeltaFerry" "at" cd_Df_at 3 (some (.int)) (rl 1) := hX
  refine G_cast (lv' := [(0, .ref (eA E 0)), (1, .int (zI 1)), (2, .int (zI p))]) ?_ rfl rfl rfl rfl
  refine G_iload_n hX 1 rfl rfl d_Df_at_0 ?_
  refine F_callS hX (st := []) (c_Df_isFile E f (1) (by omega)) cm_Df_isFile sm_Df_isFile ml_Df_98 d_Df_at_1 rfl rfl (Nat.le_of_ble_eq_true rfl) (by decide) ?_
  rintro _ f1 ⟨rfl, e4⟩
  obtain rfl := e4.symm
  refine G_cast (st' := [.int (zI (if 0 ≤ (1 : Int) ∧ (1 : Int) ≤ 3 then 1 else 0))]) ?_ rfl rfl rfl rfl
  refine G_top (show zI (if 0 ≤ (1 : Int) ∧ (1 : Int) ≤ 3 then 1 else 0) = zI 1 from by rw [if_pos (by omega)]) ?_
  refine G_if_eq_z hX (tgt := 34) d_Df_at_4 rfl (by omega) (fun c5 => by exfalso; omega) (fun c6 => ?_)
  refine G_aload_n hX 0 rfl rfl d_Df_at_7 ?_
  refine F_get hX fg_Df_9 d_Df_at_8 0 (by decide) hF.1 rfl ?_
  refine G_iload_n hX 1 rfl rfl d_Df_at_11 ?_
  refine F_aald hX d_Df_at_12 1 (by decide) hF.2 (by decide) (a := eA E 4) rfl ?_
  refine G_iload_n hX 2 rfl rfl d_Df_at_13 ?_
  refine F_callV hX (st := []) (c_Ro_has E f 4 5 300 g c p (by decide) (by decide) (by decide) ⟨hR.1, hR.2⟩ (by omega) (by omega)) cm_Ro_has im_Ro_has se_Ro_has rfl ml_Df_91 d_Df_at_14 (by decide) hR.1 rfl rfl (Nat.le_of_ble_eq_true rfl) (by decide) ?_
  rintro _ f7 ⟨rfl, e10⟩
  obtain rfl := e10.symm
  refine G_cast (st' := [.int (zI (if 0 ≤ p ∧ p < c then 1 else 0))]) ?_ rfl rfl rfl rfl
  refine G_top (show zI (if 0 ≤ p ∧ p < c then 1 else 0) = zI 0 from by rw [if_neg (by omega)]) ?_
  refine G_if_eq_z hX (tgt := 34) d_Df_at_17 rfl (by omega) (fun c11 => ?_) (fun c12 => by exfalso; omega)
  refine G_iconst hX d_Df_at_34 ?_
  exact F_iret hX hE d_Df_at_35 ⟨rfl, rfl⟩
theorem c_Df_digest_1 (E : EV) (f : Nat → va_E) (bk wi ns : Int) (n1 n2 : Int64) (g : Int → Int) (c : Int) (s0 wd0 : Nat → Int32) (h : Int) (hF : isDf E f bk wi ns n1 n2) (hR : isR E f 4 5 300 g c) (hc : 0 ≤ c ∧ c ≤ 300) (hD : isD E f 10 11 12 s0 wd0) (hh : -2147483648 ≤ h ∧ h < 2147483648) : CF yn_Df_digest cd_Df_digest 3 (some (.long)) 3 E [.ref (eA E 0), .int (zI 1), .int (zI h)] f (fun r f' => r = some (.long (if h = 0 then dgA g 0 c else dgB g 0 c)) ∧ (∃ s' wd', isD E f' 10 11 12 s' wd') ∧ Fr [11, 12] f f') := by
  refine CF.of (by decide +kernel) (Nat.le_of_ble_eq_true rfl) fun X hX hE => ?_
  have hX : Ok E X "DeltaFerry" "digest" cd_Df_digest 3 (some (.long)) (rl 3) := hX
  refine G_cast (lv' := [(0, .ref (eA E 0)), (1, .int (zI 1)), (2, .int (zI h))]) ?_ rfl rfl rfl rfl
  refine G_iload_n hX 1 rfl rfl d_Df_digest_0 ?_
  refine F_callS hX (st := []) (c_Df_isFile E f (1) (by omega)) cm_Df_isFile sm_Df_isFile ml_Df_98 d_Df_digest_1 rfl rfl (Nat.le_of_ble_eq_true rfl) (by decide) ?_
  rintro _ f1 ⟨rfl, e4⟩
  obtain rfl := e4.symm
  refine G_cast (st' := [.int (zI (if 0 ≤ (1 : Int) ∧ (1 : Int) ≤ 3 then 1 else 0))]) ?_ rfl rfl rfl rfl
  refine G_top (show zI (if 0 ≤ (1 : Int) ∧ (1 : Int) ≤ 3 then 1 else 0) = zI 1 from by rw [if_pos (by omega)]) ?_
  refine G_if_ne_z hX (tgt := 9) d_Df_digest_4 rfl (by omega) (fun c5 => ?_) (fun c6 => by exfalso; omega)
  refine G_aload_n hX 0 rfl rfl d_Df_digest_9 ?_
  refine F_get hX fg_Df_18 d_Df_digest_10 0 (by decide) hF.1 rfl ?_
  refine G_aload_n hX 0 rfl rfl d_Df_digest_13 ?_
  refine F_get hX fg_Df_9 d_Df_digest_14 0 (by decide) hF.1 rfl ?_
  refine G_iload_n hX 1 rfl rfl d_Df_digest_17 ?_
  refine F_aald hX d_Df_digest_18 1 (by decide) hF.2 (by decide) (a := eA E 4) rfl ?_
  refine F_get hX fg_Df_94 d_Df_digest_19 4 (by decide) hR.1 rfl ?_
  refine G_iconst hX d_Df_digest_22 ?_
  refine G_aload_n hX 0 rfl rfl d_Df_digest_23 ?_
  refine F_get hX fg_Df_9 d_Df_digest_24 0 (by decide) hF.1 rfl ?_
  refine G_iload_n hX 1 rfl rfl d_Df_digest_27 ?_
  refine F_aald hX d_Df_digest_28 1 (by decide) hF.2 (by decide) (a := eA E 4) rfl ?_
  refine F_get hX fg_Df_101 d_Df_digest_29 4 (by decide) hR.1 rfl ?_
  refine F_callV hX (st := []) (c_Dg_take E f 10 11 12 s0 wd0 5 300 g 0 c (by decide) (by decide) (by decide) (by decide) (by decide) (by decide) (by decide) (by decide) (by decide) (by decide) ⟨hD.1, hD.2.1, hD.2.2⟩ hR.2 (by omega)) cm_Dg_take im_Dg_take se_Dg_take rfl ml_Df_108 d_Df_digest_32 (by decide) hD.1 rfl rfl (Nat.le_of_ble_eq_true rfl) (by decide) ?_
  rintro _ f7 ⟨rfl, ⟨wd10, h11, h12, h13⟩, k14⟩
  refine G_cast (st' := []) ?_ rfl rfl rfl rfl
  refine G_iload_n hX 2 rfl rfl d_Df_digest_35 ?_
  refine G_if_ne_z hX (tgt := 49) d_Df_digest_36 rfl (by omega) (fun c15 => ?_) (fun c16 => ?_)
  · skip
    refine G_aload_n hX 0 rfl rfl d_Df_digest_49 ?_
    have h17 : f7 0 = ob 11 [.ref (eA E 1), .ref (eA E 10), .ref (eA E 13), .ref (eA E 14), .ref (eA E 22), .ref (eA E 27), .ref (eA E 29), .ref (eA E 44), .int (zI bk), .int (zI wi), .int (zI ns), .long n1, .long n2] := (k14 0 (by decide)).trans hF.1
    refine F_get hX fg_Df_18 d_Df_digest_50 0 (by decide) h17 rfl ?_
    refine F_callV hX (st := []) (c_Dg_lastHalf E f7 10 11 12 (m5D g 0 c) wd10 (by decide) (by decide) (by decide) (by decide) (by decide) (by decide) ⟨h11, h12, h13⟩) cm_Dg_lastHalf im_Dg_lastHalf se_Dg_lastHalf rfl ml_Df_116 d_Df_digest_53 (by decide) h11 rfl rfl (Nat.le_of_ble_eq_true rfl) (by decide) ?_
    rintro _ f18 ⟨rfl, e21⟩
    obtain rfl := e21.symm
    refine G_cast (st' := [.long (hfF (m5D g 0 c).2.2.1 (m5D g 0 c).2.2.2)]) ?_ rfl rfl rfl rfl
    refine G_topl (show (hfF (m5D g 0 c).2.2.1 (m5D g 0 c).2.2.2) = (dgB g 0 c) from rfl) ?_
    exact F_lret hX hE d_Df_digest_56 ⟨by rw [if_neg (by omega)], ⟨_, _, h11, h12, h13⟩, (Fr.tr Fr.rf k14 (by decide))⟩
  · skip
    refine G_aload_n hX 0 rfl rfl d_Df_digest_39 ?_
    have h22 : f7 0 = ob 11 [.ref (eA E 1), .ref (eA E 10), .ref (eA E 13), .ref (eA E 14), .ref (eA E 22), .ref (eA E 27), .ref (eA E 29), .ref (eA E 44), .int (zI bk), .int (zI wi), .int (zI ns), .long n1, .long n2] := (k14 0 (by decide)).trans hF.1
    refine F_get hX fg_Df_18 d_Df_digest_40 0 (by decide) h22 rfl ?_
    refine F_callV hX (st := []) (c_Dg_firstHalf E f7 10 11 12 (m5D g 0 c) wd10 (by decide) (by decide) (by decide) (by decide) (by decide) (by decide) ⟨h11, h12, h13⟩) cm_Dg_firstHalf im_Dg_firstHalf se_Dg_firstHalf rfl ml_Df_112 d_Df_digest_43 (by decide) h11 rfl rfl (Nat.le_of_ble_eq_true rfl) (by decide) ?_
    rintro _ f23 ⟨rfl, e26⟩
    obtain rfl := e26.symm
    refine G_cast (st' := [.long (hfF (m5D g 0 c).1 (m5D g 0 c).2.1)]) ?_ rfl rfl rfl rfl
    refine G_topl (show (hfF (m5D g 0 c).1 (m5D g 0 c).2.1) = (dgA g 0 c) from rfl) ?_
    refine G_goto hX (tgt := 56) d_Df_digest_46 rfl ?_
    exact F_lret hX hE d_Df_digest_56 ⟨by rw [if_pos (by omega)], ⟨_, _, h11, h12, h13⟩, (Fr.tr Fr.rf k14 (by decide))⟩
theorem c_Df_sum_1 (E : EV) (f : Nat → va_E) (bk wi ns : Int) (n1 n2 : Int64) (g : Int → Int) (c : Int) (y0 y1 y2 y3 : Int32) (a m : Int) (hF : isDf E f bk wi ns n1 n2) (hR : isR E f 4 5 300 g c) (hc : 0 ≤ c ∧ c ≤ 300) (hB : isB g) (hW : f 13 = ob 8 [.int y0, .int y1, .int y2, .int y3]) (ham : -2147483648 ≤ a ∧ a < 2147483648 ∧ -2147483648 ≤ m ∧ m < 2147483648) : CF yn_Df_sum cd_Df_sum 5 (some (.long)) 1 E [.ref (eA E 0), .int (zI 1), .int (zI a), .int (zI m)] f (fun r f' => r = some (.long (zL (if a = 0 ∧ m = 0 then adV g 0 c else if a < 0 ∨ m < 1 ∨ c - m < a then -1 else wkV g a m))) ∧ (∃ z0 z1 z2 z3, f' 13 = ob 8 [.int z0, .int z1, .int z2, .int z3]) ∧ Fr [13] f f') := by
  refine CF.of (by decide +kernel) (Nat.le_of_ble_eq_true rfl) fun X hX hE => ?_
  have hX : Ok E X "DeltaFerry" "sum" cd_Df_sum 5 (some (.long)) (rl 1) := hX
  refine G_cast (lv' := [(0, .ref (eA E 0)), (1, .int (zI 1)), (2, .int (zI a)), (3, .int (zI m))]) ?_ rfl rfl rfl rfl
  refine G_iload_n hX 1 rfl rfl d_Df_sum_0 ?_
  refine F_callS hX (st := []) (c_Df_isFile E f (1) (by omega)) cm_Df_isFile sm_Df_isFile ml_Df_98 d_Df_sum_1 rfl rfl (Nat.le_of_ble_eq_true rfl) (by decide) ?_
  rintro _ f1 ⟨rfl, e4⟩
  obtain rfl := e4.symm
  refine G_cast (st' := [.int (zI (if 0 ≤ (1 : Int) ∧ (1 : Int) ≤ 3 then 1 else 0))]) ?_ rfl rfl rfl rfl
  refine G_top (show zI (if 0 ≤ (1 : Int) ∧ (1 : Int) ≤ 3 then 1 else 0) = zI 1 from by rw [if_pos (by omega)]) ?_
  refine G_if_eq_z hX (tgt := 15) d_Df_sum_4 rfl (by omega) (fun c5 => by exfalso; omega) (fun c6 => ?_)
  refine G_iload_n hX 2 rfl rfl d_Df_sum_7 ?_
  refine G_if_lt_z hX (tgt := 15) d_Df_sum_8 rfl (by omega) (fun c7 => ?_) (fun c8 => ?_)
  · skip
    refine G_ldc2 hX kn_Df_119 d_Df_sum_15 ?_
    refine G_topl (show (-1 : Int64) = zL (-1) from by decide) ?_
    exact F_lret hX hE d_Df_sum_18 ⟨by rw [if_neg (by omega), if_pos (by omega)], ⟨_, _, _, _, hW⟩, Fr.rf⟩
  · skip
    refine G_iload_n hX 3 rfl rfl d_Df_sum_11 ?_
    refine G_if_ge_z hX (tgt := 19) d_Df_sum_12 rfl (by omega) (fun c9 => ?_) (fun c10 => ?_)
    · skip
      refine G_aload_n hX 0 rfl rfl d_Df_sum_19 ?_
      refine F_get hX fg_Df_9 d_Df_sum_20 0 (by decide) hF.1 rfl ?_
      refine G_iload_n hX 1 rfl rfl d_Df_sum_23 ?_
      refine F_aald hX d_Df_sum_24 1 (by decide) hF.2 (by decide) (a := eA E 4) rfl ?_
      refine G_astore hX (lv' := [(4, .ref (eA E 4)), (0, .ref (eA E 0)), (1, .int (zI 1)), (2, .int (zI a)), (3, .int (zI m))]) (by decide) rfl d_Df_sum_25 ?_
      refine G_iload_n hX 4 rfl rfl d_Df_sum_27 ?_
      refine G_if_ne_z hX (tgt := 56) d_Df_sum_28 rfl (by omega) (fun c11 => ?_) (fun c12 => ?_)
      · skip
        refine G_iload_n hX 3 rfl rfl d_Df_sum_56 ?_
        refine G_aload hX 0 rfl d_Df_sum_57 ?_
        refine F_get hX fg_Df_101 d_Df_sum_59 4 (by decide) hR.1 rfl ?_
        refine G_iload_n hX 4 rfl rfl d_Df_sum_62 ?_
        refine G_isub_z hX d_Df_sum_63 ?_
        refine G_icmp_le_z hX (tgt := 71) d_Df_sum_64 rfl (by omega) (fun c13 => ?_) (fun c14 => ?_)
        · skip
          refine G_aload_n hX 1 rfl rfl d_Df_sum_71 ?_
          refine F_get hX fg_Df_25 d_Df_sum_72 0 (by decide) hF.1 rfl ?_
          refine G_aload hX 0 rfl d_Df_sum_75 ?_
          refine F_get hX fg_Df_94 d_Df_sum_77 4 (by decide) hR.1 rfl ?_
          refine G_iload_n hX 3 rfl rfl d_Df_sum_80 ?_
          refine G_iload_n hX 4 rfl rfl d_Df_sum_81 ?_
          refine F_callV hX (st := []) (c_Ws_take E f 13 5 300 g y0 y1 y2 y3 a m (by decide) (by decide) (by decide) hW hR.2 (by omega)) cm_Ws_take im_Ws_take se_Ws_take rfl ml_Df_125 d_Df_sum_82 (by decide) hW rfl rfl (Nat.le_of_ble_eq_true rfl) (by decide) ?_
          rintro _ f15 ⟨rfl, h18, k19⟩
          refine G_cast (st' := []) ?_ rfl rfl rfl rfl
          refine G_aload_n hX 1 rfl rfl d_Df_sum_85 ?_
          have h20 : f15 0 = ob 11 [.ref (eA E 1), .ref (eA E 10), .ref (eA E 13), .ref (eA E 14), .ref (eA E 22), .ref (eA E 27), .ref (eA E 29), .ref (eA E 44), .int (zI bk), .int (zI wi), .int (zI ns), .long n1, .long n2] := (k19 0 (by decide)).trans hF.1
          refine F_get hX fg_Df_25 d_Df_sum_86 0 (by decide) h20 rfl ?_
          refine F_callV hX (st := []) (c_Ws_value E f15 13 a m (sP g a (m).toNat) (sW g a m (m).toNat) (by decide) h18) cm_Ws_value im_Ws_value se_Ws_value rfl ml_Df_126 d_Df_sum_89 (by decide) h18 rfl rfl (Nat.le_of_ble_eq_true rfl) (by decide) ?_
          rintro _ f21 ⟨rfl, e24⟩
          obtain rfl := e24.symm
          refine G_cast (st' := [.long (zL (65536 * ((sW g a m (m).toNat) % 65536) + (sP g a (m).toNat) % 65536))]) ?_ rfl rfl rfl rfl
          exact F_lret hX hE d_Df_sum_92 ⟨by rw [if_neg (by omega), if_neg (by omega)]; rfl, ⟨_, _, _, _, h18⟩, (Fr.tr Fr.rf k19 (by decide))⟩
        · skip
          refine G_ldc2 hX kn_Df_119 d_Df_sum_67 ?_
          refine G_topl (show (-1 : Int64) = zL (-1) from by decide) ?_
          exact F_lret hX hE d_Df_sum_70 ⟨by rw [if_neg (by omega), if_pos (by omega)], ⟨_, _, _, _, hW⟩, Fr.rf⟩
      · skip
        refine G_iload_n hX 3 rfl rfl d_Df_sum_31 ?_
        refine G_if_ne_z hX (tgt := 52) d_Df_sum_32 rfl (by omega) (fun c25 => ?_) (fun c26 => ?_)
        · skip
          refine G_ldc2 hX kn_Df_119 d_Df_sum_52 ?_
          refine G_topl (show (-1 : Int64) = zL (-1) from by decide) ?_
          exact F_lret hX hE d_Df_sum_55 ⟨by rw [if_neg (by omega), if_pos (by omega)], ⟨_, _, _, _, hW⟩, Fr.rf⟩
        · skip
          refine G_aload hX 0 rfl d_Df_sum_35 ?_
          refine F_get hX fg_Df_94 d_Df_sum_37 4 (by decide) hR.1 rfl ?_
          refine G_iconst hX d_Df_sum_40 ?_
          refine G_aload hX 0 rfl d_Df_sum_41 ?_
          refine F_get hX fg_Df_101 d_Df_sum_43 4 (by decide) hR.1 rfl ?_
          refine F_callS hX (st := []) (c_Df_checkOf E f 5 300 g 0 c (by decide) hR.2 hB (by omega)) cm_Df_checkOf sm_Df_checkOf ml_Df_121 d_Df_sum_46 rfl rfl (Nat.le_of_ble_eq_true rfl) (by decide) ?_
          rintro _ f27 ⟨rfl, e30⟩
          obtain rfl := e30.symm
          refine G_cast (st' := [.long (zL (adV g 0 c))]) ?_ rfl rfl rfl rfl
          refine G_goto hX (tgt := 55) d_Df_sum_49 rfl ?_
          exact F_lret hX hE d_Df_sum_55 ⟨by rw [if_pos (by omega)], ⟨_, _, _, _, hW⟩, Fr.rf⟩
    · skip
      refine G_ldc2 hX kn_Df_119 d_Df_sum_15 ?_
      refine G_topl (show (-1 : Int64) = zL (-1) from by decide) ?_
      exact F_lret hX hE d_Df_sum_18 ⟨by rw [if_neg (by omega), if_pos (by omega)], ⟨_, _, _, _, hW⟩, Fr.rf⟩
theorem c_Df_clear_2 (E : EV) (f : Nat → va_E) (bk wi ns : Int) (n1 n2 : Int64) (g : Int → Int) (c : Int) (hF : isDf E f bk wi ns n1 n2) (hR : isR E f 6 7 700 g c) (hc : 0 ≤ c ∧ c ≤ 700) : CF yn_Df_clear cd_Df_clear 3 (some (.int)) 1 E [.ref (eA E 0), .int (zI 2)] f (fun r f' => r = some (.int (zI c)) ∧ isR E f' 6 7 700 g 0 ∧ Fr [6] f f') := by
  refine CF.of (by decide +kernel) (Nat.le_of_ble_eq_true rfl) fun X hX hE => ?_
  have hX : Ok E X "DeltaFerry" "clear" cd_Df_clear 3 (some (.int)) (rl 1) := hX
  refine G_cast (lv' := [(0, .ref (eA E 0)), (1, .int (zI 2))]) ?_ rfl rfl rfl rfl
  refine G_iload_n hX 1 rfl rfl d_Df_clear_0 ?_
  refine F_callS hX (st := []) (c_Df_isFile E f (2) (by omega)) cm_Df_isFile sm_Df_isFile ml_Df_98 d_Df_clear_1 rfl rfl (Nat.le_of_ble_eq_true rfl) (by decide) ?_
  rintro _ f1 ⟨rfl, e4⟩
  obtain rfl := e4.symm
  refine G_cast (st' := [.int (zI (if 0 ≤ (2 : Int) ∧ (2 : Int) ≤ 3 then 1 else 0))]) ?_ rfl rfl rfl rfl
  refine G_top (show zI (if 0 ≤ (2 : Int) ∧ (2 : Int) ≤ 3 then 1 else 0) = zI 1 from by rw [if_pos (by omega)]) ?_
  refine G_if_ne_z hX (tgt := 9) d_Df_clear_4 rfl (by omega) (fun c5 => ?_) (fun c6 => by exfalso; omega)
  refine G_aload_n hX 0 rfl rfl d_Df_clear_9 ?_
  refine F_get hX fg_Df_9 d_Df_clear_10 0 (by decide) hF.1 rfl ?_
  refine G_iload_n hX 1 rfl rfl d_Df_clear_13 ?_
  refine F_aald hX d_Df_clear_14 1 (by decide) hF.2 (by decide) (a := eA E 6) rfl ?_
  refine F_get hX fg_Df_101 d_Df_clear_15 6 (by decide) hR.1 rfl ?_
  refine G_istore_n hX (lv' := [(2, .int (zI c)), (0, .ref (eA E 0)), (1, .int (zI 2))]) rfl (by decide) rfl d_Df_clear_18 ?_
  refine G_aload_n hX 1 rfl rfl d_Df_clear_19 ?_
  refine F_get hX fg_Df_9 d_Df_clear_20 0 (by decide) hF.1 rfl ?_
  refine G_iload_n hX 2 rfl rfl d_Df_clear_23 ?_
  refine F_aald hX d_Df_clear_24 1 (by decide) hF.2 (by decide) (a := eA E 6) rfl ?_
  refine G_iconst hX d_Df_clear_25 ?_
  refine F_put hX fg_Df_101 fp_Ro_1 d_Df_clear_26 6 (fs' := [.ref (eA E 7), .int (zI 0)]) (by decide) hR.1 rfl rfl (Nat.le_of_ble_eq_true rfl) rfl (fun f7 h8 k9 => ?_)
  refine G_aload_n hX 1 rfl rfl d_Df_clear_29 ?_
  refine G_iload_n hX 2 rfl rfl d_Df_clear_30 ?_
  have h10 : f7 0 = ob 11 [.ref (eA E 1), .ref (eA E 10), .ref (eA E 13), .ref (eA E 14), .ref (eA E 22), .ref (eA E 27), .ref (eA E 29), .ref (eA E 44), .int (zI bk), .int (zI wi), .int (zI ns), .long n1, .long n2] := (k9 0 (by decide)).trans hF.1
  have h11 : f7 1 = ra E 4 (fun j => some (eA E (2 + 2 * j))) := (k9 1 (by decide)).trans hF.2
  refine F_callV hX (st := []) (c_Df_giveUp_2 E f7 bk wi ns n1 n2 ⟨h10, h11⟩) cm_Df_giveUpPlanOf im_Df_giveUpPlanOf se_Df_giveUpPlanOf rfl ml_Df_88 d_Df_clear_31 (by decide) h10 rfl rfl (Nat.le_of_ble_eq_true rfl) (by decide) ?_
  rintro _ f12 ⟨rfl, e15⟩
  obtain rfl := e15.symm
  refine G_cast (st' := []) ?_ rfl rfl rfl rfl
  refine G_iload_n hX 0 rfl rfl d_Df_clear_34 ?_
  have h16 : f7 7 = iz E 700 g := (k9 7 (by decide)).trans hR.2
  exact F_iret hX hE d_Df_clear_35 ⟨rfl, ⟨h8, h16⟩, (Fr.tr Fr.rf k9 (by decide))⟩
theorem c_Df_size_2 (E : EV) (f : Nat → va_E) (bk wi ns : Int) (n1 n2 : Int64) (g : Int → Int) (c : Int) (hF : isDf E f bk wi ns n1 n2) (hR : isR E f 6 7 700 g c) (hc : 0 ≤ c ∧ c ≤ 700) : CF yn_Df_size cd_Df_size 2 (some (.int)) 1 E [.ref (eA E 0), .int (zI 2)] f (fun r f' => r = some (.int (zI c)) ∧ f' = f) := by
  refine CF.of (by decide +kernel) (Nat.le_of_ble_eq_true rfl) fun X hX hE => ?_
  have hX : Ok E X "DeltaFerry" "size" cd_Df_size 2 (some (.int)) (rl 1) := hX
  refine G_cast (lv' := [(0, .ref (eA E 0)), (1, .int (zI 2))]) ?_ rfl rfl rfl rfl
  refine G_iload_n hX 1 rfl rfl d_Df_size_0 ?_
  refine F_callS hX (st := []) (c_Df_isFile E f (2) (by omega)) cm_Df_isFile sm_Df_isFile ml_Df_98 d_Df_size_1 rfl rfl (Nat.le_of_ble_eq_true rfl) (by decide) ?_
  rintro _ f1 ⟨rfl, e4⟩
  obtain rfl := e4.symm
  refine G_cast (st' := [.int (zI (if 0 ≤ (2 : Int) ∧ (2 : Int) ≤ 3 then 1 else 0))]) ?_ rfl rfl rfl rfl
  refine G_top (show zI (if 0 ≤ (2 : Int) ∧ (2 : Int) ≤ 3 then 1 else 0) = zI 1 from by rw [if_pos (by omega)]) ?_
  refine G_if_eq_z hX (tgt := 19) d_Df_size_4 rfl (by omega) (fun c5 => by exfalso; omega) (fun c6 => ?_)
  refine G_aload_n hX 0 rfl rfl d_Df_size_7 ?_
  refine F_get hX fg_Df_9 d_Df_size_8 0 (by decide) hF.1 rfl ?_
  refine G_iload_n hX 1 rfl rfl d_Df_size_11 ?_
  refine F_aald hX d_Df_size_12 1 (by decide) hF.2 (by decide) (a := eA E 6) rfl ?_
  refine F_get hX fg_Df_101 d_Df_size_13 6 (by decide) hR.1 rfl ?_
  refine G_goto hX (tgt := 20) d_Df_size_16 rfl ?_
  exact F_iret hX hE d_Df_size_20 ⟨rfl, rfl⟩
theorem c_Df_at_2 (E : EV) (f : Nat → va_E) (bk wi ns : Int) (n1 n2 : Int64) (g : Int → Int) (c : Int) (p : Int) (hF : isDf E f bk wi ns n1 n2) (hR : isR E f 6 7 700 g c) (hc : 0 ≤ c ∧ c ≤ 700) (hp : 0 ≤ p ∧ p < c) : CF yn_Df_at cd_Df_at 3 (some (.int)) 1 E [.ref (eA E 0), .int (zI 2), .int (zI p)] f (fun r f' => r = some (.int (zI (g p))) ∧ f' = f) := by
  refine CF.of (by decide +kernel) (Nat.le_of_ble_eq_true rfl) fun X hX hE => ?_
  have hX : Ok E X "DeltaFerry" "at" cd_Df_at 3 (some (.int)) (rl 1) := hX
  refine G_cast (lv' := [(0, .ref (eA E 0)), (1, .int (zI 2)), (2, .int (zI p))]) ?_ rfl rfl rfl rfl
  refine G_iload_n hX 1 rfl rfl d_Df_at_0 ?_
  refine F_callS hX (st := []) (c_Df_isFile E f (2) (by omega)) cm_Df_isFile sm_Df_isFile ml_Df_98 d_Df_at_1 rfl rfl (Nat.le_of_ble_eq_true rfl) (by decide) ?_
  rintro _ f1 ⟨rfl, e4⟩
  obtain rfl := e4.symm
  refine G_cast (st' := [.int (zI (if 0 ≤ (2 : Int) ∧ (2 : Int) ≤ 3 then 1 else 0))]) ?_ rfl rfl rfl rfl
  refine G_top (show zI (if 0 ≤ (2 : Int) ∧ (2 : Int) ≤ 3 then 1 else 0) = zI 1 from by rw [if_pos (by omega)]) ?_
  refine G_if_eq_z hX (tgt := 34) d_Df_at_4 rfl (by omega) (fun c5 => by exfalso; omega) (fun c6 => ?_)
  refine G_aload_n hX 0 rfl rfl d_Df_at_7 ?_
  refine F_get hX fg_Df_9 d_Df_at_8 0 (by decide) hF.1 rfl ?_
  refine G_iload_n hX 1 rfl rfl d_Df_at_11 ?_
  refine F_aald hX d_Df_at_12 1 (by decide) hF.2 (by decide) (a := eA E 6) rfl ?_
  refine G_iload_n hX 2 rfl rfl d_Df_at_13 ?_
  refine F_callV hX (st := []) (c_Ro_has E f 6 7 700 g c p (by decide) (by decide) (by decide) ⟨hR.1, hR.2⟩ (by omega) (by omega)) cm_Ro_has im_Ro_has se_Ro_has rfl ml_Df_91 d_Df_at_14 (by decide) hR.1 rfl rfl (Nat.le_of_ble_eq_true rfl) (by decide) ?_
  rintro _ f7 ⟨rfl, e10⟩
  obtain rfl := e10.symm
  refine G_cast (st' := [.int (zI (if 0 ≤ p ∧ p < c then 1 else 0))]) ?_ rfl rfl rfl rfl
  refine G_top (show zI (if 0 ≤ p ∧ p < c then 1 else 0) = zI 1 from by rw [if_pos (by omega)]) ?_
  refine G_if_eq_z hX (tgt := 34) d_Df_at_17 rfl (by omega) (fun c11 => by exfalso; omega) (fun c12 => ?_)
  refine G_aload_n hX 0 rfl rfl d_Df_at_20 ?_
  refine F_get hX fg_Df_9 d_Df_at_21 0 (by decide) hF.1 rfl ?_
  refine G_iload_n hX 1 rfl rfl d_Df_at_24 ?_
  refine F_aald hX d_Df_at_25 1 (by decide) hF.2 (by decide) (a := eA E 6) rfl ?_
  refine F_get hX fg_Df_94 d_Df_at_26 6 (by decide) hR.1 rfl ?_
  refine G_iload_n hX 2 rfl rfl d_Df_at_29 ?_
  refine F_iald hX d_Df_at_30 7 (by decide) hR.2 (by omega) ?_
  refine G_goto hX (tgt := 35) d_Df_at_31 rfl ?_
  exact F_iret hX hE d_Df_at_35 ⟨rfl, rfl⟩
theorem c_Df_at_no2 (E : EV) (f : Nat → va_E) (bk wi ns : Int) (n1 n2 : Int64) (g : Int → Int) (c : Int) (p : Int) (hF : isDf E f bk wi ns n1 n2) (hR : isR E f 6 7 700 g c) (hc : 0 ≤ c ∧ c ≤ 700) (hp : p < 0 ∨ c ≤ p) (hp2 : -2147483648 ≤ p ∧ p < 2147483648) : CF yn_Df_at cd_Df_at 3 (some (.int)) 1 E [.ref (eA E 0), .int (zI 2), .int (zI p)] f (fun r f' => r = some (.int (zI (-1))) ∧ f' = f) := by
  refine CF.of (by decide +kernel) (Nat.le_of_ble_eq_true rfl) fun X hX hE => ?_
  have hX : Ok E X "DeltaFerry" "at" cd_Df_at 3 (some (.int)) (rl 1) := hX
  refine G_cast (lv' := [(0, .ref (eA E 0)), (1, .int (zI 2)), (2, .int (zI p))]) ?_ rfl rfl rfl rfl
  refine G_iload_n hX 1 rfl rfl d_Df_at_0 ?_
  refine F_callS hX (st := []) (c_Df_isFile E f (2) (by omega)) cm_Df_isFile sm_Df_isFile ml_Df_98 d_Df_at_1 rfl rfl (Nat.le_of_ble_eq_true rfl) (by decide) ?_
  rintro _ f1 ⟨rfl, e4⟩
  obtain rfl := e4.symm
  refine G_cast (st' := [.int (zI (if 0 ≤ (2 : Int) ∧ (2 : Int) ≤ 3 then 1 else 0))]) ?_ rfl rfl rfl rfl
  refine G_top (show zI (if 0 ≤ (2 : Int) ∧ (2 : Int) ≤ 3 then 1 else 0) = zI 1 from by rw [if_pos (by omega)]) ?_
  refine G_if_eq_z hX (tgt := 34) d_Df_at_4 rfl (by omega) (fun c5 => by exfalso; omega) (fun c6 => ?_)
  refine G_aload_n hX 0 rfl rfl d_Df_at_7 ?_
  refine F_get hX fg_Df_9 d_Df_at_8 0 (by decide) hF.1 rfl ?_
  refine G_iload_n hX 1 rfl rfl d_Df_at_11 ?_
  refine F_aald hX d_Df_at_12 1 (by decide) hF.2 (by decide) (a := eA E 6) rfl ?_
  refine G_iload_n hX 2 rfl rfl d_Df_at_13 ?_
  refine F_callV hX (st := []) (c_Ro_has E f 6 7 700 g c p (by decide) (by decide) (by decide) ⟨hR.1, hR.2⟩ (by omega) (by omega)) cm_Ro_has im_Ro_has se_Ro_has rfl ml_Df_91 d_Df_at_14 (by decide) hR.1 rfl rfl (Nat.le_of_ble_eq_true rfl) (by decide) ?_
  rintro _ f7 ⟨rfl, e10⟩
  obtain rfl := e10.symm
  refine G_cast (st' := [.int (zI (if 0 ≤ p ∧ p < c then 1 else 0))]) ?_ rfl rfl rfl rfl
  refine G_top (show zI (if 0 ≤ p ∧ p < c then 1 else 0) = zI 0 from by rw [if_neg (by omega)]) ?_
  refine G_if_eq_z hX (tgt := 34) d_Df_at_17 rfl (by omega) (fun c11 => ?_) (fun c12 => by exfalso; omega)
  refine G_iconst hX d_Df_at_34 ?_
  exact F_iret hX hE d_Df_at_35 ⟨rfl, rfl⟩
theorem c_Df_digest_2 (E : EV) (f : Nat → va_E) (bk wi ns : Int) (n1 n2 : Int64) (g : Int → Int) (c : Int) (s0 wd0 : Nat → Int32) (h : Int) (hF : isDf E f bk wi ns n1 n2) (hR : isR E f 6 7 700 g c) (hc : 0 ≤ c ∧ c ≤ 700) (hD : isD E f 10 11 12 s0 wd0) (hh : -2147483648 ≤ h ∧ h < 2147483648) : CF yn_Df_digest cd_Df_digest 3 (some (.long)) 3 E [.ref (eA E 0), .int (zI 2), .int (zI h)] f (fun r f' => r = some (.long (if h = 0 then dgA g 0 c else dgB g 0 c)) ∧ (∃ s' wd', isD E f' 10 11 12 s' wd') ∧ Fr [11, 12] f f') := by
  refine CF.of (by decide +kernel) (Nat.le_of_ble_eq_true rfl) fun X hX hE => ?_
  have hX : Ok E X "DeltaFerry" "digest" cd_Df_digest 3 (some (.long)) (rl 3) := hX
  refine G_cast (lv' := [(0, .ref (eA E 0)), (1, .int (zI 2)), (2, .int (zI h))]) ?_ rfl rfl rfl rfl
  refine G_iload_n hX 1 rfl rfl d_Df_digest_0 ?_
  refine F_callS hX (st := []) (c_Df_isFile E f (2) (by omega)) cm_Df_isFile sm_Df_isFile ml_Df_98 d_Df_digest_1 rfl rfl (Nat.le_of_ble_eq_true rfl) (by decide) ?_
  rintro _ f1 ⟨rfl, e4⟩
  obtain rfl := e4.symm
  refine G_cast (st' := [.int (zI (if 0 ≤ (2 : Int) ∧ (2 : Int) ≤ 3 then 1 else 0))]) ?_ rfl rfl rfl rfl
  refine G_top (show zI (if 0 ≤ (2 : Int) ∧ (2 : Int) ≤ 3 then 1 else 0) = zI 1 from by rw [if_pos (by omega)]) ?_
  refine G_if_ne_z hX (tgt := 9) d_Df_digest_4 rfl (by omega) (fun c5 => ?_) (fun c6 => by exfalso; omega)
  refine G_aload_n hX 0 rfl rfl d_Df_digest_9 ?_
  refine F_get hX fg_Df_18 d_Df_digest_10 0 (by decide) hF.1 rfl ?_
  refine G_aload_n hX 0 rfl rfl d_Df_digest_13 ?_
  refine F_get hX fg_Df_9 d_Df_digest_14 0 (by decide) hF.1 rfl ?_
  refine G_iload_n hX 1 rfl rfl d_Df_digest_17 ?_
  refine F_aald hX d_Df_digest_18 1 (by decide) hF.2 (by decide) (a := eA E 6) rfl ?_
  refine F_get hX fg_Df_94 d_Df_digest_19 6 (by decide) hR.1 rfl ?_
  refine G_iconst hX d_Df_digest_22 ?_
  refine G_aload_n hX 0 rfl rfl d_Df_digest_23 ?_
  refine F_get hX fg_Df_9 d_Df_digest_24 0 (by decide) hF.1 rfl ?_
  refine G_iload_n hX 1 rfl rfl d_Df_digest_27 ?_
  refine F_aald hX d_Df_digest_28 1 (by decide) hF.2 (by decide) (a := eA E 6) rfl ?_
  refine F_get hX fg_Df_101 d_Df_digest_29 6 (by decide) hR.1 rfl ?_
  refine F_callV hX (st := []) (c_Dg_take E f 10 11 12 s0 wd0 7 700 g 0 c (by decide) (by decide) (by decide) (by decide) (by decide) (by decide) (by decide) (by decide) (by decide) (by decide) ⟨hD.1, hD.2.1, hD.2.2⟩ hR.2 (by omega)) cm_Dg_take im_Dg_take se_Dg_take rfl ml_Df_108 d_Df_digest_32 (by decide) hD.1 rfl rfl (Nat.le_of_ble_eq_true rfl) (by decide) ?_
  rintro _ f7 ⟨rfl, ⟨wd10, h11, h12, h13⟩, k14⟩
  refine G_cast (st' := []) ?_ rfl rfl rfl rfl
  refine G_iload_n hX 2 rfl rfl d_Df_digest_35 ?_
  refine G_if_ne_z hX (tgt := 49) d_Df_digest_36 rfl (by omega) (fun c15 => ?_) (fun c16 => ?_)
  · skip
    refine G_aload_n hX 0 rfl rfl d_Df_digest_49 ?_
    have h17 : f7 0 = ob 11 [.ref (eA E 1), .ref (eA E 10), .ref (eA E 13), .ref (eA E 14), .ref (eA E 22), .ref (eA E 27), .ref (eA E 29), .ref (eA E 44), .int (zI bk), .int (zI wi), .int (zI ns), .long n1, .long n2] := (k14 0 (by decide)).trans hF.1
    refine F_get hX fg_Df_18 d_Df_digest_50 0 (by decide) h17 rfl ?_
    refine F_callV hX (st := []) (c_Dg_lastHalf E f7 10 11 12 (m5D g 0 c) wd10 (by decide) (by decide) (by decide) (by decide) (by decide) (by decide) ⟨h11, h12, h13⟩) cm_Dg_lastHalf im_Dg_lastHalf se_Dg_lastHalf rfl ml_Df_116 d_Df_digest_53 (by decide) h11 rfl rfl (Nat.le_of_ble_eq_true rfl) (by decide) ?_
    rintro _ f18 ⟨rfl, e21⟩
    obtain rfl := e21.symm
    refine G_cast (st' := [.long (hfF (m5D g 0 c).2.2.1 (m5D g 0 c).2.2.2)]) ?_ rfl rfl rfl rfl
    refine G_topl (show (hfF (m5D g 0 c).2.2.1 (m5D g 0 c).2.2.2) = (dgB g 0 c) from rfl) ?_
    exact F_lret hX hE d_Df_digest_56 ⟨by rw [if_neg (by omega)], ⟨_, _, h11, h12, h13⟩, (Fr.tr Fr.rf k14 (by decide))⟩
  · skip
    refine G_aload_n hX 0 rfl rfl d_Df_digest_39 ?_
    have h22 : f7 0 = ob 11 [.ref (eA E 1), .ref (eA E 10), .ref (eA E 13), .ref (eA E 14), .ref (eA E 22), .ref (eA E 27), .ref (eA E 29), .ref (eA E 44), .int (zI bk), .int (zI wi), .int (zI ns), .long n1, .long n2] := (k14 0 (by decide)).trans hF.1
    refine F_get hX fg_Df_18 d_Df_digest_40 0 (by decide) h22 rfl ?_
    refine F_callV hX (st := []) (c_Dg_firstHalf E f7 10 11 12 (m5D g 0 c) wd10 (by decide) (by decide) (by decide) (by decide) (by decide) (by decide) ⟨h11, h12, h13⟩) cm_Dg_firstHalf im_Dg_firstHalf se_Dg_firstHalf rfl ml_Df_112 d_Df_digest_43 (by decide) h11 rfl rfl (Nat.le_of_ble_eq_true rfl) (by decide) ?_
    rintro _ f23 ⟨rfl, e26⟩
    obtain rfl := e26.symm
    refine G_cast (st' := [.long (hfF (m5D g 0 c).1 (m5D g 0 c).2.1)]) ?_ rfl rfl rfl rfl
    refine G_topl (show (hfF (m5D g 0 c).1 (m5D g 0 c).2.1) = (dgA g 0 c) from rfl) ?_
    refine G_goto hX (tgt := 56) d_Df_digest_46 rfl ?_
    exact F_lret hX hE d_Df_digest_56 ⟨by rw [if_pos (by omega)], ⟨_, _, h11, h12, h13⟩, (Fr.tr Fr.rf k14 (by decide))⟩
theorem c_Df_sum_2 (E : EV) (f : Nat → va_E) (bk wi ns : Int) (n1 n2 : Int64) (g : Int → Int) (c : Int) (y0 y1 y2 y3 : Int32) (a m : Int) (hF : isDf E f bk wi ns n1 n2) (hR : isR E f 6 7 700 g c) (hc : 0 ≤ c ∧ c ≤ 700) (hB : isB g) (hW : f 13 = ob 8 [.int y0, .int y1, .int y2, .int y3]) (ham : -2147483648 ≤ a ∧ a < 2147483648 ∧ -2147483648 ≤ m ∧ m < 2147483648) : CF yn_Df_sum cd_Df_sum 5 (some (.long)) 1 E [.ref (eA E 0), .int (zI 2), .int (zI a), .int (zI m)] f (fun r f' => r = some (.long (zL (if a = 0 ∧ m = 0 then adV g 0 c else if a < 0 ∨ m < 1 ∨ c - m < a then -1 else wkV g a m))) ∧ (∃ z0 z1 z2 z3, f' 13 = ob 8 [.int z0, .int z1, .int z2, .int z3]) ∧ Fr [13] f f') := by
  refine CF.of (by decide +kernel) (Nat.le_of_ble_eq_true rfl) fun X hX hE => ?_
  have hX : Ok E X "DeltaFerry" "sum" cd_Df_sum 5 (some (.long)) (rl 1) := hX
  refine G_cast (lv' := [(0, .ref (eA E 0)), (1, .int (zI 2)), (2, .int (zI a)), (3, .int (zI m))]) ?_ rfl rfl rfl rfl
  refine G_iload_n hX 1 rfl rfl d_Df_sum_0 ?_
  refine F_callS hX (st := []) (c_Df_isFile E f (2) (by omega)) cm_Df_isFile sm_Df_isFile ml_Df_98 d_Df_sum_1 rfl rfl (Nat.le_of_ble_eq_true rfl) (by decide) ?_
  rintro _ f1 ⟨rfl, e4⟩
  obtain rfl := e4.symm
  refine G_cast (st' := [.int (zI (if 0 ≤ (2 : Int) ∧ (2 : Int) ≤ 3 then 1 else 0))]) ?_ rfl rfl rfl rfl
  refine G_top (show zI (if 0 ≤ (2 : Int) ∧ (2 : Int) ≤ 3 then 1 else 0) = zI 1 from by rw [if_pos (by omega)]) ?_
  refine G_if_eq_z hX (tgt := 15) d_Df_sum_4 rfl (by omega) (fun c5 => by exfalso; omega) (fun c6 => ?_)
  refine G_iload_n hX 2 rfl rfl d_Df_sum_7 ?_
  refine G_if_lt_z hX (tgt := 15) d_Df_sum_8 rfl (by omega) (fun c7 => ?_) (fun c8 => ?_)
  · skip
    refine G_ldc2 hX kn_Df_119 d_Df_sum_15 ?_
    refine G_topl (show (-1 : Int64) = zL (-1) from by decide) ?_
    exact F_lret hX hE d_Df_sum_18 ⟨by rw [if_neg (by omega), if_pos (by omega)], ⟨_, _, _, _, hW⟩, Fr.rf⟩
  · skip
    refine G_iload_n hX 3 rfl rfl d_Df_sum_11 ?_
    refine G_if_ge_z hX (tgt := 19) d_Df_sum_12 rfl (by omega) (fun c9 => ?_) (fun c10 => ?_)
    · skip
      refine G_aload_n hX 0 rfl rfl d_Df_sum_19 ?_
      refine F_get hX fg_Df_9 d_Df_sum_20 0 (by decide) hF.1 rfl ?_
      refine G_iload_n hX 1 rfl rfl d_Df_sum_23 ?_
      refine F_aald hX d_Df_sum_24 1 (by decide) hF.2 (by decide) (a := eA E 6) rfl ?_
      refine G_astore hX (lv' := [(4, .ref (eA E 6)), (0, .ref (eA E 0)), (1, .int (zI 2)), (2, .int (zI a)), (3, .int (zI m))]) (by decide) rfl d_Df_sum_25 ?_
      refine G_iload_n hX 4 rfl rfl d_Df_sum_27 ?_
      refine G_if_ne_z hX (tgt := 56) d_Df_sum_28 rfl (by omega) (fun c11 => ?_) (fun c12 => ?_)
      · skip
        refine G_iload_n hX 3 rfl rfl d_Df_sum_56 ?_
        refine G_aload hX 0 rfl d_Df_sum_57 ?_
        refine F_get hX fg_Df_101 d_Df_sum_59 6 (by decide) hR.1 rfl ?_
        refine G_iload_n hX 4 rfl rfl d_Df_sum_62 ?_
        refine G_isub_z hX d_Df_sum_63 ?_
        refine G_icmp_le_z hX (tgt := 71) d_Df_sum_64 rfl (by omega) (fun c13 => ?_) (fun c14 => ?_)
        · skip
          refine G_aload_n hX 1 rfl rfl d_Df_sum_71 ?_
          refine F_get hX fg_Df_25 d_Df_sum_72 0 (by decide) hF.1 rfl ?_
          refine G_aload hX 0 rfl d_Df_sum_75 ?_
          refine F_get hX fg_Df_94 d_Df_sum_77 6 (by decide) hR.1 rfl ?_
          refine G_iload_n hX 3 rfl rfl d_Df_sum_80 ?_
          refine G_iload_n hX 4 rfl rfl d_Df_sum_81 ?_
          refine F_callV hX (st := []) (c_Ws_take E f 13 7 700 g y0 y1 y2 y3 a m (by decide) (by decide) (by decide) hW hR.2 (by omega)) cm_Ws_take im_Ws_take se_Ws_take rfl ml_Df_125 d_Df_sum_82 (by decide) hW rfl rfl (Nat.le_of_ble_eq_true rfl) (by decide) ?_
          rintro _ f15 ⟨rfl, h18, k19⟩
          refine G_cast (st' := []) ?_ rfl rfl rfl rfl
          refine G_aload_n hX 1 rfl rfl d_Df_sum_85 ?_
          have h20 : f15 0 = ob 11 [.ref (eA E 1), .ref (eA E 10), .ref (eA E 13), .ref (eA E 14), .ref (eA E 22), .ref (eA E 27), .ref (eA E 29), .ref (eA E 44), .int (zI bk), .int (zI wi), .int (zI ns), .long n1, .long n2] := (k19 0 (by decide)).trans hF.1
          refine F_get hX fg_Df_25 d_Df_sum_86 0 (by decide) h20 rfl ?_
          refine F_callV hX (st := []) (c_Ws_value E f15 13 a m (sP g a (m).toNat) (sW g a m (m).toNat) (by decide) h18) cm_Ws_value im_Ws_value se_Ws_value rfl ml_Df_126 d_Df_sum_89 (by decide) h18 rfl rfl (Nat.le_of_ble_eq_true rfl) (by decide) ?_
          rintro _ f21 ⟨rfl, e24⟩
          obtain rfl := e24.symm
          refine G_cast (st' := [.long (zL (65536 * ((sW g a m (m).toNat) % 65536) + (sP g a (m).toNat) % 65536))]) ?_ rfl rfl rfl rfl
          exact F_lret hX hE d_Df_sum_92 ⟨by rw [if_neg (by omega), if_neg (by omega)]; rfl, ⟨_, _, _, _, h18⟩, (Fr.tr Fr.rf k19 (by decide))⟩
        · skip
          refine G_ldc2 hX kn_Df_119 d_Df_sum_67 ?_
          refine G_topl (show (-1 : Int64) = zL (-1) from by decide) ?_
          exact F_lret hX hE d_Df_sum_70 ⟨by rw [if_neg (by omega), if_pos (by omega)], ⟨_, _, _, _, hW⟩, Fr.rf⟩
      · skip
        refine G_iload_n hX 3 rfl rfl d_Df_sum_31 ?_
        refine G_if_ne_z hX (tgt := 52) d_Df_sum_32 rfl (by omega) (fun c25 => ?_) (fun c26 => ?_)
        · skip
          refine G_ldc2 hX kn_Df_119 d_Df_sum_52 ?_
          refine G_topl (show (-1 : Int64) = zL (-1) from by decide) ?_
          exact F_lret hX hE d_Df_sum_55 ⟨by rw [if_neg (by omega), if_pos (by omega)], ⟨_, _, _, _, hW⟩, Fr.rf⟩
        · skip
          refine G_aload hX 0 rfl d_Df_sum_35 ?_
          refine F_get hX fg_Df_94 d_Df_sum_37 6 (by decide) hR.1 rfl ?_
          refine G_iconst hX d_Df_sum_40 ?_
          refine G_aload hX 0 rfl d_Df_sum_41 ?_
          refine F_get hX fg_Df_101 d_Df_sum_43 6 (by decide) hR.1 rfl ?_
          refine F_callS hX (st := []) (c_Df_checkOf E f 7 700 g 0 c (by decide) hR.2 hB (by omega)) cm_Df_checkOf sm_Df_checkOf ml_Df_121 d_Df_sum_46 rfl rfl (Nat.le_of_ble_eq_true rfl) (by decide) ?_
          rintro _ f27 ⟨rfl, e30⟩
          obtain rfl := e30.symm
          refine G_cast (st' := [.long (zL (adV g 0 c))]) ?_ rfl rfl rfl rfl
          refine G_goto hX (tgt := 55) d_Df_sum_49 rfl ?_
          exact F_lret hX hE d_Df_sum_55 ⟨by rw [if_pos (by omega)], ⟨_, _, _, _, hW⟩, Fr.rf⟩
    · skip
      refine G_ldc2 hX kn_Df_119 d_Df_sum_15 ?_
      refine G_topl (show (-1 : Int64) = zL (-1) from by decide) ?_
      exact F_lret hX hE d_Df_sum_18 ⟨by rw [if_neg (by omega), if_pos (by omega)], ⟨_, _, _, _, hW⟩, Fr.rf⟩
theorem c_Df_clear_3 (E : EV) (f : Nat → va_E) (bk wi ns : Int) (n1 n2 : Int64) (g : Int → Int) (c : Int) (hF : isDf E f bk wi ns n1 n2) (hR : isR E f 8 9 300 g c) (hc : 0 ≤ c ∧ c ≤ 300) : CF yn_Df_clear cd_Df_clear 3 (some (.int)) 1 E [.ref (eA E 0), .int (zI 3)] f (fun r f' => r = some (.int (zI c)) ∧ isR E f' 8 9 300 g 0 ∧ Fr [8] f f') := by
  refine CF.of (by decide +kernel) (Nat.le_of_ble_eq_true rfl) fun X hX hE => ?_
  have hX : Ok E X "DeltaFerry" "clear" cd_Df_clear 3 (some (.int)) (rl 1) := hX
  refine G_cast (lv' := [(0, .ref (eA E 0)), (1, .int (zI 3))]) ?_ rfl rfl rfl rfl
  refine G_iload_n hX 1 rfl rfl d_Df_clear_0 ?_
  refine F_callS hX (st := []) (c_Df_isFile E f (3) (by omega)) cm_Df_isFile sm_Df_isFile ml_Df_98 d_Df_clear_1 rfl rfl (Nat.le_of_ble_eq_true rfl) (by decide) ?_
  rintro _ f1 ⟨rfl, e4⟩
  obtain rfl := e4.symm
  refine G_cast (st' := [.int (zI (if 0 ≤ (3 : Int) ∧ (3 : Int) ≤ 3 then 1 else 0))]) ?_ rfl rfl rfl rfl
  refine G_top (show zI (if 0 ≤ (3 : Int) ∧ (3 : Int) ≤ 3 then 1 else 0) = zI 1 from by rw [if_pos (by omega)]) ?_
  refine G_if_ne_z hX (tgt := 9) d_Df_clear_4 rfl (by omega) (fun c5 => ?_) (fun c6 => by exfalso; omega)
  refine G_aload_n hX 0 rfl rfl d_Df_clear_9 ?_
  refine F_get hX fg_Df_9 d_Df_clear_10 0 (by decide) hF.1 rfl ?_
  refine G_iload_n hX 1 rfl rfl d_Df_clear_13 ?_
  refine F_aald hX d_Df_clear_14 1 (by decide) hF.2 (by decide) (a := eA E 8) rfl ?_
  refine F_get hX fg_Df_101 d_Df_clear_15 8 (by decide) hR.1 rfl ?_
  refine G_istore_n hX (lv' := [(2, .int (zI c)), (0, .ref (eA E 0)), (1, .int (zI 3))]) rfl (by decide) rfl d_Df_clear_18 ?_
  refine G_aload_n hX 1 rfl rfl d_Df_clear_19 ?_
  refine F_get hX fg_Df_9 d_Df_clear_20 0 (by decide) hF.1 rfl ?_
  refine G_iload_n hX 2 rfl rfl d_Df_clear_23 ?_
  refine F_aald hX d_Df_clear_24 1 (by decide) hF.2 (by decide) (a := eA E 8) rfl ?_
  refine G_iconst hX d_Df_clear_25 ?_
  refine F_put hX fg_Df_101 fp_Ro_1 d_Df_clear_26 8 (fs' := [.ref (eA E 9), .int (zI 0)]) (by decide) hR.1 rfl rfl (Nat.le_of_ble_eq_true rfl) rfl (fun f7 h8 k9 => ?_)
  refine G_aload_n hX 1 rfl rfl d_Df_clear_29 ?_
  refine G_iload_n hX 2 rfl rfl d_Df_clear_30 ?_
  have h10 : f7 0 = ob 11 [.ref (eA E 1), .ref (eA E 10), .ref (eA E 13), .ref (eA E 14), .ref (eA E 22), .ref (eA E 27), .ref (eA E 29), .ref (eA E 44), .int (zI bk), .int (zI wi), .int (zI ns), .long n1, .long n2] := (k9 0 (by decide)).trans hF.1
  have h11 : f7 1 = ra E 4 (fun j => some (eA E (2 + 2 * j))) := (k9 1 (by decide)).trans hF.2
  refine F_callV hX (st := []) (c_Df_giveUp_3 E f7 bk wi ns n1 n2 ⟨h10, h11⟩) cm_Df_giveUpPlanOf im_Df_giveUpPlanOf se_Df_giveUpPlanOf rfl ml_Df_88 d_Df_clear_31 (by decide) h10 rfl rfl (Nat.le_of_ble_eq_true rfl) (by decide) ?_
  rintro _ f12 ⟨rfl, e15⟩
  obtain rfl := e15.symm
  refine G_cast (st' := []) ?_ rfl rfl rfl rfl
  refine G_iload_n hX 0 rfl rfl d_Df_clear_34 ?_
  have h16 : f7 9 = iz E 300 g := (k9 9 (by decide)).trans hR.2
  exact F_iret hX hE d_Df_clear_35 ⟨rfl, ⟨h8, h16⟩, (Fr.tr Fr.rf k9 (by decide))⟩
theorem c_Df_size_3 (E : EV) (f : Nat → va_E) (bk wi ns : Int) (n1 n2 : Int64) (g : Int → Int) (c : Int) (hF : isDf E f bk wi ns n1 n2) (hR : isR E f 8 9 300 g c) (hc : 0 ≤ c ∧ c ≤ 300) : CF yn_Df_size cd_Df_size 2 (some (.int)) 1 E [.ref (eA E 0), .int (zI 3)] f (fun r f' => r = some (.int (zI c)) ∧ f' = f) := by
  refine CF.of (by decide +kernel) (Nat.le_of_ble_eq_true rfl) fun X hX hE => ?_
  have hX : Ok E X "DeltaFerry" "size" cd_Df_size 2 (some (.int)) (rl 1) := hX
  refine G_cast (lv' := [(0, .ref (eA E 0)), (1, .int (zI 3))]) ?_ rfl rfl rfl rfl
  refine G_iload_n hX 1 rfl rfl d_Df_size_0 ?_
  refine F_callS hX (st := []) (c_Df_isFile E f (3) (by omega)) cm_Df_isFile sm_Df_isFile ml_Df_98 d_Df_size_1 rfl rfl (Nat.le_of_ble_eq_true rfl) (by decide) ?_
  rintro _ f1 ⟨rfl, e4⟩
  obtain rfl := e4.symm
  refine G_cast (st' := [.int (zI (if 0 ≤ (3 : Int) ∧ (3 : Int) ≤ 3 then 1 else 0))]) ?_ rfl rfl rfl rfl
  refine G_top (show zI (if 0 ≤ (3 : Int) ∧ (3 : Int) ≤ 3 then 1 else 0) = zI 1 from by rw [if_pos (by omega)]) ?_
  refine G_if_eq_z hX (tgt := 19) d_Df_size_4 rfl (by omega) (fun c5 => by exfalso; omega) (fun c6 => ?_)
  refine G_aload_n hX 0 rfl rfl d_Df_size_7 ?_
  refine F_get hX fg_Df_9 d_Df_size_8 0 (by decide) hF.1 rfl ?_
  refine G_iload_n hX 1 rfl rfl d_Df_size_11 ?_
  refine F_aald hX d_Df_size_12 1 (by decide) hF.2 (by decide) (a := eA E 8) rfl ?_
  refine F_get hX fg_Df_101 d_Df_size_13 8 (by decide) hR.1 rfl ?_
  refine G_goto hX (tgt := 20) d_Df_size_16 rfl ?_
  exact F_iret hX hE d_Df_size_20 ⟨rfl, rfl⟩
theorem c_Df_at_3 (E : EV) (f : Nat → va_E) (bk wi ns : Int) (n1 n2 : Int64) (g : Int → Int) (c : Int) (p : Int) (hF : isDf E f bk wi ns n1 n2) (hR : isR E f 8 9 300 g c) (hc : 0 ≤ c ∧ c ≤ 300) (hp : 0 ≤ p ∧ p < c) : CF yn_Df_at cd_Df_at 3 (some (.int)) 1 E [.ref (eA E 0), .int (zI 3), .int (zI p)] f (fun r f' => r = some (.int (zI (g p))) ∧ f' = f) := by
  refine CF.of (by decide +kernel) (Nat.le_of_ble_eq_true rfl) fun X hX hE => ?_
  have hX : Ok E X "DeltaFerry" "at" cd_Df_at 3 (some (.int)) (rl 1) := hX
  refine G_cast (lv' := [(0, .ref (eA E 0)), (1, .int (zI 3)), (2, .int (zI p))]) ?_ rfl rfl rfl rfl
  refine G_iload_n hX 1 rfl rfl d_Df_at_0 ?_
  refine F_callS hX (st := []) (c_Df_isFile E f (3) (by omega)) cm_Df_isFile sm_Df_isFile ml_Df_98 d_Df_at_1 rfl rfl (Nat.le_of_ble_eq_true rfl) (by decide) ?_
  rintro _ f1 ⟨rfl, e4⟩
  obtain rfl := e4.symm
  refine G_cast (st' := [.int (zI (if 0 ≤ (3 : Int) ∧ (3 : Int) ≤ 3 then 1 else 0))]) ?_ rfl rfl rfl rfl
  refine G_top (show zI (if 0 ≤ (3 : Int) ∧ (3 : Int) ≤ 3 then 1 else 0) = zI 1 from by rw [if_pos (by omega)]) ?_
  refine G_if_eq_z hX (tgt := 34) d_Df_at_4 rfl (by omega) (fun c5 => by exfalso; omega) (fun c6 => ?_)
  refine G_aload_n hX 0 rfl rfl d_Df_at_7 ?_
  refine F_get hX fg_Df_9 d_Df_at_8 0 (by decide) hF.1 rfl ?_
  refine G_iload_n hX 1 rfl rfl d_Df_at_11 ?_
  refine F_aald hX d_Df_at_12 1 (by decide) hF.2 (by decide) (a := eA E 8) rfl ?_
  refine G_iload_n hX 2 rfl rfl d_Df_at_13 ?_
  refine F_callV hX (st := []) (c_Ro_has E f 8 9 300 g c p (by decide) (by decide) (by decide) ⟨hR.1, hR.2⟩ (by omega) (by omega)) cm_Ro_has im_Ro_has se_Ro_has rfl ml_Df_91 d_Df_at_14 (by decide) hR.1 rfl rfl (Nat.le_of_ble_eq_true rfl) (by decide) ?_
  rintro _ f7 ⟨rfl, e10⟩
  obtain rfl := e10.symm
  refine G_cast (st' := [.int (zI (if 0 ≤ p ∧ p < c then 1 else 0))]) ?_ rfl rfl rfl rfl
  refine G_top (show zI (if 0 ≤ p ∧ p < c then 1 else 0) = zI 1 from by rw [if_pos (by omega)]) ?_
  refine G_if_eq_z hX (tgt := 34) d_Df_at_17 rfl (by omega) (fun c11 => by exfalso; omega) (fun c12 => ?_)
  refine G_aload_n hX 0 rfl rfl d_Df_at_20 ?_
  refine F_get hX fg_Df_9 d_Df_at_21 0 (by decide) hF.1 rfl ?_
  refine G_iload_n hX 1 rfl rfl d_Df_at_24 ?_
  refine F_aald hX d_Df_at_25 1 (by decide) hF.2 (by decide) (a := eA E 8) rfl ?_
  refine F_get hX fg_Df_94 d_Df_at_26 8 (by decide) hR.1 rfl ?_
  refine G_iload_n hX 2 rfl rfl d_Df_at_29 ?_
  refine F_iald hX d_Df_at_30 9 (by decide) hR.2 (by omega) ?_
  refine G_goto hX (tgt := 35) d_Df_at_31 rfl ?_
  exact F_iret hX hE d_Df_at_35 ⟨rfl, rfl⟩
theorem c_Df_at_no3 (E : EV) (f : Nat → va_E) (bk wi ns : Int) (n1 n2 : Int64) (g : Int → Int) (c : Int) (p : Int) (hF : isDf E f bk wi ns n1 n2) (hR : isR E f 8 9 300 g c) (hc : 0 ≤ c ∧ c ≤ 300) (hp : p < 0 ∨ c ≤ p) (hp2 : -2147483648 ≤ p ∧ p < 2147483648) : CF yn_Df_at cd_Df_at 3 (some (.int)) 1 E [.ref (eA E 0), .int (zI 3), .int (zI p)] f (fun r f' => r = some (.int (zI (-1))) ∧ f' = f) := by
  refine CF.of (by decide +kernel) (Nat.le_of_ble_eq_true rfl) fun X hX hE => ?_
  have hX : Ok E X "DeltaFerry" "at" cd_Df_at 3 (some (.int)) (rl 1) := hX
  refine G_cast (lv' := [(0, .ref (eA E 0)), (1, .int (zI 3)), (2, .int (zI p))]) ?_ rfl rfl rfl rfl
  refine G_iload_n hX 1 rfl rfl d_Df_at_0 ?_
  refine F_callS hX (st := []) (c_Df_isFile E f (3) (by omega)) cm_Df_isFile sm_Df_isFile ml_Df_98 d_Df_at_1 rfl rfl (Nat.le_of_ble_eq_true rfl) (by decide) ?_
  rintro _ f1 ⟨rfl, e4⟩
  obtain rfl := e4.symm
  refine G_cast (st' := [.int (zI (if 0 ≤ (3 : Int) ∧ (3 : Int) ≤ 3 then 1 else 0))]) ?_ rfl rfl rfl rfl
  refine G_top (show zI (if 0 ≤ (3 : Int) ∧ (3 : Int) ≤ 3 then 1 else 0) = zI 1 from by rw [if_pos (by omega)]) ?_
  refine G_if_eq_z hX (tgt := 34) d_Df_at_4 rfl (by omega) (fun c5 => by exfalso; omega) (fun c6 => ?_)
  refine G_aload_n hX 0 rfl rfl d_Df_at_7 ?_
  refine F_get hX fg_Df_9 d_Df_at_8 0 (by decide) hF.1 rfl ?_
  refine G_iload_n hX 1 rfl rfl d_Df_at_11 ?_
  refine F_aald hX d_Df_at_12 1 (by decide) hF.2 (by decide) (a := eA E 8) rfl ?_
  refine G_iload_n hX 2 rfl rfl d_Df_at_13 ?_
  refine F_callV hX (st := []) (c_Ro_has E f 8 9 300 g c p (by decide) (by decide) (by decide) ⟨hR.1, hR.2⟩ (by omega) (by omega)) cm_Ro_has im_Ro_has se_Ro_has rfl ml_Df_91 d_Df_at_14 (by decide) hR.1 rfl rfl (Nat.le_of_ble_eq_true rfl) (by decide) ?_
  rintro _ f7 ⟨rfl, e10⟩
  obtain rfl := e10.symm
  refine G_cast (st' := [.int (zI (if 0 ≤ p ∧ p < c then 1 else 0))]) ?_ rfl rfl rfl rfl
  refine G_top (show zI (if 0 ≤ p ∧ p < c then 1 else 0) = zI 0 from by rw [if_neg (by omega)]) ?_
  refine G_if_eq_z hX (tgt := 34) d_Df_at_17 rfl (by omega) (fun c11 => ?_) (fun c12 => by exfalso; omega)
  refine G_iconst hX d_Df_at_34 ?_
  exact F_iret hX hE d_Df_at_35 ⟨rfl, rfl⟩
theorem c_Df_digest_3 (E : EV) (f : Nat → va_E) (bk wi ns : Int) (n1 n2 : Int64) (g : Int → Int) (c : Int) (s0 wd0 : Nat → Int32) (h : Int) (hF : isDf E f bk wi ns n1 n2) (hR : isR E f 8 9 300 g c) (hc : 0 ≤ c ∧ c ≤ 300) (hD : isD E f 10 11 12 s0 wd0) (hh : -2147483648 ≤ h ∧ h < 2147483648) : CF yn_Df_digest cd_Df_digest 3 (some (.long)) 3 E [.ref (eA E 0), .int (zI 3), .int (zI h)] f (fun r f' => r = some (.long (if h = 0 then dgA g 0 c else dgB g 0 c)) ∧ (∃ s' wd', isD E f' 10 11 12 s' wd') ∧ Fr [11, 12] f f') := by
  refine CF.of (by decide +kernel) (Nat.le_of_ble_eq_true rfl) fun X hX hE => ?_
  have hX : Ok E X "DeltaFerry" "digest" cd_Df_digest 3 (some (.long)) (rl 3) := hX
  refine G_cast (lv' := [(0, .ref (eA E 0)), (1, .int (zI 3)), (2, .int (zI h))]) ?_ rfl rfl rfl rfl
  refine G_iload_n hX 1 rfl rfl d_Df_digest_0 ?_
  refine F_callS hX (st := []) (c_Df_isFile E f (3) (by omega)) cm_Df_isFile sm_Df_isFile ml_Df_98 d_Df_digest_1 rfl rfl (Nat.le_of_ble_eq_true rfl) (by decide) ?_
  rintro _ f1 ⟨rfl, e4⟩
  obtain rfl := e4.symm
  refine G_cast (st' := [.int (zI (if 0 ≤ (3 : Int) ∧ (3 : Int) ≤ 3 then 1 else 0))]) ?_ rfl rfl rfl rfl
  refine G_top (show zI (if 0 ≤ (3 : Int) ∧ (3 : Int) ≤ 3 then 1 else 0) = zI 1 from by rw [if_pos (by omega)]) ?_
  refine G_if_ne_z hX (tgt := 9) d_Df_digest_4 rfl (by omega) (fun c5 => ?_) (fun c6 => by exfalso; omega)
  refine G_aload_n hX 0 rfl rfl d_Df_digest_9 ?_
  refine F_get hX fg_Df_18 d_Df_digest_10 0 (by decide) hF.1 rfl ?_
  refine G_aload_n hX 0 rfl rfl d_Df_digest_13 ?_
  refine F_get hX fg_Df_9 d_Df_digest_14 0 (by decide) hF.1 rfl ?_
  refine G_iload_n hX 1 rfl rfl d_Df_digest_17 ?_
  refine F_aald hX d_Df_digest_18 1 (by decide) hF.2 (by decide) (a := eA E 8) rfl ?_
  refine F_get hX fg_Df_94 d_Df_digest_19 8 (by decide) hR.1 rfl ?_
  refine G_iconst hX d_Df_digest_22 ?_
  refine G_aload_n hX 0 rfl rfl d_Df_digest_23 ?_
  refine F_get hX fg_Df_9 d_Df_digest_24 0 (by decide) hF.1 rfl ?_
  refine G_iload_n hX 1 rfl rfl d_Df_digest_27 ?_
  refine F_aald hX d_Df_digest_28 1 (by decide) hF.2 (by decide) (a := eA E 8) rfl ?_
  refine F_get hX fg_Df_101 d_Df_digest_29 8 (by decide) hR.1 rfl ?_
  refine F_callV hX (st := []) (c_Dg_take E f 10 11 12 s0 wd0 9 300 g 0 c (by decide) (by decide) (by decide) (by decide) (by decide) (by decide) (by decide) (by decide) (by decide) (by decide) ⟨hD.1, hD.2.1, hD.2.2⟩ hR.2 (by omega)) cm_Dg_take im_Dg_take se_Dg_take rfl ml_Df_108 d_Df_digest_32 (by decide) hD.1 rfl rfl (Nat.le_of_ble_eq_true rfl) (by decide) ?_
  rintro _ f7 ⟨rfl, ⟨wd10, h11, h12, h13⟩, k14⟩
  refine G_cast (st' := []) ?_ rfl rfl rfl rfl
  refine G_iload_n hX 2 rfl rfl d_Df_digest_35 ?_
  refine G_if_ne_z hX (tgt := 49) d_Df_digest_36 rfl (by omega) (fun c15 => ?_) (fun c16 => ?_)
  · skip
    refine G_aload_n hX 0 rfl rfl d_Df_digest_49 ?_
    have h17 : f7 0 = ob 11 [.ref (eA E 1), .ref (eA E 10), .ref (eA E 13), .ref (eA E 14), .ref (eA E 22), .ref (eA E 27), .ref (eA E 29), .ref (eA E 44), .int (zI bk), .int (zI wi), .int (zI ns), .long n1, .long n2] := (k14 0 (by decide)).trans hF.1
    refine F_get hX fg_Df_18 d_Df_digest_50 0 (by decide) h17 rfl ?_
    refine F_callV hX (st := []) (c_Dg_lastHalf E f7 10 11 12 (m5D g 0 c) wd10 (by decide) (by decide) (by decide) (by decide) (by decide) (by decide) ⟨h11, h12, h13⟩) cm_Dg_lastHalf im_Dg_lastHalf se_Dg_lastHalf rfl ml_Df_116 d_Df_digest_53 (by decide) h11 rfl rfl (Nat.le_of_ble_eq_true rfl) (by decide) ?_
    rintro _ f18 ⟨rfl, e21⟩
    obtain rfl := e21.symm
    refine G_cast (st' := [.long (hfF (m5D g 0 c).2.2.1 (m5D g 0 c).2.2.2)]) ?_ rfl rfl rfl rfl
    refine G_topl (show (hfF (m5D g 0 c).2.2.1 (m5D g 0 c).2.2.2) = (dgB g 0 c) from rfl) ?_
    exact F_lret hX hE d_Df_digest_56 ⟨by rw [if_neg (by omega)], ⟨_, _, h11, h12, h13⟩, (Fr.tr Fr.rf k14 (by decide))⟩
  · skip
    refine G_aload_n hX 0 rfl rfl d_Df_digest_39 ?_
    have h22 : f7 0 = ob 11 [.ref (eA E 1), .ref (eA E 10), .ref (eA E 13), .ref (eA E 14), .ref (eA E 22), .ref (eA E 27), .ref (eA E 29), .ref (eA E 44), .int (zI bk), .int (zI wi), .int (zI ns), .long n1, .long n2] := (k14 0 (by decide)).trans hF.1
    refine F_get hX fg_Df_18 d_Df_digest_40 0 (by decide) h22 rfl ?_
    refine F_callV hX (st := []) (c_Dg_firstHalf E f7 10 11 12 (m5D g 0 c) wd10 (by decide) (by decide) (by decide) (by decide) (by decide) (by decide) ⟨h11, h12, h13⟩) cm_Dg_firstHalf im_Dg_firstHalf se_Dg_firstHalf rfl ml_Df_112 d_Df_digest_43 (by decide) h11 rfl rfl (Nat.le_of_ble_eq_true rfl) (by decide) ?_
    rintro _ f23 ⟨rfl, e26⟩
    obtain rfl := e26.symm
    refine G_cast (st' := [.long (hfF (m5D g 0 c).1 (m5D g 0 c).2.1)]) ?_ rfl rfl rfl rfl
    refine G_topl (show (hfF (m5D g 0 c).1 (m5D g 0 c).2.1) = (dgA g 0 c) from rfl) ?_
    refine G_goto hX (tgt := 56) d_Df_digest_46 rfl ?_
    exact F_lret hX hE d_Df_digest_56 ⟨by rw [if_pos (by omega)], ⟨_, _, h11, h12, h13⟩, (Fr.tr Fr.rf k14 (by decide))⟩
theorem c_Df_sum_3 (E : EV) (f : Nat → va_E) (bk wi ns : Int) (n1 n2 : Int64) (g : Int → Int) (c : Int) (y0 y1 y2 y3 : Int32) (a m : Int) (hF : isDf E f bk wi ns n1 n2) (hR : isR E f 8 9 300 g c) (hc : 0 ≤ c ∧ c ≤ 300) (hB : isB g) (hW : f 13 = ob 8 [.int y0, .int y1, .int y2, .int y3]) (ham : -2147483648 ≤ a ∧ a < 2147483648 ∧ -2147483648 ≤ m ∧ m < 2147483648) : CF yn_Df_sum cd_Df_sum 5 (some (.long)) 1 E [.ref (eA E 0), .int (zI 3), .int (zI a), .int (zI m)] f (fun r f' => r = some (.long (zL (if a = 0 ∧ m = 0 then adV g 0 c else if a < 0 ∨ m < 1 ∨ c - m < a then -1 else wkV g a m))) ∧ (∃ z0 z1 z2 z3, f' 13 = ob 8 [.int z0, .int z1, .int z2, .int z3]) ∧ Fr [13] f f') := by
  refine CF.of (by decide +kernel) (Nat.le_of_ble_eq_true rfl) fun X hX hE => ?_
  have hX : Ok E X "DeltaFerry" "sum" cd_Df_sum 5 (some (.long)) (rl 1) := hX
  refine G_cast (lv' := [(0, .ref (eA E 0)), (1, .int (zI 3)), (2, .int (zI a)), (3, .int (zI m))]) ?_ rfl rfl rfl rfl
  refine G_iload_n hX 1 rfl rfl d_Df_sum_0 ?_
  refine F_callS hX (st := []) (c_Df_isFile E f (3) (by omega)) cm_Df_isFile sm_Df_isFile ml_Df_98 d_Df_sum_1 rfl rfl (Nat.le_of_ble_eq_true rfl) (by decide) ?_
  rintro _ f1 ⟨rfl, e4⟩
  obtain rfl := e4.symm
  refine G_cast (st' := [.int (zI (if 0 ≤ (3 : Int) ∧ (3 : Int) ≤ 3 then 1 else 0))]) ?_ rfl rfl rfl rfl
  refine G_top (show zI (if 0 ≤ (3 : Int) ∧ (3 : Int) ≤ 3 then 1 else 0) = zI 1 from by rw [if_pos (by omega)]) ?_
  refine G_if_eq_z hX (tgt := 15) d_Df_sum_4 rfl (by omega) (fun c5 => by exfalso; omega) (fun c6 => ?_)
  refine G_iload_n hX 2 rfl rfl d_Df_sum_7 ?_
  refine G_if_lt_z hX (tgt := 15) d_Df_sum_8 rfl (by omega) (fun c7 => ?_) (fun c8 => ?_)
  · skip
    refine G_ldc2 hX kn_Df_119 d_Df_sum_15 ?_
    refine G_topl (show (-1 : Int64) = zL (-1) from by decide) ?_
    exact F_lret hX hE d_Df_sum_18 ⟨by rw [if_neg (by omega), if_pos (by omega)], ⟨_, _, _, _, hW⟩, Fr.rf⟩
  · skip
    refine G_iload_n hX 3 rfl rfl d_Df_sum_11 ?_
    refine G_if_ge_z hX (tgt := 19) d_Df_sum_12 rfl (by omega) (fun c9 => ?_) (fun c10 => ?_)
    · skip
      refine G_aload_n hX 0 rfl rfl d_Df_sum_19 ?_
      refine F_get hX fg_Df_9 d_Df_sum_20 0 (by decide) hF.1 rfl ?_
      refine G_iload_n hX 1 rfl rfl d_Df_sum_23 ?_
      refine F_aald hX d_Df_sum_24 1 (by decide) hF.2 (by decide) (a := eA E 8) rfl ?_
      refine G_astore hX (lv' := [(4, .ref (eA E 8)), (0, .ref (eA E 0)), (1, .int (zI 3)), (2, .int (zI a)), (3, .int (zI m))]) (by decide) rfl d_Df_sum_25 ?_
      refine G_iload_n hX 4 rfl rfl d_Df_sum_27 ?_
      refine G_if_ne_z hX (tgt := 56) d_Df_sum_28 rfl (by omega) (fun c11 => ?_) (fun c12 => ?_)
      · skip
        refine G_iload_n hX 3 rfl rfl d_Df_sum_56 ?_
        refine G_aload hX 0 rfl d_Df_sum_57 ?_
        refine F_get hX fg_Df_101 d_Df_sum_59 8 (by decide) hR.1 rfl ?_
        refine G_iload_n hX 4 rfl rfl d_Df_sum_62 ?_
        refine G_isub_z hX d_Df_sum_63 ?_
        refine G_icmp_le_z hX (tgt := 71) d_Df_sum_64 rfl (by omega) (fun c13 => ?_) (fun c14 => ?_)
        · skip
          refine G_aload_n hX 1 rfl rfl d_Df_sum_71 ?_
          refine F_get hX fg_Df_25 d_Df_sum_72 0 (by decide) hF.1 rfl ?_
          refine G_aload hX 0 rfl d_Df_sum_75 ?_
          refine F_get hX fg_Df_94 d_Df_sum_77 8 (by decide) hR.1 rfl ?_
          refine G_iload_n hX 3 rfl rfl d_Df_sum_80 ?_
          refine G_iload_n hX 4 rfl rfl d_Df_sum_81 ?_
          refine F_callV hX (st := []) (c_Ws_take E f 13 9 300 g y0 y1 y2 y3 a m (by decide) (by decide) (by decide) hW hR.2 (by omega)) cm_Ws_take im_Ws_take se_Ws_take rfl ml_Df_125 d_Df_sum_82 (by decide) hW rfl rfl (Nat.le_of_ble_eq_true rfl) (by decide) ?_
          rintro _ f15 ⟨rfl, h18, k19⟩
          refine G_cast (st' := []) ?_ rfl rfl rfl rfl
          refine G_aload_n hX 1 rfl rfl d_Df_sum_85 ?_
          have h20 : f15 0 = ob 11 [.ref (eA E 1), .ref (eA E 10), .ref (eA E 13), .ref (eA E 14), .ref (eA E 22), .ref (eA E 27), .ref (eA E 29), .ref (eA E 44), .int (zI bk), .int (zI wi), .int (zI ns), .long n1, .long n2] := (k19 0 (by decide)).trans hF.1
          refine F_get hX fg_Df_25 d_Df_sum_86 0 (by decide) h20 rfl ?_
          refine F_callV hX (st := []) (c_Ws_value E f15 13 a m (sP g a (m).toNat) (sW g a m (m).toNat) (by decide) h18) cm_Ws_value im_Ws_value se_Ws_value rfl ml_Df_126 d_Df_sum_89 (by decide) h18 rfl rfl (Nat.le_of_ble_eq_true rfl) (by decide) ?_
          rintro _ f21 ⟨rfl, e24⟩
          obtain rfl := e24.symm
          refine G_cast (st' := [.long (zL (65536 * ((sW g a m (m).toNat) % 65536) + (sP g a (m).toNat) % 65536))]) ?_ rfl rfl rfl rfl
          exact F_lret hX hE d_Df_sum_92 ⟨by rw [if_neg (by omega), if_neg (by omega)]; rfl, ⟨_, _, _, _, h18⟩, (Fr.tr Fr.rf k19 (by decide))⟩
        · skip
          refine G_ldc2 hX kn_Df_119 d_Df_sum_67 ?_
          refine G_topl (show (-1 : Int64) = zL (-1) from by decide) ?_
          exact F_lret hX hE d_Df_sum_70 ⟨by rw [if_neg (by omega), if_pos (by omega)], ⟨_, _, _, _, hW⟩, Fr.rf⟩
      · skip
        refine G_iload_n hX 3 rfl rfl d_Df_sum_31 ?_
        refine G_if_ne_z hX (tgt := 52) d_Df_sum_32 rfl (by omega) (fun c25 => ?_) (fun c26 => ?_)
        · skip
          refine G_ldc2 hX kn_Df_119 d_Df_sum_52 ?_
          refine G_topl (show (-1 : Int64) = zL (-1) from by decide) ?_
          exact F_lret hX hE d_Df_sum_55 ⟨by rw [if_neg (by omega), if_pos (by omega)], ⟨_, _, _, _, hW⟩, Fr.rf⟩
        · skip
          refine G_aload hX 0 rfl d_Df_sum_35 ?_
          refine F_get hX fg_Df_94 d_Df_sum_37 8 (by decide) hR.1 rfl ?_
          refine G_iconst hX d_Df_sum_40 ?_
          refine G_aload hX 0 rfl d_Df_sum_41 ?_
          refine F_get hX fg_Df_101 d_Df_sum_43 8 (by decide) hR.1 rfl ?_
          refine F_callS hX (st := []) (c_Df_checkOf E f 9 300 g 0 c (by decide) hR.2 hB (by omega)) cm_Df_checkOf sm_Df_checkOf ml_Df_121 d_Df_sum_46 rfl rfl (Nat.le_of_ble_eq_true rfl) (by decide) ?_
          rintro _ f27 ⟨rfl, e30⟩
          obtain rfl := e30.symm
          refine G_cast (st' := [.long (zL (adV g 0 c))]) ?_ rfl rfl rfl rfl
          refine G_goto hX (tgt := 55) d_Df_sum_49 rfl ?_
          exact F_lret hX hE d_Df_sum_55 ⟨by rw [if_pos (by omega)], ⟨_, _, _, _, hW⟩, Fr.rf⟩
    · skip
      refine G_ldc2 hX kn_Df_119 d_Df_sum_15 ?_
      refine G_topl (show (-1 : Int64) = zL (-1) from by decide) ?_
      exact F_lret hX hE d_Df_sum_18 ⟨by rw [if_neg (by omega), if_pos (by omega)], ⟨_, _, _, _, hW⟩, Fr.rf⟩
theorem c_Df_begin (E : EV) (f : Nat → va_E) (bk wi ns : Int) (n1 n2 : Int64) (a b : Int) (hF : isDf E f bk wi ns n1 n2) (hk2 : -2147483648 ≤ a ∧ a < 2147483648 ∧ -2147483648 ≤ b ∧ b < 2147483648) : CF yn_Df_begin cd_Df_begin 3 (some (.boolean)) 1 E [.ref (eA E 0), .int (zI a), .int (zI b)] f (fun r f' => (if (4 ≤ a ∧ a ≤ 64) ∧ 16 ≤ b ∧ b ≤ 256 then r = some (.int (zI 1)) ∧ isDf E f' a b 0 n1 n2 else r = some (.int (zI 0)) ∧ isDf E f' bk wi ns n1 n2) ∧ Fr [0] f f') := by
  refine CF.of (by decide +kernel) (Nat.le_of_ble_eq_true rfl) fun X hX hE => ?_
  have hX : Ok E X "DeltaFerry" "begin" cd_Df_begin 3 (some (.boolean)) (rl 1) := hX
  refine G_cast (lv' := [(0, .ref (eA E 0)), (1, .int (zI a)), (2, .int (zI b))]) ?_ rfl rfl rfl rfl
  refine G_iload_n hX 1 rfl rfl d_Df_begin_0 ?_
  refine F_callS hX (st := []) (c_Df_isBlock E f a (by omega)) cm_Df_isBlock sm_Df_isBlock ml_Df_129 d_Df_begin_1 rfl rfl (Nat.le_of_ble_eq_true rfl) (by decide) ?_
  rintro _ f1 ⟨rfl, e4⟩
  obtain rfl := e4.symm
  refine G_cast (st' := [.int (zI (if 4 ≤ a ∧ a ≤ 64 then 1 else 0))]) ?_ rfl rfl rfl rfl
  by_cases hw5 : 4 ≤ a ∧ a ≤ 64
  · skip
    refine G_top (show zI (if 4 ≤ a ∧ a ≤ 64 then 1 else 0) = zI 1 from by rw [if_pos hw5]) ?_
    refine G_if_eq_z hX (tgt := 14) d_Df_begin_4 rfl (by omega) (fun c6 => by exfalso; omega) (fun c7 => ?_)
    refine G_iload_n hX 2 rfl rfl d_Df_begin_7 ?_
    refine F_callS hX (st := []) (c_Df_isWindow E f b (by omega)) cm_Df_isWindow sm_Df_isWindow ml_Df_141 d_Df_begin_8 rfl rfl (Nat.le_of_ble_eq_true rfl) (by decide) ?_
    rintro _ f8 ⟨rfl, e11⟩
    obtain rfl := e11.symm
    refine G_cast (st' := [.int (zI (if 16 ≤ b ∧ b ≤ 256 then 1 else 0))]) ?_ rfl rfl rfl rfl
    by_cases hw12 : 16 ≤ b ∧ b ≤ 256
    · skip
      refine G_top (show zI (if 16 ≤ b ∧ b ≤ 256 then 1 else 0) = zI 1 from by rw [if_pos hw12]) ?_
      refine G_if_ne_z hX (tgt := 16) d_Df_begin_11 rfl (by omega) (fun c13 => ?_) (fun c14 => by exfalso; omega)
      refine G_aload_n hX 0 rfl rfl d_Df_begin_16 ?_
      refine G_iload_n hX 1 rfl rfl d_Df_begin_17 ?_
      refine F_put hX fg_Df_64 fp_Df_8 d_Df_begin_18 0 (fs' := [.ref (eA E 1), .ref (eA E 10), .ref (eA E 13), .ref (eA E 14), .ref (eA E 22), .ref (eA E 27), .ref (eA E 29), .ref (eA E 44), .int (zI a), .int (zI wi), .int (zI ns), .long n1, .long n2]) (by decide) hF.1 rfl rfl (Nat.le_of_ble_eq_true rfl) rfl (fun f15 h16 k17 => ?_)
      refine G_aload_n hX 0 rfl rfl d_Df_begin_21 ?_
      refine G_iload_n hX 2 rfl rfl d_Df_begin_22 ?_
      refine F_put hX fg_Df_68 fp_Df_9 d_Df_begin_23 0 (fs' := [.ref (eA E 1), .ref (eA E 10), .ref (eA E 13), .ref (eA E 14), .ref (eA E 22), .ref (eA E 27), .ref (eA E 29), .ref (eA E 44), .int (zI a), .int (zI b), .int (zI ns), .long n1, .long n2]) (by decide) h16 rfl rfl (Nat.le_of_ble_eq_true rfl) rfl (fun f18 h19 k20 => ?_)
      refine G_aload_n hX 0 rfl rfl d_Df_begin_26 ?_
      refine G_iconst hX d_Df_begin_27 ?_
      refine F_put hX fg_Df_71 fp_Df_10 d_Df_begin_28 0 (fs' := [.ref (eA E 1), .ref (eA E 10), .ref (eA E 13), .ref (eA E 14), .ref (eA E 22), .ref (eA E 27), .ref (eA E 29), .ref (eA E 44), .int (zI a), .int (zI b), .int (zI 0), .long n1, .long n2]) (by decide) h19 rfl rfl (Nat.le_of_ble_eq_true rfl) rfl (fun f21 h22 k23 => ?_)
      refine G_iconst hX d_Df_begin_31 ?_
      have h24 : f21 1 = ra E 4 (fun j => some (eA E (2 + 2 * j))) := (k23 1 (by decide)).trans ((k20 1 (by decide)).trans ((k17 1 (by decide)).trans hF.2))
      exact F_zret hX hE (by decide) d_Df_begin_32 ⟨by rw [if_pos (by omega)]; exact ⟨rfl, h22, h24⟩, (Fr.tr (Fr.tr (Fr.tr Fr.rf k17 (by decide)) k20 (by decide)) k23 (by decide))⟩
    · skip
      refine G_top (show zI (if 16 ≤ b ∧ b ≤ 256 then 1 else 0) = zI 0 from by rw [if_neg hw12]) ?_
      refine G_if_ne_z hX (tgt := 16) d_Df_begin_11 rfl (by omega) (fun c25 => by exfalso; omega) (fun c26 => ?_)
      refine G_iconst hX d_Df_begin_14 ?_
      exact F_zret hX hE (by decide) d_Df_begin_15 ⟨by rw [if_neg (by omega)]; exact ⟨rfl, hF.1, hF.2⟩, Fr.rf⟩
  · skip
    refine G_top (show zI (if 4 ≤ a ∧ a ≤ 64 then 1 else 0) = zI 0 from by rw [if_neg hw5]) ?_
    refine G_if_eq_z hX (tgt := 14) d_Df_begin_4 rfl (by omega) (fun c27 => ?_) (fun c28 => by exfalso; omega)
    refine G_iconst hX d_Df_begin_14 ?_
    exact F_zret hX hE (by decide) d_Df_begin_15 ⟨by rw [if_neg (by omega)]; exact ⟨rfl, hF.1, hF.2⟩, Fr.rf⟩
theorem c_Df_instruction (E : EV) (f : Nat → va_E) (bk wi ns : Int) (n1 n2 : Int64) (P : PS) (md w s : Int) (i q : Int) (hF : isDf E f bk wi ns n1 n2) (hP : isPl E f P md w s) (hB : plB P) (hmd : md = 0 ∨ md = 1) (hC : 0 ≤ pC P ∧ pC P ≤ 300) (hk2 : -2147483648 ≤ i ∧ i < 2147483648 ∧ -2147483648 ≤ q ∧ q < 2147483648) : CF yn_Df_instruction cd_Df_instruction 3 (some (.int)) 0 E [.ref (eA E 0), .int (zI i), .int (zI q)] f (fun r f' => r = some (.int (zI (if md = 0 ∨ i < 0 ∨ pC P ≤ i ∨ q < 0 ∨ 3 < q then -1 else if q = 0 then pT P i else if q = 1 then pS P i else if q = 2 then pA P i else pN P i))) ∧ f' = f) := by
  refine CF.of (by decide +kernel) (Nat.le_of_ble_eq_true rfl) fun X hX hE => ?_
  have hX : Ok E X "DeltaFerry" "instruction" cd_Df_instruction 3 (some (.int)) (rl 0) := hX
  refine G_cast (lv' := [(0, .ref (eA E 0)), (1, .int (zI i)), (2, .int (zI q))]) ?_ rfl rfl rfl rfl
  refine G_aload_n hX 0 rfl rfl d_Df_instruction_0 ?_
  refine F_get hX fg_Df_39 d_Df_instruction_1 0 (by decide) hF.1 rfl ?_
  refine F_get hX fg_Df_175 d_Df_instruction_4 22 (by decide) hP.1 rfl ?_
  refine G_if_eq_z hX (tgt := 25) d_Df_instruction_7 rfl (by omega) (fun c1 => ?_) (fun c2 => ?_)
  · skip
    refine G_iconst hX d_Df_instruction_25 ?_
    exact F_iret hX hE d_Df_instruction_26 ⟨by (repeat (first | rw [if_pos (by omega)] | rw [if_neg (by omega)])), rfl⟩
  · skip
    refine G_iload_n hX 1 rfl rfl d_Df_instruction_10 ?_
    refine G_if_lt_z hX (tgt := 25) d_Df_instruction_11 rfl (by omega) (fun c3 => ?_) (fun c4 => ?_)
    · skip
      refine G_iconst hX d_Df_instruction_25 ?_
      exact F_iret hX hE d_Df_instruction_26 ⟨by (repeat (first | rw [if_pos (by omega)] | rw [if_neg (by omega)])), rfl⟩
    · skip
      refine G_iload_n hX 1 rfl rfl d_Df_instruction_14 ?_
      refine G_aload_n hX 0 rfl rfl d_Df_instruction_15 ?_
      refine F_get hX fg_Df_39 d_Df_instruction_16 0 (by decide) hF.1 rfl ?_
      refine F_get hX fg_Df_163 d_Df_instruction_19 22 (by decide) hP.1 rfl ?_
      refine G_icmp_lt_z hX (tgt := 27) d_Df_instruction_22 rfl (by omega) (fun c5 => ?_) (fun c6 => ?_)
      · skip
        refine G_iload_n hX 2 rfl rfl d_Df_instruction_27 ?_
        rcases (show q = 0 ∨ q = 1 ∨ q = 2 ∨ q = 3 ∨ (q < 0 ∨ 3 < q) by omega) with hq | hq | hq | hq | hq
        · skip
          subst hq
          refine G_tblIn hX (tgt := 60) d_Df_instruction_28 (by decide) (by decide) (off := 32) (by decide) rfl ?_
          refine G_aload_n hX 0 rfl rfl d_Df_instruction_60 ?_
          refine F_get hX fg_Df_39 d_Df_instruction_61 0 (by decide) hF.1 rfl ?_
          refine F_get hX fg_Df_176 d_Df_instruction_64 22 (by decide) hP.1 rfl ?_
          refine G_iload_n hX 1 rfl rfl d_Df_instruction_67 ?_
          refine F_iald hX d_Df_instruction_68 23 (by decide) hP.2.1 (by omega) ?_
          exact F_iret hX hE d_Df_instruction_69 ⟨by (repeat (first | rw [if_pos (by omega)] | rw [if_neg (by omega)])), rfl⟩
        · skip
          subst hq
          refine G_tblIn hX (tgt := 70) d_Df_instruction_28 (by decide) (by decide) (off := 42) (by decide) rfl ?_
          refine G_aload_n hX 0 rfl rfl d_Df_instruction_70 ?_
          refine F_get hX fg_Df_39 d_Df_instruction_71 0 (by decide) hF.1 rfl ?_
          refine F_get hX fg_Df_179 d_Df_instruction_74 22 (by decide) hP.1 rfl ?_
          refine G_iload_n hX 1 rfl rfl d_Df_instruction_77 ?_
          refine F_iald hX d_Df_instruction_78 24 (by decide) hP.2.2.1 (by omega) ?_
          exact F_iret hX hE d_Df_instruction_79 ⟨by (repeat (first | rw [if_pos (by omega)] | rw [if_neg (by omega)])), rfl⟩
        · skip
          subst hq
          refine G_tblIn hX (tgt := 80) d_Df_instruction_28 (by decide) (by decide) (off := 52) (by decide) rfl ?_
          refine G_aload_n hX 0 rfl rfl d_Df_instruction_80 ?_
          refine F_get hX fg_Df_39 d_Df_instruction_81 0 (by decide) hF.1 rfl ?_
          refine F_get hX fg_Df_182 d_Df_instruction_84 22 (by decide) hP.1 rfl ?_
          refine G_iload_n hX 1 rfl rfl d_Df_instruction_87 ?_
          refine F_iald hX d_Df_instruction_88 25 (by decide) hP.2.2.2.1 (by omega) ?_
          exact F_iret hX hE d_Df_instruction_89 ⟨by (repeat (first | rw [if_pos (by omega)] | rw [if_neg (by omega)])), rfl⟩
        · skip
          subst hq
          refine G_tblIn hX (tgt := 90) d_Df_instruction_28 (by decide) (by decide) (off := 62) (by decide) rfl ?_
          refine G_aload_n hX 0 rfl rfl d_Df_instruction_90 ?_
          refine F_get hX fg_Df_39 d_Df_instruction_91 0 (by decide) hF.1 rfl ?_
          refine F_get hX fg_Df_185 d_Df_instruction_94 22 (by decide) hP.1 rfl ?_
          refine G_iload_n hX 1 rfl rfl d_Df_instruction_97 ?_
          refine F_iald hX d_Df_instruction_98 26 (by decide) hP.2.2.2.2 (by omega) ?_
          exact F_iret hX hE d_Df_instruction_99 ⟨by (repeat (first | rw [if_pos (by omega)] | rw [if_neg (by omega)])), rfl⟩
        · skip
          refine G_tblOut hX (tgt := 100) d_Df_instruction_28 (by rw [zI_t (by omega)]; omega) rfl ?_
          refine G_iconst hX d_Df_instruction_100 ?_
          exact F_iret hX hE d_Df_instruction_101 ⟨by (repeat (first | rw [if_pos (by omega)] | rw [if_neg (by omega)])), rfl⟩
      · skip
        refine G_iconst hX d_Df_instruction_25 ?_
        exact F_iret hX hE d_Df_instruction_26 ⟨by (repeat (first | rw [if_pos (by omega)] | rw [if_neg (by omega)])), rfl⟩
