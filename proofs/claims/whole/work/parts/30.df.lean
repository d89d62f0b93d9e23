/-! DeltaFerry: the files; printed by wip/tools/m_df.py -/
abbrev fil (E : EV) : va_E := ra E 4 (fun j => some (eA E (2 + 2 * j)))
def isDf (E : EV) (f : Nat → va_E) (b w n : Int) (x y : Int64) : Prop := f 0 = ob 11 [.ref (eA E 1), .ref (eA E 10), .ref (eA E 13), .ref (eA E 14), .ref (eA E 22), .ref (eA E 27), .ref (eA E 29), .ref (eA E 44), .int (zI b), .int (zI w), .int (zI n), .long x, .long y] ∧ f 1 = fil E
/-- byte i of the eight that a long holds -/
def pbF (v : Int64) (i : Int) : Int := ((((v.toUInt64 >>> ((zI (8 * i)).toInt64.toUInt64 &&& Int64.toUInt64 63)).toInt64).toInt32) &&& zI 255).toInt
theorem pbF_b (v : Int64) (i : Int) : 0 ≤ pbF v i ∧ pbF v i < 256 := by
  unfold pbF
  generalize (((v.toUInt64 >>> ((zI (8 * i)).toInt64.toUInt64 &&& Int64.toUInt64 63)).toInt64).toInt32) = x
  have h := zI_and255 x.toInt
  rw [zI_self] at h
  rw [h, zI_t (by omega)]
  omega
/-- b with the bytes v laid from c on -/
def ptL (g : Int → Int) (c : Int) (v : Int64) : Nat → Int → Int
  | 0 => g
  | k + 1 => uz (ptL g c v k) (c + k) (pbF v k)
theorem ptL_s {g : Int → Int} {c t : Int} {v : Int64} (h : 0 ≤ t) : ptL g c v (t + 1).toNat = uz (ptL g c v t.toNat) (c + t) (pbF v t) := by
  rw [show (t + 1).toNat = t.toNat + 1 by omega]
  show uz _ (c + (t.toNat : Int)) (pbF v (t.toNat : Int)) = _
  rw [Int.toNat_of_nonneg h]
theorem isB_uz {g : Int → Int} {i v : Int} (h : isB g) (hv : 0 ≤ v ∧ v < 256) : isB (uz g i v) := fun k => by
  have := h k
  unfold uz
  split <;> omega
theorem isB_pt {g : Int → Int} {c : Int} {v : Int64} (h : isB g) (k : Nat) : isB (ptL g c v k) := by
  induction k with
  | zero => exact h
  | succ k ih => exact isB_uz ih (pbF_b v k)
theorem isB_cz {f g : Int → Int} {a b c : Int} (h : isB f) (h2 : isB g) : isB (cz f g a b c) := fun k => by
  unfold cz
  split
  · exact h _
  · exact h2 k
theorem c_Df_isFile (E : EV) (f : Nat → va_E) (x : Int) (hx : -2147483648 ≤ x ∧ x < 2147483648) : CF yn_Df_isFile cd_Df_isFile 1 (some (.boolean)) 0 E [.int (zI x)] f (fun r f' => r = some (.int (zI (if 0 ≤ x ∧ x ≤ 3 then 1 else 0))) ∧ f' = f) := by
  refine CF.of (by decide +kernel) (Nat.le_of_ble_eq_true rfl) fun X hX hE => ?_
  have hX : Ok E X "DeltaFerry" "isFile" cd_Df_isFile 1 (some (.boolean)) (rl 0) := hX
  refine G_cast (lv' := [(0, .int (zI x))]) ?_ rfl rfl rfl rfl
  refine G_iload_n hX 0 rfl rfl d_Df_isFile_0 ?_
  refine G_if_lt_z hX (tgt := 13) d_Df_isFile_1 rfl (by omega) (fun c1 => ?_) (fun c2 => ?_)
  · skip
    refine G_iconst hX d_Df_isFile_13 ?_
    exact F_zret hX hE (by decide) d_Df_isFile_14 ⟨by rw [if_neg (by omega)], rfl⟩
  · skip
    refine G_iload_n hX 0 rfl rfl d_Df_isFile_4 ?_
    refine G_iconst hX d_Df_isFile_5 ?_
    refine G_icmp_gt_z hX (tgt := 13) d_Df_isFile_6 rfl (by omega) (fun c3 => ?_) (fun c4 => ?_)
    · skip
      refine G_iconst hX d_Df_isFile_13 ?_
      exact F_zret hX hE (by decide) d_Df_isFile_14 ⟨by rw [if_neg (by omega)], rfl⟩
    · skip
      refine G_iconst hX d_Df_isFile_9 ?_
      refine G_goto hX (tgt := 14) d_Df_isFile_10 rfl ?_
      exact F_zret hX hE (by decide) d_Df_isFile_14 ⟨by rw [if_pos (by omega)], rfl⟩
theorem c_Df_isWritable (E : EV) (f : Nat → va_E) (x : Int) (hx : -2147483648 ≤ x ∧ x < 2147483648) : CF yn_Df_isWritable cd_Df_isWritable 1 (some (.boolean)) 0 E [.int (zI x)] f (fun r f' => r = some (.int (zI (if 0 ≤ x ∧ x ≤ 2 then 1 else 0))) ∧ f' = f) := by
  refine CF.of (by decide +kernel) (Nat.le_of_ble_eq_true rfl) fun X hX hE => ?_
  have hX : Ok E X "DeltaFerry" "isWritable" cd_Df_isWritable 1 (some (.boolean)) (rl 0) := hX
  refine G_cast (lv' := [(0, .int (zI x))]) ?_ rfl rfl rfl rfl
  refine G_iload_n hX 0 rfl rfl d_Df_isWritable_0 ?_
  refine G_if_lt_z hX (tgt := 13) d_Df_isWritable_1 rfl (by omega) (fun c1 => ?_) (fun c2 => ?_)
  · skip
    refine G_iconst hX d_Df_isWritable_13 ?_
    exact F_zret hX hE (by decide) d_Df_isWritable_14 ⟨by rw [if_neg (by omega)], rfl⟩
  · skip
    refine G_iload_n hX 0 rfl rfl d_Df_isWritable_4 ?_
    refine G_iconst hX d_Df_isWritable_5 ?_
    refine G_icmp_gt_z hX (tgt := 13) d_Df_isWritable_6 rfl (by omega) (fun c3 => ?_) (fun c4 => ?_)
    · skip
      refine G_iconst hX d_Df_isWritable_13 ?_
      exact F_zret hX hE (by decide) d_Df_isWritable_14 ⟨by rw [if_neg (by omega)], rfl⟩
    · skip
      refine G_iconst hX d_Df_isWritable_9 ?_
      refine G_goto hX (tgt := 14) d_Df_isWritable_10 rfl ?_
      exact F_zret hX hE (by decide) d_Df_isWritable_14 ⟨by rw [if_pos (by omega)], rfl⟩
theorem c_Df_isBlock (E : EV) (f : Nat → va_E) (x : Int) (hx : -2147483648 ≤ x ∧ x < 2147483648) : CF yn_Df_isBlock cd_Df_isBlock 1 (some (.boolean)) 0 E [.int (zI x)] f (fun r f' => r = some (.int (zI (if 4 ≤ x ∧ x ≤ 64 then 1 else 0))) ∧ f' = f) := by
  refine CF.of (by decide +kernel) (Nat.le_of_ble_eq_true rfl) fun X hX hE => ?_
  have hX : Ok E X "DeltaFerry" "isBlock" cd_Df_isBlock 1 (some (.boolean)) (rl 0) := hX
  refine G_cast (lv' := [(0, .int (zI x))]) ?_ rfl rfl rfl rfl
  refine G_iload_n hX 0 rfl rfl d_Df_isBlock_0 ?_
  refine G_iconst hX d_Df_isBlock_1 ?_
  refine G_icmp_lt_z hX (tgt := 15) d_Df_isBlock_2 rfl (by omega) (fun c1 => ?_) (fun c2 => ?_)
  · skip
    refine G_iconst hX d_Df_isBlock_15 ?_
    exact F_zret hX hE (by decide) d_Df_isBlock_16 ⟨by rw [if_neg (by omega)], rfl⟩
  · skip
    refine G_iload_n hX 0 rfl rfl d_Df_isBlock_5 ?_
    refine G_bipush hX (by decide) d_Df_isBlock_6 ?_
    refine G_icmp_gt_z hX (tgt := 15) d_Df_isBlock_8 rfl (by omega) (fun c3 => ?_) (fun c4 => ?_)
    · skip
      refine G_iconst hX d_Df_isBlock_15 ?_
      exact F_zret hX hE (by decide) d_Df_isBlock_16 ⟨by rw [if_neg (by omega)], rfl⟩
    · skip
      refine G_iconst hX d_Df_isBlock_11 ?_
      refine G_goto hX (tgt := 16) d_Df_isBlock_12 rfl ?_
      exact F_zret hX hE (by decide) d_Df_isBlock_16 ⟨by rw [if_pos (by omega)], rfl⟩
theorem c_Df_isWindow (E : EV) (f : Nat → va_E) (x : Int) (hx : -2147483648 ≤ x ∧ x < 2147483648) : CF yn_Df_isWindow cd_Df_isWindow 1 (some (.boolean)) 0 E [.int (zI x)] f (fun r f' => r = some (.int (zI (if 16 ≤ x ∧ x ≤ 256 then 1 else 0))) ∧ f' = f) := by
  refine CF.of (by decide +kernel) (Nat.le_of_ble_eq_true rfl) fun X hX hE => ?_
  have hX : Ok E X "DeltaFerry" "isWindow" cd_Df_isWindow 1 (some (.boolean)) (rl 0) := hX
  refine G_cast (lv' := [(0, .int (zI x))]) ?_ rfl rfl rfl rfl
  refine G_iload_n hX 0 rfl rfl d_Df_isWindow_0 ?_
  refine G_bipush hX (by decide) d_Df_isWindow_1 ?_
  refine G_icmp_lt_z hX (tgt := 17) d_Df_isWindow_3 rfl (by omega) (fun c1 => ?_) (fun c2 => ?_)
  · skip
    refine G_iconst hX d_Df_isWindow_17 ?_
    exact F_zret hX hE (by decide) d_Df_isWindow_18 ⟨by rw [if_neg (by omega)], rfl⟩
  · skip
    refine G_iload_n hX 0 rfl rfl d_Df_isWindow_6 ?_
    refine G_sipush hX (by decide) d_Df_isWindow_7 ?_
    refine G_icmp_gt_z hX (tgt := 17) d_Df_isWindow_10 rfl (by omega) (fun c3 => ?_) (fun c4 => ?_)
    · skip
      refine G_iconst hX d_Df_isWindow_17 ?_
      exact F_zret hX hE (by decide) d_Df_isWindow_18 ⟨by rw [if_neg (by omega)], rfl⟩
    · skip
      refine G_iconst hX d_Df_isWindow_13 ?_
      refine G_goto hX (tgt := 18) d_Df_isWindow_14 rfl ?_
      exact F_zret hX hE (by decide) d_Df_isWindow_18 ⟨by rw [if_pos (by omega)], rfl⟩
theorem c_Df_giveUp_0 (E : EV) (f : Nat → va_E) (bk wi ns : Int) (n1 n2 : Int64) (hF : isDf E f bk wi ns n1 n2) : CF yn_Df_giveUpPlanOf cd_Df_giveUpPlanOf 2 none 0 E [.ref (eA E 0), .int (zI 0)] f (fun r f' => r = none ∧ f' = f) := by
  refine CF.of (by decide +kernel) (Nat.le_of_ble_eq_true rfl) fun X hX hE => ?_
  have hX : Ok E X "DeltaFerry" "giveUpPlanOf" cd_Df_giveUpPlanOf 2 none (rl 0) := hX
  refine G_cast (lv' := [(0, .ref (eA E 0)), (1, .int (zI 0))]) ?_ rfl rfl rfl rfl
  refine G_iload_n hX 1 rfl rfl d_Df_giveUpPlanOf_0 ?_
  refine G_iconst hX d_Df_giveUpPlanOf_1 ?_
  refine G_icmp_ne_z hX (tgt := 13) d_Df_giveUpPlanOf_2 rfl (by omega) (fun c1 => ?_) (fun c2 => by exfalso; omega)
  exact F_vret hX hE d_Df_giveUpPlanOf_13 ⟨rfl, rfl⟩
theorem c_Df_giveUp_1 (E : EV) (f : Nat → va_E) (bk wi ns : Int) (n1 n2 : Int64) (P : PS) (md w s : Int) (hF : isDf E f bk wi ns n1 n2) (hP : isPl E f P md w s) : CF yn_Df_giveUpPlanOf cd_Df_giveUpPlanOf 2 none 0 E [.ref (eA E 0), .int (zI 1)] f (fun r f' => r = none ∧ isPl E f' P 0 w s ∧ Fr [22] f f') := by
  refine CF.of (by decide +kernel) (Nat.le_of_ble_eq_true rfl) fun X hX hE => ?_
  have hX : Ok E X "DeltaFerry" "giveUpPlanOf" cd_Df_giveUpPlanOf 2 none (rl 0) := hX
  refine G_cast (lv' := [(0, .ref (eA E 0)), (1, .int (zI 1))]) ?_ rfl rfl rfl rfl
  refine G_iload_n hX 1 rfl rfl d_Df_giveUpPlanOf_0 ?_
  refine G_iconst hX d_Df_giveUpPlanOf_1 ?_
  refine G_icmp_ne_z hX (tgt := 13) d_Df_giveUpPlanOf_2 rfl (by omega) (fun c1 => by exfalso; omega) (fun c2 => ?_)
  refine G_aload_n hX 0 rfl rfl d_Df_giveUpPlanOf_5 ?_
  refine F_get hX fg_Df_39 d_Df_giveUpPlanOf_6 0 (by decide) hF.1 rfl ?_
  refine G_iconst hX d_Df_giveUpPlanOf_9 ?_
  refine F_put hX fg_Df_175 fp_Pl_4 d_Df_giveUpPlanOf_10 22 (fs' := [.ref (eA E 23), .ref (eA E 24), .ref (eA E 25), .ref (eA E 26), .int (zI 0), .int (zI (pC P)), .int (zI w), .int (zI s)]) (by decide) hP.1 (by decide) (by decide) (Nat.le_of_ble_eq_true rfl) rfl (fun f3 h4 k5 => ?_)
  have h6 : f3 23 = iz E 300 (pT P) := (k5 23 (by decide)).trans hP.2.1
  have h7 : f3 24 = iz E 300 (pS P) := (k5 24 (by decide)).trans hP.2.2.1
  have h8 : f3 25 = iz E 300 (pA P) := (k5 25 (by decide)).trans hP.2.2.2.1
  have h9 : f3 26 = iz E 300 (pN P) := (k5 26 (by decide)).trans hP.2.2.2.2
  exact F_vret hX hE d_Df_giveUpPlanOf_13 ⟨rfl, ⟨h4, h6, h7, h8, h9⟩, (Fr.tr Fr.rf k5 (by decide))⟩
theorem c_Df_giveUp_2 (E : EV) (f : Nat → va_E) (bk wi ns : Int) (n1 n2 : Int64) (hF : isDf E f bk wi ns n1 n2) : CF yn_Df_giveUpPlanOf cd_Df_giveUpPlanOf 2 none 0 E [.ref (eA E 0), .int (zI 2)] f (fun r f' => r = none ∧ f' = f) := by
  refine CF.of (by decide +kernel) (Nat.le_of_ble_eq_true rfl) fun X hX hE => ?_
  have hX : Ok E X "DeltaFerry" "giveUpPlanOf" cd_Df_giveUpPlanOf 2 none (rl 0) := hX
  refine G_cast (lv' := [(0, .ref (eA E 0)), (1, .int (zI 2))]) ?_ rfl rfl rfl rfl
  refine G_iload_n hX 1 rfl rfl d_Df_giveUpPlanOf_0 ?_
  refine G_iconst hX d_Df_giveUpPlanOf_1 ?_
  refine G_icmp_ne_z hX (tgt := 13) d_Df_giveUpPlanOf_2 rfl (by omega) (fun c1 => ?_) (fun c2 => by exfalso; omega)
  exact F_vret hX hE d_Df_giveUpPlanOf_13 ⟨rfl, rfl⟩
theorem c_Df_giveUp_3 (E : EV) (f : Nat → va_E) (bk wi ns : Int) (n1 n2 : Int64) (hF : isDf E f bk wi ns n1 n2) : CF yn_Df_giveUpPlanOf cd_Df_giveUpPlanOf 2 none 0 E [.ref (eA E 0), .int (zI 3)] f (fun r f' => r = none ∧ f' = f) := by
  refine CF.of (by decide +kernel) (Nat.le_of_ble_eq_true rfl) fun X hX hE => ?_
  have hX : Ok E X "DeltaFerry" "giveUpPlanOf" cd_Df_giveUpPlanOf 2 none (rl 0) := hX
  refine G_cast (lv' := [(0, .ref (eA E 0)), (1, .int (zI 3))]) ?_ rfl rfl rfl rfl
  refine G_iload_n hX 1 rfl rfl d_Df_giveUpPlanOf_0 ?_
  refine G_iconst hX d_Df_giveUpPlanOf_1 ?_
  refine G_icmp_ne_z hX (tgt := 13) d_Df_giveUpPlanOf_2 rfl (by omega) (fun c1 => ?_) (fun c2 => by exfalso; omega)
  exact F_vret hX hE d_Df_giveUpPlanOf_13 ⟨rfl, rfl⟩
theorem c_Df_put_0 (E : EV) (f : Nat → va_E) (bk wi ns : Int) (n1 n2 : Int64) (g : Int → Int) (c : Int) (v : Int64) (n : Int) (hF : isDf E f bk wi ns n1 n2) (hR : isR E f 2 3 300 g c) (hc : 0 ≤ c ∧ c ≤ 300) (hn : 1 ≤ n ∧ n ≤ 8 ∧ c + n ≤ 300) : CF yn_Df_put cd_Df_put 6 (some (.boolean)) 1 E [.ref (eA E 0), .int (zI 0), .long v, .int (zI n)] f (fun r f' => r = some (.int (zI 1)) ∧ isR E f' 2 3 300 (ptL g c v n.toNat) (c + n) ∧ Fr [2, 3] f f') := by
  refine CF.of (by decide +kernel) (Nat.le_of_ble_eq_true rfl) fun X hX hE => ?_
  have hX : Ok E X "DeltaFerry" "put" cd_Df_put 6 (some (.boolean)) (rl 1) := hX
  refine G_cast (lv' := [(0, .ref (eA E 0)), (1, .int (zI 0)), (2, .long v), (4, .int (zI n))]) ?_ rfl rfl rfl rfl
  refine G_iload_n hX 1 rfl rfl d_Df_put_0 ?_
  refine F_callS hX (st := []) (c_Df_isWritable E f (0) (by omega)) cm_Df_isWritable sm_Df_isWritable ml_Df_77 d_Df_put_1 rfl rfl (Nat.le_of_ble_eq_true rfl) (by decide) ?_
  rintro _ f1 ⟨rfl, e4⟩
  obtain rfl := e4.symm
  refine G_cast (st' := [.int (zI (if 0 ≤ (0 : Int) ∧ (0 : Int) ≤ 2 then 1 else 0))]) ?_ rfl rfl rfl rfl
  refine G_top (show zI (if 0 ≤ (0 : Int) ∧ (0 : Int) ≤ 2 then 1 else 0) = zI 1 from by rw [if_pos (by omega)]) ?_
  refine G_if_eq_z hX (tgt := 34) d_Df_put_4 rfl (by omega) (fun c5 => by exfalso; omega) (fun c6 => ?_)
  refine G_iload hX 3 rfl d_Df_put_7 ?_
  refine G_iconst hX d_Df_put_9 ?_
  refine G_icmp_lt_z hX (tgt := 34) d_Df_put_10 rfl (by omega) (fun c7 => by exfalso; omega) (fun c8 => ?_)
  refine G_iload hX 3 rfl d_Df_put_13 ?_
  refine G_bipush hX (by decide) d_Df_put_15 ?_
  refine G_icmp_gt_z hX (tgt := 34) d_Df_put_17 rfl (by omega) (fun c9 => by exfalso; omega) (fun c10 => ?_)
  refine G_aload_n hX 0 rfl rfl d_Df_put_20 ?_
  refine F_get hX fg_Df_9 d_Df_put_21 0 (by decide) hF.1 rfl ?_
  refine G_iload_n hX 1 rfl rfl d_Df_put_24 ?_
  refine F_aald hX d_Df_put_25 1 (by decide) hF.2 (by decide) (a := eA E 2) rfl ?_
  refine F_callV hX (st := []) (c_Ro_left E f 2 3 300 g c (by decide) (by decide) (by decide) ⟨hR.1, hR.2⟩ (by omega)) cm_Ro_left im_Ro_left se_Ro_left rfl ml_Df_81 d_Df_put_26 (by decide) hR.1 rfl rfl (Nat.le_of_ble_eq_true rfl) (by decide) ?_
  rintro _ f11 ⟨rfl, e14⟩
  obtain rfl := e14.symm
  refine G_cast (st' := [.int (zI (((300 : Nat) : Int) - c))]) ?_ rfl rfl rfl rfl
  refine G_iload hX 3 rfl d_Df_put_29 ?_
  refine G_icmp_ge_z hX (tgt := 36) d_Df_put_31 rfl (by omega) (fun c15 => ?_) (fun c16 => by exfalso; omega)
  refine G_iconst hX d_Df_put_36 ?_
  refine G_istore hX (lv' := [(5, .int (zI 0)), (0, .ref (eA E 0)), (1, .int (zI 0)), (2, .long v), (4, .int (zI n))]) (by decide) rfl d_Df_put_37 ?_
  have loop17 : ∀ (q : Nat) (t : Int) (f18 : Nat → va_E), (n - t).toNat < q → (0 ≤ t ∧ t ≤ n) → f18 2 = ob 6 [.ref (eA E 3), .int (zI (c + t))] → f18 3 = iz E 300 (ptL g c v t.toNat) → Fr [2, 3] f f18 → G E X 0 0 39 [(0, .ref (eA E 0)), (1, .int (zI 0)), (2, .long v), (4, .int (zI n)), (5, .int (zI t))] [] (wl E f18) := by
    intro q
    induction q with
    | zero => intro t f18 hms20; exact absurd hms20 (Nat.not_lt_zero _)
    | succ q ih21 =>
      intro t f18 hms20 ht h22 h23 k19
      refine G_iload hX 4 rfl d_Df_put_39 ?_
      refine G_iload hX 3 rfl d_Df_put_41 ?_
      refine G_icmp_ge_z hX (tgt := 73) d_Df_put_43 rfl (by omega) (fun c24 => ?_) (fun c25 => ?_)
      · skip
        refine G_aload_n hX 0 rfl rfl d_Df_put_73 ?_
        refine G_iload_n hX 1 rfl rfl d_Df_put_74 ?_
        have h26 : f18 0 = ob 11 [.ref (eA E 1), .ref (eA E 10), .ref (eA E 13), .ref (eA E 14), .ref (eA E 22), .ref (eA E 27), .ref (eA E 29), .ref (eA E 44), .int (zI bk), .int (zI wi), .int (zI ns), .long n1, .long n2] := (k19 0 (by decide)).trans hF.1
        have h27 : f18 1 = ra E 4 (fun j => some (eA E (2 + 2 * j))) := (k19 1 (by decide)).trans hF.2
        refine F_callV hX (st := []) (c_Df_giveUp_0 E f18 bk wi ns n1 n2 ⟨h26, h27⟩) cm_Df_giveUpPlanOf im_Df_giveUpPlanOf se_Df_giveUpPlanOf rfl ml_Df_88 d_Df_put_75 (by decide) h26 rfl rfl (Nat.le_of_ble_eq_true rfl) (by decide) ?_
        rintro _ f28 ⟨rfl, e31⟩
        obtain rfl := e31.symm
        refine G_cast (st' := []) ?_ rfl rfl rfl rfl
        refine G_iconst hX d_Df_put_78 ?_
        have et : t = n := by omega
        subst et
        exact F_zret hX hE (by decide) d_Df_put_79 ⟨rfl, ⟨h22, h23⟩, (Fr.tr Fr.rf k19 (by decide))⟩
      · skip
        refine G_aload_n hX 0 rfl rfl d_Df_put_46 ?_
        have h32 : f18 0 = ob 11 [.ref (eA E 1), .ref (eA E 10), .ref (eA E 13), .ref (eA E 14), .ref (eA E 22), .ref (eA E 27), .ref (eA E 29), .ref (eA E 44), .int (zI bk), .int (zI wi), .int (zI ns), .long n1, .long n2] := (k19 0 (by decide)).trans hF.1
        refine F_get hX fg_Df_9 d_Df_put_47 0 (by decide) h32 rfl ?_
        refine G_iload_n hX 1 rfl rfl d_Df_put_50 ?_
        have h33 : f18 1 = ra E 4 (fun j => some (eA E (2 + 2 * j))) := (k19 1 (by decide)).trans hF.2
        refine F_aald hX d_Df_put_51 1 (by decide) h33 (by decide) (a := eA E 2) rfl ?_
        refine G_lload_n hX 2 rfl rfl d_Df_put_52 ?_
        refine G_bipush hX (by decide) d_Df_put_53 ?_
        refine G_iload hX 4 rfl d_Df_put_55 ?_
        refine G_imul_z hX d_Df_put_57 ?_
        refine G_lushr hX (v := (v.toUInt64 >>> ((zI (8 * t)).toInt64.toUInt64 &&& Int64.toUInt64 63)).toInt64) rfl d_Df_put_58 ?_
        refine G_l2i hX (v := (((v.toUInt64 >>> ((zI (8 * t)).toInt64.toUInt64 &&& Int64.toUInt64 63)).toInt64)).toInt32) rfl d_Df_put_59 ?_
        refine G_sipush hX (by decide) d_Df_put_60 ?_
        refine G_iand hX d_Df_put_63 ?_
        refine G_top (show (((((v.toUInt64 >>> ((zI (8 * t)).toInt64.toUInt64 &&& Int64.toUInt64 63)).toInt64)).toInt32) &&& zI 255) = zI (pbF v t) from (zI_self _).symm) ?_
        refine F_callV hX (st := []) (c_Ro_push E f18 2 3 300 (ptL g c v t.toNat) (c + t) (pbF v t) (by decide) (by decide) (by decide) ⟨h22, h23⟩ (by omega) (by omega)) cm_Ro_push im_Ro_push se_Ro_push rfl ml_Df_85 d_Df_put_64 (by decide) h22 rfl rfl (Nat.le_of_ble_eq_true rfl) (by decide) ?_
        rintro _ f34 ⟨rfl, ⟨h37, h38⟩, k39⟩
        refine G_cast (st' := []) ?_ rfl rfl rfl rfl
        refine G_iinc_z hX (lv' := [(5, .int (zI (t + 1))), (0, .ref (eA E 0)), (1, .int (zI 0)), (2, .long v), (4, .int (zI n))]) 4 rfl (by decide) rfl d_Df_put_67 ?_
        refine G_goto hX (tgt := 39) d_Df_put_70 rfl ?_
        refine G_loc (lv' := [(0, .ref (eA E 0)), (1, .int (zI 0)), (2, .long v), (4, .int (zI n)), (5, .int (zI (t + 1)))]) [1, 2, 3, 4, 0] rfl ?_
        exact ih21 (t + 1) f34 (by omega) (by omega) (by rw [show c + (t + 1) = c + t + 1 by omega]; exact h37) (by rw [ptL_s ht.1]; exact h38) (Fr.tr (Fr.tr Fr.rf k19 (by decide)) k39 (by decide))
  refine G_loc (lv' := [(0, .ref (eA E 0)), (1, .int (zI 0)), (2, .long v), (4, .int (zI n)), (5, .int (zI 0))]) [1, 2, 3, 4, 0] rfl ?_
  exact loop17 (_ + 1) 0 f (Nat.lt_succ_self _) (by omega) (by rw [Int.add_zero]; exact hR.1) hR.2 Fr.rf
theorem c_Df_put_no0 (E : EV) (f : Nat → va_E) (bk wi ns : Int) (n1 n2 : Int64) (g : Int → Int) (c : Int) (v : Int64) (n : Int) (hF : isDf E f bk wi ns n1 n2) (hR : isR E f 2 3 300 g c) (hc : 0 ≤ c ∧ c ≤ 300) (hn : n < 1 ∨ 8 < n ∨ 300 < c + n) (hn2 : -2147483648 ≤ n ∧ n < 2147483648) : CF yn_Df_put cd_Df_put 6 (some (.boolean)) 1 E [.ref (eA E 0), .int (zI 0), .long v, .int (zI n)] f (fun r f' => r = some (.int (zI 0)) ∧ f' = f) := by
  refine CF.of (by decide +kernel) (Nat.le_of_ble_eq_true rfl) fun X hX hE => ?_
  have hX : Ok E X "DeltaFerry" "put" cd_Df_put 6 (some (.boolean)) (rl 1) := hX
  refine G_cast (lv' := [(0, .ref (eA E 0)), (1, .int (zI 0)), (2, .long v), (4, .int (zI n))]) ?_ rfl rfl rfl rfl
  refine G_iload_n hX 1 rfl rfl d_Df_put_0 ?_
  refine F_callS hX (st := []) (c_Df_isWritable E f (0) (by omega)) cm_Df_isWritable sm_Df_isWritable ml_Df_77 d_Df_put_1 rfl rfl (Nat.le_of_ble_eq_true rfl) (by decide) ?_
  rintro _ f1 ⟨rfl, e4⟩
  obtain rfl := e4.symm
  refine G_cast (st' := [.int (zI (if 0 ≤ (0 : Int) ∧ (0 : Int) ≤ 2 then 1 else 0))]) ?_ rfl rfl rfl rfl
  refine G_top (show zI (if 0 ≤ (0 : Int) ∧ (0 : Int) ≤ 2 then 1 else 0) = zI 1 from by rw [if_pos (by omega)]) ?_
  refine G_if_eq_z hX (tgt := 34) d_Df_put_4 rfl (by omega) (fun c5 => by exfalso; omega) (fun c6 => ?_)
  refine G_iload hX 3 rfl d_Df_put_7 ?_
  refine G_iconst hX d_Df_put_9 ?_
  refine G_icmp_lt_z hX (tgt := 34) d_Df_put_10 rfl (by omega) (fun c7 => ?_) (fun c8 => ?_)
  · skip
    refine G_iconst hX d_Df_put_34 ?_
    exact F_zret hX hE (by decide) d_Df_put_35 ⟨rfl, rfl⟩
  · skip
    refine G_iload hX 3 rfl d_Df_put_13 ?_
    refine G_bipush hX (by decide) d_Df_put_15 ?_
    refine G_icmp_gt_z hX (tgt := 34) d_Df_put_17 rfl (by omega) (fun c9 => ?_) (fun c10 => ?_)
    · skip
      refine G_iconst hX d_Df_put_34 ?_
      exact F_zret hX hE (by decide) d_Df_put_35 ⟨rfl, rfl⟩
    · skip
      refine G_aload_n hX 0 rfl rfl d_Df_put_20 ?_
      refine F_get hX fg_Df_9 d_Df_put_21 0 (by decide) hF.1 rfl ?_
      refine G_iload_n hX 1 rfl rfl d_Df_put_24 ?_
      refine F_aald hX d_Df_put_25 1 (by decide) hF.2 (by decide) (a := eA E 2) rfl ?_
      refine F_callV hX (st := []) (c_Ro_left E f 2 3 300 g c (by decide) (by decide) (by decide) ⟨hR.1, hR.2⟩ (by omega)) cm_Ro_left im_Ro_left se_Ro_left rfl ml_Df_81 d_Df_put_26 (by decide) hR.1 rfl rfl (Nat.le_of_ble_eq_true rfl) (by decide) ?_
      rintro _ f11 ⟨rfl, e14⟩
      obtain rfl := e14.symm
      refine G_cast (st' := [.int (zI (((300 : Nat) : Int) - c))]) ?_ rfl rfl rfl rfl
      refine G_iload hX 3 rfl d_Df_put_29 ?_
      refine G_icmp_ge_z hX (tgt := 36) d_Df_put_31 rfl (by omega) (fun c15 => by exfalso; omega) (fun c16 => ?_)
      refine G_iconst hX d_Df_put_34 ?_
      exact F_zret hX hE (by decide) d_Df_put_35 ⟨rfl, rfl⟩
theorem c_Df_set_0 (E : EV) (f : Nat → va_E) (bk wi ns : Int) (n1 n2 : Int64) (g : Int → Int) (c : Int) (p b : Int) (hF : isDf E f bk wi ns n1 n2) (hR : isR E f 2 3 300 g c) (hc : 0 ≤ c ∧ c ≤ 300) (hp : 0 ≤ p ∧ p < c) : CF yn_Df_set cd_Df_set 4 (some (.boolean)) 1 E [.ref (eA E 0), .int (zI 0), .int (zI p), .int (zI b)] f (fun r f' => r = some (.int (zI 1)) ∧ isR E f' 2 3 300 (uz g p (b % 256)) c ∧ Fr [3] f f') := by
  refine CF.of (by decide +kernel) (Nat.le_of_ble_eq_true rfl) fun X hX hE => ?_
  have hX : Ok E X "DeltaFerry" "set" cd_Df_set 4 (some (.boolean)) (rl 1) := hX
  refine G_cast (lv' := [(0, .ref (eA E 0)), (1, .int (zI 0)), (2, .int (zI p)), (3, .int (zI b))]) ?_ rfl rfl rfl rfl
  refine G_iload_n hX 1 rfl rfl d_Df_set_0 ?_
  refine F_callS hX (st := []) (c_Df_isWritable E f (0) (by omega)) cm_Df_isWritable sm_Df_isWritable ml_Df_77 d_Df_set_1 rfl rfl (Nat.le_of_ble_eq_true rfl) (by decide) ?_
  rintro _ f1 ⟨rfl, e4⟩
  obtain rfl := e4.symm
  refine G_cast (st' := [.int (zI (if 0 ≤ (0 : Int) ∧ (0 : Int) ≤ 2 then 1 else 0))]) ?_ rfl rfl rfl rfl
  refine G_top (show zI (if 0 ≤ (0 : Int) ∧ (0 : Int) ≤ 2 then 1 else 0) = zI 1 from by rw [if_pos (by omega)]) ?_
  refine G_if_eq_z hX (tgt := 20) d_Df_set_4 rfl (by omega) (fun c5 => by exfalso; omega) (fun c6 => ?_)
  refine G_aload_n hX 0 rfl rfl d_Df_set_7 ?_
  refine F_get hX fg_Df_9 d_Df_set_8 0 (by decide) hF.1 rfl ?_
  refine G_iload_n hX 1 rfl rfl d_Df_set_11 ?_
  refine F_aald hX d_Df_set_12 1 (by decide) hF.2 (by decide) (a := eA E 2) rfl ?_
  refine G_iload_n hX 2 rfl rfl d_Df_set_13 ?_
  refine F_callV hX (st := []) (c_Ro_has E f 2 3 300 g c p (by decide) (by decide) (by decide) ⟨hR.1, hR.2⟩ (by omega) (by omega)) cm_Ro_has im_Ro_has se_Ro_has rfl ml_Df_91 d_Df_set_14 (by decide) hR.1 rfl rfl (Nat.le_of_ble_eq_true rfl) (by decide) ?_
  rintro _ f7 ⟨rfl, e10⟩
  obtain rfl := e10.symm
  refine G_cast (st' := [.int (zI (if 0 ≤ p ∧ p < c then 1 else 0))]) ?_ rfl rfl rfl rfl
  refine G_top (show zI (if 0 ≤ p ∧ p < c then 1 else 0) = zI 1 from by rw [if_pos (by omega)]) ?_
  refine G_if_ne_z hX (tgt := 22) d_Df_set_17 rfl (by omega) (fun c11 => ?_) (fun c12 => by exfalso; omega)
  refine G_aload_n hX 0 rfl rfl d_Df_set_22 ?_
  refine F_get hX fg_Df_9 d_Df_set_23 0 (by decide) hF.1 rfl ?_
  refine G_iload_n hX 1 rfl rfl d_Df_set_26 ?_
  refine F_aald hX d_Df_set_27 1 (by decide) hF.2 (by decide) (a := eA E 2) rfl ?_
  refine F_get hX fg_Df_94 d_Df_set_28 2 (by decide) hR.1 rfl ?_
  refine G_iload_n hX 2 rfl rfl d_Df_set_31 ?_
  refine G_iload_n hX 3 rfl rfl d_Df_set_32 ?_
  refine G_sipush hX (by decide) d_Df_set_33 ?_
  refine G_iand hX d_Df_set_36 ?_
  refine G_top (show (zI b &&& zI 255) = zI (b % 256) from zI_and255 _) ?_
  refine F_iast hX d_Df_set_37 3 (by decide) hR.2 (by omega) (fun f13 h14 k15 => ?_)
  refine G_aload_n hX 0 rfl rfl d_Df_set_38 ?_
  refine G_iload_n hX 1 rfl rfl d_Df_set_39 ?_
  have h16 : f13 0 = ob 11 [.ref (eA E 1), .ref (eA E 10), .ref (eA E 13), .ref (eA E 14), .ref (eA E 22), .ref (eA E 27), .ref (eA E 29), .ref (eA E 44), .int (zI bk), .int (zI wi), .int (zI ns), .long n1, .long n2] := (k15 0 (by decide)).trans hF.1
  have h17 : f13 1 = ra E 4 (fun j => some (eA E (2 + 2 * j))) := (k15 1 (by decide)).trans hF.2
  refine F_callV hX (st := []) (c_Df_giveUp_0 E f13 bk wi ns n1 n2 ⟨h16, h17⟩) cm_Df_giveUpPlanOf im_Df_giveUpPlanOf se_Df_giveUpPlanOf rfl ml_Df_88 d_Df_set_40 (by decide) h16 rfl rfl (Nat.le_of_ble_eq_true rfl) (by decide) ?_
  rintro _ f18 ⟨rfl, e21⟩
  obtain rfl := e21.symm
  refine G_cast (st' := []) ?_ rfl rfl rfl rfl
  refine G_iconst hX d_Df_set_43 ?_
  have h22 : f13 2 = ob 6 [.ref (eA E 3), .int (zI c)] := (k15 2 (by decide)).trans hR.1
  exact F_zret hX hE (by decide) d_Df_set_44 ⟨rfl, ⟨h22, h14⟩, (Fr.tr Fr.rf k15 (by decide))⟩
theorem c_Df_set_no0 (E : EV) (f : Nat → va_E) (bk wi ns : Int) (n1 n2 : Int64) (g : Int → Int) (c : Int) (p b : Int) (hF : isDf E f bk wi ns n1 n2) (hR : isR E f 2 3 300 g c) (hc : 0 ≤ c ∧ c ≤ 300) (hp : p < 0 ∨ c ≤ p) (hp2 : -2147483648 ≤ p ∧ p < 2147483648) : CF yn_Df_set cd_Df_set 4 (some (.boolean)) 1 E [.ref (eA E 0), .int (zI 0), .int (zI p), .int (zI b)] f (fun r f' => r = some (.int (zI 0)) ∧ f' = f) := by
  refine CF.of (by decide +kernel) (Nat.le_of_ble_eq_true rfl) fun X hX hE => ?_
  have hX : Ok E X "DeltaFerry" "set" cd_Df_set 4 (some (.boolean)) (rl 1) := hX
  refine G_cast (lv' := [(0, .ref (eA E 0)), (1, .int (zI 0)), (2, .int (zI p)), (3, .int (zI b))]) ?_ rfl rfl rfl rfl
  refine G_iload_n hX 1 rfl rfl d_Df_set_0 ?_
  refine F_callS hX (st := []) (c_Df_isWritable E f (0) (by omega)) cm_Df_isWritable sm_Df_isWritable ml_Df_77 d_Df_set_1 rfl rfl (Nat.le_of_ble_eq_true rfl) (by decide) ?_
  rintro _ f1 ⟨rfl, e4⟩
  obtain rfl := e4.symm
  refine G_cast (st' := [.int (zI (if 0 ≤ (0 : Int) ∧ (0 : Int) ≤ 2 then 1 else 0))]) ?_ rfl rfl rfl rfl
  refine G_top (show zI (if 0 ≤ (0 : Int) ∧ (0 : Int) ≤ 2 then 1 else 0) = zI 1 from by rw [if_pos (by omega)]) ?_
  refine G_if_eq_z hX (tgt := 20) d_Df_set_4 rfl (by omega) (fun c5 => by exfalso; omega) (fun c6 => ?_)
  refine G_aload_n hX 0 rfl rfl d_Df_set_7 ?_
  refine F_get hX fg_Df_9 d_Df_set_8 0 (by decide) hF.1 rfl ?_
  refine G_iload_n hX 1 rfl rfl d_Df_set_11 ?_
  refine F_aald hX d_Df_set_12 1 (by decide) hF.2 (by decide) (a := eA E 2) rfl ?_
  refine G_iload_n hX 2 rfl rfl d_Df_set_13 ?_
  refine F_callV hX (st := []) (c_Ro_has E f 2 3 300 g c p (by decide) (by decide) (by decide) ⟨hR.1, hR.2⟩ (by omega) (by omega)) cm_Ro_has im_Ro_has se_Ro_has rfl ml_Df_91 d_Df_set_14 (by decide) hR.1 rfl rfl (Nat.le_of_ble_eq_true rfl) (by decide) ?_
  rintro _ f7 ⟨rfl, e10⟩
  obtain rfl := e10.symm
  refine G_cast (st' := [.int (zI (if 0 ≤ p ∧ p < c then 1 else 0))]) ?_ rfl rfl rfl rfl
  refine G_top (show zI (if 0 ≤ p ∧ p < c then 1 else 0) = zI 0 from by rw [if_neg (by omega)]) ?_
  refine G_if_ne_z hX (tgt := 22) d_Df_set_17 rfl (by omega) (fun c11 => by exfalso; omega) (fun c12 => ?_)
  refine G_iconst hX d_Df_set_20 ?_
  exact F_zret hX hE (by decide) d_Df_set_21 ⟨rfl, rfl⟩
theorem c_Df_put_1 (E : EV) (f : Nat → va_E) (bk wi ns : Int) (n1 n2 : Int64) (g : Int → Int) (c : Int) (P : PS) (md w s : Int) (v : Int64) (n : Int) (hF : isDf E f bk wi ns n1 n2) (hR : isR E f 4 5 300 g c) (hc : 0 ≤ c ∧ c ≤ 300) (hP : isPl E f P md w s) (hn : 1 ≤ n ∧ n ≤ 8 ∧ c + n ≤ 300) : CF yn_Df_put cd_Df_put 6 (some (.boolean)) 1 E [.ref (eA E 0), .int (zI 1), .long v, .int (zI n)] f (fun r f' => r = some (.int (zI 1)) ∧ isR E f' 4 5 300 (ptL g c v n.toNat) (c + n) ∧ isPl E f' P 0 w s ∧ Fr [4, 5, 22] f f') := by
  refine CF.of (by decide +kernel) (Nat.le_of_ble_eq_true rfl) fun X hX hE => ?_
  have hX : Ok E X "DeltaFerry" "put" cd_Df_put 6 (some (.boolean)) (rl 1) := hX
  refine G_cast (lv' := [(0, .ref (eA E 0)), (1, .int (zI 1)), (2, .long v), (4, .int (zI n))]) ?_ rfl rfl rfl rfl
  refine G_iload_n hX 1 rfl rfl d_Df_put_0 ?_
  refine F_callS hX (st := []) (c_Df_isWritable E f (1) (by omega)) cm_Df_isWritable sm_Df_isWritable ml_Df_77 d_Df_put_1 rfl rfl (Nat.le_of_ble_eq_true rfl) (by decide) ?_
  rintro _ f1 ⟨rfl, e4⟩
  obtain rfl := e4.symm
  refine G_cast (st' := [.int (zI (if 0 ≤ (1 : Int) ∧ (1 : Int) ≤ 2 then 1 else 0))]) ?_ rfl rfl rfl rfl
  refine G_top (show zI (if 0 ≤ (1 : Int) ∧ (1 : Int) ≤ 2 then 1 else 0) = zI 1 from by rw [if_pos (by omega)]) ?_
  refine G_if_eq_z hX (tgt := 34) d_Df_put_4 rfl (by omega) (fun c5 => by exfalso; omega) (fun c6 => ?_)
  refine G_iload hX 3 rfl d_Df_put_7 ?_
  refine G_iconst hX d_Df_put_9 ?_
  refine G_icmp_lt_z hX (tgt := 34) d_Df_put_10 rfl (by omega) (fun c7 => by exfalso; omega) (fun c8 => ?_)
  refine G_iload hX 3 rfl d_Df_put_13 ?_
  refine G_bipush hX (by decide) d_Df_put_15 ?_
  refine G_icmp_gt_z hX (tgt := 34) d_Df_put_17 rfl (by omega) (fun c9 => by exfalso; omega) (fun c10 => ?_)
  refine G_aload_n hX 0 rfl rfl d_Df_put_20 ?_
  refine F_get hX fg_Df_9 d_Df_put_21 0 (by decide) hF.1 rfl ?_
  refine G_iload_n hX 1 rfl rfl d_Df_put_24 ?_
  refine F_aald hX d_Df_put_25 1 (by decide) hF.2 (by decide) (a := eA E 4) rfl ?_
  refine F_callV hX (st := []) (c_Ro_left E f 4 5 300 g c (by decide) (by decide) (by decide) ⟨hR.1, hR.2⟩ (by omega)) cm_Ro_left im_Ro_left se_Ro_left rfl ml_Df_81 d_Df_put_26 (by decide) hR.1 rfl rfl (Nat.le_of_ble_eq_true rfl) (by decide) ?_
  rintro _ f11 ⟨rfl, e14⟩
  obtain rfl := e14.symm
  refine G_cast (st' := [.int (zI (((300 : Nat) : Int) - c))]) ?_ rfl rfl rfl rfl
  refine G_iload hX 3 rfl d_Df_put_29 ?_
  refine G_icmp_ge_z hX (tgt := 36) d_Df_put_31 rfl (by omega) (fun c15 => ?_) (fun c16 => by exfalso; omega)
  refine G_iconst hX d_Df_put_36 ?_
  refine G_istore hX (lv' := [(5, .int (zI 0)), (0, .ref (eA E 0)), (1, .int (zI 1)), (2, .long v), (4, .int (zI n))]) (by decide) rfl d_Df_put_37 ?_
  have loop17 : ∀ (q : Nat) (t : Int) (f18 : Nat → va_E), (n - t).toNat < q → (0 ≤ t ∧ t ≤ n) → f18 4 = ob 6 [.ref (eA E 5), .int (zI (c + t))] → f18 5 = iz E 300 (ptL g c v t.toNat) → Fr [4, 5] f f18 → G E X 0 0 39 [(0, .ref (eA E 0)), (1, .int (zI 1)), (2, .long v), (4, .int (zI n)), (5, .int (zI t))] [] (wl E f18) := by
    intro q
    induction q with
    | zero => intro t f18 hms20; exact absurd hms20 (Nat.not_lt_zero _)
    | succ q ih21 =>
      intro t f18 hms20 ht h22 h23 k19
      refine G_iload hX 4 rfl d_Df_put_39 ?_
      refine G_iload hX 3 rfl d_Df_put_41 ?_
      refine G_icmp_ge_z hX (tgt := 73) d_Df_put_43 rfl (by omega) (fun c24 => ?_) (fun c25 => ?_)
      · skip
        refine G_aload_n hX 0 rfl rfl d_Df_put_73 ?_
        refine G_iload_n hX 1 rfl rfl d_Df_put_74 ?_
        have h26 : f18 0 = ob 11 [.ref (eA E 1), .ref (eA E 10), .ref (eA E 13), .ref (eA E 14), .ref (eA E 22), .ref (eA E 27), .ref (eA E 29), .ref (eA E 44), .int (zI bk), .int (zI wi), .int (zI ns), .long n1, .long n2] := (k19 0 (by decide)).trans hF.1
        have h27 : f18 1 = ra E 4 (fun j => some (eA E (2 + 2 * j))) := (k19 1 (by decide)).trans hF.2
        have h28 : f18 22 = ob 4 [.ref (eA E 23), .ref (eA E 24), .ref (eA E 25), .ref (eA E 26), .int (zI md), .int (zI (pC P)), .int (zI w), .int (zI s)] := (k19 22 (by decide)).trans hP.1
        have h29 : f18 23 = iz E 300 (pT P) := (k19 23 (by decide)).trans hP.2.1
        have h30 : f18 24 = iz E 300 (pS P) := (k19 24 (by decide)).trans hP.2.2.1
        have h31 : f18 25 = iz E 300 (pA P) := (k19 25 (by decide)).trans hP.2.2.2.1
        have h32 : f18 26 = iz E 300 (pN P) := (k19 26 (by decide)).trans hP.2.2.2.2
        refine F_callV hX (st := []) (c_Df_giveUp_1 E f18 bk wi ns n1 n2 P md w s ⟨h26, h27⟩ ⟨h28, h29, h30, h31, h32⟩) cm_Df_giveUpPlanOf im_Df_giveUpPlanOf se_Df_giveUpPlanOf rfl ml_Df_88 d_Df_put_75 (by decide) h26 rfl rfl (Nat.le_of_ble_eq_true rfl) (by decide) ?_
        rintro _ f33 ⟨rfl, ⟨h36, h37, h38, h39, h40⟩, k41⟩
        refine G_cast (st' := []) ?_ rfl rfl rfl rfl
        refine G_iconst hX d_Df_put_78 ?_
        have et : t = n := by omega
        subst et
        have h42 : f33 4 = ob 6 [.ref (eA E 5), .int (zI (c + t))] := (k41 4 (by decide)).trans h22
        have h43 : f33 5 = iz E 300 (ptL g c v t.toNat) := (k41 5 (by decide)).trans h23
        exact F_zret hX hE (by decide) d_Df_put_79 ⟨rfl, ⟨h42, h43⟩, ⟨h36, h37, h38, h39, h40⟩, (Fr.tr (Fr.tr Fr.rf k19 (by decide)) k41 (by decide))⟩
      · skip
        refine G_aload_n hX 0 rfl rfl d_Df_put_46 ?_
        have h44 : f18 0 = ob 11 [.ref (eA E 1), .ref (eA E 10), .ref (eA E 13), .ref (eA E 14), .ref (eA E 22), .ref (eA E 27), .ref (eA E 29), .ref (eA E 44), .int (zI bk), .int (zI wi), .int (zI ns), .long n1, .long n2] := (k19 0 (by decide)).trans hF.1
        refine F_get hX fg_Df_9 d_Df_put_47 0 (by decide) h44 rfl ?_
        refine G_iload_n hX 1 rfl rfl d_Df_put_50 ?_
        have h45 : f18 1 = ra E 4 (fun j => some (eA E (2 + 2 * j))) := (k19 1 (by decide)).trans hF.2
        refine F_aald hX d_Df_put_51 1 (by decide) h45 (by decide) (a := eA E 4) rfl ?_
        refine G_lload_n hX 2 rfl rfl d_Df_put_52 ?_
        refine G_bipush hX (by decide) d_Df_put_53 ?_
        refine G_iload hX 4 rfl d_Df_put_55 ?_
        refine G_imul_z hX d_Df_put_57 ?_
        refine G_lushr hX (v := (v.toUInt64 >>> ((zI (8 * t)).toInt64.toUInt64 &&& Int64.toUInt64 63)).toInt64) rfl d_Df_put_58 ?_
        refine G_l2i hX (v := (((v.toUInt64 >>> ((zI (8 * t)).toInt64.toUInt64 &&& Int64.toUInt64 63)).toInt64)).toInt32) rfl d_Df_put_59 ?_
        refine G_sipush hX (by decide) d_Df_put_60 ?_
        refine G_iand hX d_Df_put_63 ?_
        refine G_top (show (((((v.toUInt64 >>> ((zI (8 * t)).toInt64.toUInt64 &&& Int64.toUInt64 63)).toInt64)).toInt32) &&& zI 255) = zI (pbF v t) from (zI_self _).symm) ?_
        refine F_callV hX (st := []) (c_Ro_push E f18 4 5 300 (ptL g c v t.toNat) (c + t) (pbF v t) (by decide) (by decide) (by decide) ⟨h22, h23⟩ (by omega) (by omega)) cm_Ro_push im_Ro_push se_Ro_push rfl ml_Df_85 d_Df_put_64 (by decide) h22 rfl rfl (Nat.le_of_ble_eq_true rfl) (by decide) ?_
        rintro _ f46 ⟨rfl, ⟨h49, h50⟩, k51⟩
        refine G_cast (st' := []) ?_ rfl rfl rfl rfl
        refine G_iinc_z hX (lv' := [(5, .int (zI (t + 1))), (0, .ref (eA E 0)), (1, .int (zI 1)), (2, .long v), (4, .int (zI n))]) 4 rfl (by decide) rfl d_Df_put_67 ?_
        refine G_goto hX (tgt := 39) d_Df_put_70 rfl ?_
        refine G_loc (lv' := [(0, .ref (eA E 0)), (1, .int (zI 1)), (2, .long v), (4, .int (zI n)), (5, .int (zI (t + 1)))]) [1, 2, 3, 4, 0] rfl ?_
        exact ih21 (t + 1) f46 (by omega) (by omega) (by rw [show c + (t + 1) = c + t + 1 by omega]; exact h49) (by rw [ptL_s ht.1]; exact h50) (Fr.tr (Fr.tr Fr.rf k19 (by decide)) k51 (by decide))
  refine G_loc (lv' := [(0, .ref (eA E 0)), (1, .int (zI 1)), (2, .long v), (4, .int (zI n)), (5, .int (zI 0))]) [1, 2, 3, 4, 0] rfl ?_
  exact loop17 (_ + 1) 0 f (Nat.lt_succ_self _) (by omega) (by rw [Int.add_zero]; exact hR.1) hR.2 Fr.rf
theorem c_Df_put_no1 (E : EV) (f : Nat → va_E) (bk wi ns : Int) (n1 n2 : Int64) (g : Int → Int) (c : Int) (P : PS) (md w s : Int) (v : Int64) (n : Int) (hF : isDf E f bk wi ns n1 n2) (hR : isR E f 4 5 300 g c) (hc : 0 ≤ c ∧ c ≤ 300) (hP : isPl E f P md w s) (hn : n < 1 ∨ 8 < n ∨ 300 < c + n) (hn2 : -2147483648 ≤ n ∧ n < 2147483648) : CF yn_Df_put cd_Df_put 6 (some (.boolean)) 1 E [.ref (eA E 0), .int (zI 1), .long v, .int (zI n)] f (fun r f' => r = some (.int (zI 0)) ∧ f' = f) := by
  refine CF.of (by decide +kernel) (Nat.le_of_ble_eq_true rfl) fun X hX hE => ?_
  have hX : Ok E X "DeltaFerry" "put" cd_Df_put 6 (some (.boolean)) (rl 1) := hX
  refine G_cast (lv' := [(0, .ref (eA E 0)), (1, .int (zI 1)), (2, .long v), (4, .int (zI n))]) ?_ rfl rfl rfl rfl
  refine G_iload_n hX 1 rfl rfl d_Df_put_0 ?_
  refine F_callS hX (st := []) (c_Df_isWritable E f (1) (by omega)) cm_Df_isWritable sm_Df_isWritable ml_Df_77 d_Df_put_1 rfl rfl (Nat.le_of_ble_eq_true rfl) (by decide) ?_
  rintro _ f1 ⟨rfl, e4⟩
  obtain rfl := e4.symm
  refine G_cast (st' := [.int (zI (if 0 ≤ (1 : Int) ∧ (1 : Int) ≤ 2 then 1 else 0))]) ?_ rfl rfl rfl rfl
  refine G_top (show zI (if 0 ≤ (1 : Int) ∧ (1 : Int) ≤ 2 then 1 else 0) = zI 1 from by rw [if_pos (by omega)]) ?_
  refine G_if_eq_z hX (tgt := 34) d_Df_put_4 rfl (by omega) (fun c5 => by exfalso; omega) (fun c6 => ?_)
  refine G_iload hX 3 rfl d_Df_put_7 ?_
  refine G_iconst hX d_Df_put_9 ?_
  refine G_icmp_lt_z hX (tgt := 34) d_Df_put_10 rfl (by omega) (fun c7 => ?_) (fun c8 => ?_)
  · skip
    refine G_iconst hX d_Df_put_34 ?_
    exact F_zret hX hE (by decide) d_Df_put_35 ⟨rfl, rfl⟩
  · skip
    refine G_iload hX 3 rfl d_Df_put_13 ?_
    refine G_bipush hX (by decide) d_Df_put_15 ?_
    refine G_icmp_gt_z hX (tgt := 34) d_Df_put_17 rfl (by omega) (fun c9 => ?_) (fun c10 => ?_)
    · skip
      refine G_iconst hX d_Df_put_34 ?_
      exact F_zret hX hE (by decide) d_Df_put_35 ⟨rfl, rfl⟩
    · skip
      refine G_aload_n hX 0 rfl rfl d_Df_put_20 ?_
      refine F_get hX fg_Df_9 d_Df_put_21 0 (by decide) hF.1 rfl ?_
      refine G_iload_n hX 1 rfl rfl d_Df_put_24 ?_
      refine F_aald hX d_Df_put_25 1 (by decide) hF.2 (by decide) (a := eA E 4) rfl ?_
      refine F_callV hX (st := []) (c_Ro_left E f 4 5 300 g c (by decide) (by decide) (by decide) ⟨hR.1, hR.2⟩ (by omega)) cm_Ro_left im_Ro_left se_Ro_left rfl ml_Df_81 d_Df_put_26 (by decide) hR.1 rfl rfl (Nat.le_of_ble_eq_true rfl) (by decide) ?_
      rintro _ f11 ⟨rfl, e14⟩
      obtain rfl := e14.symm
      refine G_cast (st' := [.int (zI (((300 : Nat) : Int) - c))]) ?_ rfl rfl rfl rfl
      refine G_iload hX 3 rfl d_Df_put_29 ?_
      refine G_icmp_ge_z hX (tgt := 36) d_Df_put_31 rfl (by omega) (fun c15 => by exfalso; omega) (fun c16 => ?_)
      refine G_iconst hX d_Df_put_34 ?_
      exact F_zret hX hE (by decide) d_Df_put_35 ⟨rfl, rfl⟩
theorem c_Df_set_1 (E : EV) (f : Nat → va_E) (bk wi ns : Int) (n1 n2 : Int64) (g : Int → Int) (c : Int) (P : PS) (md w s : Int) (p b : Int) (hF : isDf E f bk wi ns n1 n2) (hR : isR E f 4 5 300 g c) (hc : 0 ≤ c ∧ c ≤ 300) (hP : isPl E f P md w s) (hp : 0 ≤ p ∧ p < c) : CF yn_Df_set cd_Df_set 4 (some (.boolean)) 1 E [.ref (eA E 0), .int (zI 1), .int (zI p), .int (zI b)] f (fun r f' => r = some (.int (zI 1)) ∧ isR E f' 4 5 300 (uz g p (b % 256)) c ∧ isPl E f' P 0 w s ∧ Fr [5, 22] f f') := by
  refine CF.of (by decide +kernel) (Nat.le_of_ble_eq_true rfl) fun X hX hE => ?_
  have hX : Ok E X "DeltaFerry" "set" cd_Df_set 4 (some (.boolean)) (rl 1) := hX
  refine G_cast (lv' := [(0, .ref (eA E 0)), (1, .int (zI 1)), (2, .int (zI p)), (3, .int (zI b))]) ?_ rfl rfl rfl rfl
  refine G_iload_n hX 1 rfl rfl d_Df_set_0 ?_
  refine F_callS hX (st := []) (c_Df_isWritable E f (1) (by omega)) cm_Df_isWritable sm_Df_isWritable ml_Df_77 d_Df_set_1 rfl rfl (Nat.le_of_ble_eq_true rfl) (by decide) ?_
  rintro _ f1 ⟨rfl, e4⟩
  obtain rfl := e4.symm
  refine G_cast (st' := [.int (zI (if 0 ≤ (1 : Int) ∧ (1 : Int) ≤ 2 then 1 else 0))]) ?_ rfl rfl rfl rfl
  refine G_top (show zI (if 0 ≤ (1 : Int) ∧ (1 : Int) ≤ 2 then 1 else 0) = zI 1 from by rw [if_pos (by omega)]) ?_
  refine G_if_eq_z hX (tgt := 20) d_Df_set_4 rfl (by omega) (fun c5 => by exfalso; omega) (fun c6 => ?_)
  refine G_aload_n hX 0 rfl rfl d_Df_set_7 ?_
  refine F_get hX fg_Df_9 d_Df_set_8 0 (by decide) hF.1 rfl ?_
  refine G_iload_n hX 1 rfl rfl d_Df_set_11 ?_
  refine F_aald hX d_Df_set_12 1 (by decide) hF.2 (by decide) (a := eA E 4) rfl ?_
  refine G_iload_n hX 2 rfl rfl d_Df_set_13 ?_
  refine F_callV hX (st := []) (c_Ro_has E f 4 5 300 g c p (by decide) (by decide) (by decide) ⟨hR.1, hR.2⟩ (by omega) (by omega)) cm_Ro_has im_Ro_has se_Ro_has rfl ml_Df_91 d_Df_set_14 (by decide) hR.1 rfl rfl (Nat.le_of_ble_eq_true rfl) (by decide) ?_
  rintro _ f7 ⟨rfl, e10⟩
  obtain rfl := e10.symm
  refine G_cast (st' := [.int (zI (if 0 ≤ p ∧ p < c then 1 else 0))]) ?_ rfl rfl rfl rfl
  refine G_top (show zI (if 0 ≤ p ∧ p < c then 1 else 0) = zI 1 from by rw [if_pos (by omega)]) ?_
  refine G_if_ne_z hX (tgt := 22) d_Df_set_17 rfl (by omega) (fun c11 => ?_) (fun c12 => by exfalso; omega)
  refine G_aload_n hX 0 rfl rfl d_Df_set_22 ?_
  refine F_get hX fg_Df_9 d_Df_set_23 0 (by decide) hF.1 rfl ?_
  refine G_iload_n hX 1 rfl rfl d_Df_set_26 ?_
  refine F_aald hX d_Df_set_27 1 (by decide) hF.2 (by decide) (a := eA E 4) rfl ?_
  refine F_get hX fg_Df_94 d_Df_set_28 4 (by decide) hR.1 rfl ?_
  refine G_iload_n hX 2 rfl rfl d_Df_set_31 ?_
  refine G_iload_n hX 3 rfl rfl d_Df_set_32 ?_
  refine G_sipush hX (by decide) d_Df_set_33 ?_
  refine G_iand hX d_Df_set_36 ?_
  refine G_top (show (zI b &&& zI 255) = zI (b % 256) from zI_and255 _) ?_
  refine F_iast hX d_Df_set_37 5 (by decide) hR.2 (by omega) (fun f13 h14 k15 => ?_)
  refine G_aload_n hX 0 rfl rfl d_Df_set_38 ?_
  refine G_iload_n hX 1 rfl rfl d_Df_set_39 ?_
  have h16 : f13 0 = ob 11 [.ref (eA E 1), .ref (eA E 10), .ref (eA E 13), .ref (eA E 14), .ref (eA E 22), .ref (eA E 27), .ref (eA E 29), .ref (eA E 44), .int (zI bk), .int (zI wi), .int (zI ns), .long n1, .long n2] := (k15 0 (by decide)).trans hF.1
  have h17 : f13 1 = ra E 4 (fun j => some (eA E (2 + 2 * j))) := (k15 1 (by decide)).trans hF.2
  have h18 : f13 22 = ob 4 [.ref (eA E 23), .ref (eA E 24), .ref (eA E 25), .ref (eA E 26), .int (zI md), .int (zI (pC P)), .int (zI w), .int (zI s)] := (k15 22 (by decide)).trans hP.1
  have h19 : f13 23 = iz E 300 (pT P) := (k15 23 (by decide)).trans hP.2.1
  have h20 : f13 24 = iz E 300 (pS P) := (k15 24 (by decide)).trans hP.2.2.1
  have h21 : f13 25 = iz E 300 (pA P) := (k15 25 (by decide)).trans hP.2.2.2.1
  have h22 : f13 26 = iz E 300 (pN P) := (k15 26 (by decide)).trans hP.2.2.2.2
  refine F_callV hX (st := []) (c_Df_giveUp_1 E f13 bk wi ns n1 n2 P md w s ⟨h16, h17⟩ ⟨h18, h19, h20, h21, h22⟩) cm_Df_giveUpPlanOf im_Df_giveUpPlanOf se_Df_giveUpPlanOf rfl ml_Df_88 d_Df_set_40 (by decide) h16 rfl rfl (Nat.le_of_ble_eq_true rfl) (by decide) ?_
  rintro _ f23 ⟨rfl, ⟨h26, h27, h28, h29, h30⟩, k31⟩
  refine G_cast (st' := []) ?_ rfl rfl rfl rfl
  refine G_iconst hX d_Df_set_43 ?_
  have h32 : f23 4 = ob 6 [.ref (eA E 5), .int (zI c)] := (k31 4 (by decide)).trans ((k15 4 (by decide)).trans hR.1)
  have h33 : f23 5 = iz E 300 (uz g p (b % 256)) := (k31 5 (by decide)).trans h14
  exact F_zret hX hE (by decide) d_Df_set_44 ⟨rfl, ⟨h32, h33⟩, ⟨h26, h27, h28, h29, h30⟩, (Fr.tr (Fr.tr Fr.rf k15 (by decide)) k31 (by decide))⟩
theorem c_Df_set_no1 (E : EV) (f : Nat → va_E) (bk wi ns : Int) (n1 n2 : Int64) (g : Int → Int) (c : Int) (P : PS) (md w s : Int) (p b : Int) (hF : isDf E f bk wi ns n1 n2) (hR : isR E f 4 5 300 g c) (hc : 0 ≤ c ∧ c ≤ 300) (hP : isPl E f P md w s) (hp : p < 0 ∨ c ≤ p) (hp2 : -2147483648 ≤ p ∧ p < 2147483648) : CF yn_Df_set cd_Df_set 4 (some (.boolean)) 1 E [.ref (eA E 0), .int (zI 1), .int (zI p), .int (zI b)] f (fun r f' => r = some (.int (zI 0)) ∧ f' = f) := by
  refine CF.of (by decide +kernel) (Nat.le_of_ble_eq_true rfl) fun X hX hE => ?_
  have hX : Ok E X "DeltaFerry" "set" cd_Df_set 4 (some (.boolean)) (rl 1) := hX
  refine G_cast (lv' := [(0, .ref (eA E 0)), (1, .int (zI 1)), (2, .int (zI p)), (3, .int (zI b))]) ?_ rfl rfl rfl rfl
  refine G_iload_n hX 1 rfl rfl d_Df_set_0 ?_
  refine F_callS hX (st := []) (c_Df_isWritable E f (1) (by omega)) cm_Df_isWritable sm_Df_isWritable ml_Df_77 d_Df_set_1 rfl rfl (Nat.le_of_ble_eq_true rfl) (by decide) ?_
  rintro _ f1 ⟨rfl, e4⟩
  obtain rfl := e4.symm
  refine G_cast (st' := [.int (zI (if 0 ≤ (1 : Int) ∧ (1 : Int) ≤ 2 then 1 else 0))]) ?_ rfl rfl rfl rfl
  refine G_top (show zI (if 0 ≤ (1 : Int) ∧ (1 : Int) ≤ 2 then 1 else 0) = zI 1 from by rw [if_pos (by omega)]) ?_
  refine G_if_eq_z hX (tgt := 20) d_Df_set_4 rfl (by omega) (fun c5 => by exfalso; omega) (fun c6 => ?_)
  refine G_aload_n hX 0 rfl rfl d_Df_set_7 ?_
  refine F_get hX fg_Df_9 d_Df_set_8 0 (by decide) hF.1 rfl ?_
  refine G_iload_n hX 1 rfl rfl d_Df_set_11 ?_
  refine F_aald hX d_Df_set_12 1 (by decide) hF.2 (by decide) (a := eA E 4) rfl ?_
  refine G_iload_n hX 2 rfl rfl d_Df_set_13 ?_
  refine F_callV hX (st := []) (c_Ro_has E f 4 5 300 g c p (by decide) (by decide) (by decide) ⟨hR.1, hR.2⟩ (by omega) (by omega)) cm_Ro_has im_Ro_has se_Ro_has rfl ml_Df_91 d_Df_set_14 (by decide) hR.1 rfl rfl (Nat.le_of_ble_eq_true rfl) (by decide) ?_
  rintro _ f7 ⟨rfl, e10⟩
  obtain rfl := e10.symm
  refine G_cast (st' := [.int (zI (if 0 ≤ p ∧ p < c then 1 else 0))]) ?_ rfl rfl rfl rfl
  refine G_top (show zI (if 0 ≤ p ∧ p < c then 1 else 0) = zI 0 from by rw [if_neg (by omega)]) ?_
  refine G_if_ne_z hX (tgt := 22) d_Df_set_17 rfl (by omega) (fun c11 => by exfalso; omega) (fun c12 => ?_)
  refine G_iconst hX d_Df_set_20 ?_
  exact F_zret hX hE (by decide) d_Df_set_21 ⟨rfl, rfl⟩
theorem c_Df_put_2 (E : EV) (f : Nat → va_E) (bk wi ns : Int) (n1 n2 : Int64) (g : Int → Int) (c : Int) (v : Int64) (n : Int) (hF : isDf E f bk wi ns n1 n2) (hR : isR E f 6 7 700 g c) (hc : 0 ≤ c ∧ c ≤ 700) (hn : 1 ≤ n ∧ n ≤ 8 ∧ c + n ≤ 700) : CF yn_Df_put cd_Df_put 6 (some (.boolean)) 1 E [.ref (eA E 0), .int (zI 2), .long v, .int (zI n)] f (fun r f' => r = some (.int (zI 1)) ∧ isR E f' 6 7 700 (ptL g c v n.toNat) (c + n) ∧ Fr [6, 7] f f') := by
  refine CF.of (by decide +kernel) (Nat.le_of_ble_eq_true rfl) fun X hX hE => ?_
  have hX : Ok E X "DeltaFerry" "put" cd_Df_put 6 (some (.boolean)) (rl 1) := hX
  refine G_cast (lv' := [(0, .ref (eA E 0)), (1, .int (zI 2)), (2, .long v), (4, .int (zI n))]) ?_ rfl rfl rfl rfl
  refine G_iload_n hX 1 rfl rfl d_Df_put_0 ?_
  refine F_callS hX (st := []) (c_Df_isWritable E f (2) (by omega)) cm_Df_isWritable sm_Df_isWritable ml_Df_77 d_Df_put_1 rfl rfl (Nat.le_of_ble_eq_true rfl) (by decide) ?_
  rintro _ f1 ⟨rfl, e4⟩
  obtain rfl := e4.symm
  refine G_cast (st' := [.int (zI (if 0 ≤ (2 : Int) ∧ (2 : Int) ≤ 2 then 1 else 0))]) ?_ rfl rfl rfl rfl
  refine G_top (show zI (if 0 ≤ (2 : Int) ∧ (2 : Int) ≤ 2 then 1 else 0) = zI 1 from by rw [if_pos (by omega)]) ?_
  refine G_if_eq_z hX (tgt := 34) d_Df_put_4 rfl (by omega) (fun c5 => by exfalso; omega) (fun c6 => ?_)
  refine G_iload hX 3 rfl d_Df_put_7 ?_
  refine G_iconst hX d_Df_put_9 ?_
  refine G_icmp_lt_z hX (tgt := 34) d_Df_put_10 rfl (by omega) (fun c7 => by exfalso; omega) (fun c8 => ?_)
  refine G_iload hX 3 rfl d_Df_put_13 ?_
  refine G_bipush hX (by decide) d_Df_put_15 ?_
  refine G_icmp_gt_z hX (tgt := 34) d_Df_put_17 rfl (by omega) (fun c9 => by exfalso; omega) (fun c10 => ?_)
  refine G_aload_n hX 0 rfl rfl d_Df_put_20 ?_
  refine F_get hX fg_Df_9 d_Df_put_21 0 (by decide) hF.1 rfl ?_
  refine G_iload_n hX 1 rfl rfl d_Df_put_24 ?_
  refine F_aald hX d_Df_put_25 1 (by decide) hF.2 (by decide) (a := eA E 6) rfl ?_
  refine F_callV hX (st := []) (c_Ro_left E f 6 7 700 g c (by decide) (by decide) (by decide) ⟨hR.1, hR.2⟩ (by omega)) cm_Ro_left im_Ro_left se_Ro_left rfl ml_Df_81 d_Df_put_26 (by decide) hR.1 rfl rfl (Nat.le_of_ble_eq_true rfl) (by decide) ?_
  rintro _ f11 ⟨rfl, e14⟩
  obtain rfl := e14.symm
  refine G_cast (st' := [.int (zI (((700 : Nat) : Int) - c))]) ?_ rfl rfl rfl rfl
  refine G_iload hX 3 rfl d_Df_put_29 ?_
  refine G_icmp_ge_z hX (tgt := 36) d_Df_put_31 rfl (by omega) (fun c15 => ?_) (fun c16 => by exfalso; omega)
  refine G_iconst hX d_Df_put_36 ?_
  refine G_istore hX (lv' := [(5, .int (zI 0)), (0, .ref (eA E 0)), (1, .int (zI 2)), (2, .long v), (4, .int (zI n))]) (by decide) rfl d_Df_put_37 ?_
  have loop17 : ∀ (q : Nat) (t : Int) (f18 : Nat → va_E), (n - t).toNat < q → (0 ≤ t ∧ t ≤ n) → f18 6 = ob 6 [.ref (eA E 7), .int (zI (c + t))] → f18 7 = iz E 700 (ptL g c v t.toNat) → Fr [6, 7] f f18 → G E X 0 0 39 [(0, .ref (eA E 0)), (1, .int (zI 2)), (2, .long v), (4, .int (zI n)), (5, .int (zI t))] [] (wl E f18) := by
    intro q
    induction q with
    | zero => intro t f18 hms20; exact absurd hms20 (Nat.not_lt_zero _)
    | succ q ih21 =>
      intro t f18 hms20 ht h22 h23 k19
      refine G_iload hX 4 rfl d_Df_put_39 ?_
      refine G_iload hX 3 rfl d_Df_put_41 ?_
      refine G_icmp_ge_z hX (tgt := 73) d_Df_put_43 rfl (by omega) (fun c24 => ?_) (fun c25 => ?_)
      · skip
        refine G_aload_n hX 0 rfl rfl d_Df_put_73 ?_
        refine G_iload_n hX 1 rfl rfl d_Df_put_74 ?_
        have h26 : f18 0 = ob 11 [.ref (eA E 1), .ref (eA E 10), .ref (eA E 13), .ref (eA E 14), .ref (eA E 22), .ref (eA E 27), .ref (eA E 29), .ref (eA E 44), .int (zI bk), .int (zI wi), .int (zI ns), .long n1, .long n2] := (k19 0 (by decide)).trans hF.1
        have h27 : f18 1 = ra E 4 (fun j => some (eA E (2 + 2 * j))) := (k19 1 (by decide)).trans hF.2
        refine F_callV hX (st := []) (c_Df_giveUp_2 E f18 bk wi ns n1 n2 ⟨h26, h27⟩) cm_Df_giveUpPlanOf im_Df_giveUpPlanOf se_Df_giveUpPlanOf rfl ml_Df_88 d_Df_put_75 (by decide) h26 rfl rfl (Nat.le_of_ble_eq_true rfl) (by decide) ?_
        rintro _ f28 ⟨rfl, e31⟩
        obtain rfl := e31.symm
        refine G_cast (st' := []) ?_ rfl rfl rfl rfl
        refine G_iconst hX d_Df_put_78 ?_
        have et : t = n := by omega
        subst et
        exact F_zret hX hE (by decide) d_Df_put_79 ⟨rfl, ⟨h22, h23⟩, (Fr.tr Fr.rf k19 (by decide))⟩
      · skip
        refine G_aload_n hX 0 rfl rfl d_Df_put_46 ?_
        have h32 : f18 0 = ob 11 [.ref (eA E 1), .ref (eA E 10), .ref (eA E 13), .ref (eA E 14), .ref (eA E 22), .ref (eA E 27), .ref (eA E 29), .ref (eA E 44), .int (zI bk), .int (zI wi), .int (zI ns), .long n1, .long n2] := (k19 0 (by decide)).trans hF.1
        refine F_get hX fg_Df_9 d_Df_put_47 0 (by decide) h32 rfl ?_
        refine G_iload_n hX 1 rfl rfl d_Df_put_50 ?_
        have h33 : f18 1 = ra E 4 (fun j => some (eA E (2 + 2 * j))) := (k19 1 (by decide)).trans hF.2
        refine F_aald hX d_Df_put_51 1 (by decide) h33 (by decide) (a := eA E 6) rfl ?_
        refine G_lload_n hX 2 rfl rfl d_Df_put_52 ?_
        refine G_bipush hX (by decide) d_Df_put_53 ?_
        refine G_iload hX 4 rfl d_Df_put_55 ?_
        refine G_imul_z hX d_Df_put_57 ?_
        refine G_lushr hX (v := (v.toUInt64 >>> ((zI (8 * t)).toInt64.toUInt64 &&& Int64.toUInt64 63)).toInt64) rfl d_Df_put_58 ?_
        refine G_l2i hX (v := (((v.toUInt64 >>> ((zI (8 * t)).toInt64.toUInt64 &&& Int64.toUInt64 63)).toInt64)).toInt32) rfl d_Df_put_59 ?_
        refine G_sipush hX (by decide) d_Df_put_60 ?_
        refine G_iand hX d_Df_put_63 ?_
        refine G_top (show (((((v.toUInt64 >>> ((zI (8 * t)).toInt64.toUInt64 &&& Int64.toUInt64 63)).toInt64)).toInt32) &&& zI 255) = zI (pbF v t) from (zI_self _).symm) ?_
        refine F_callV hX (st := []) (c_Ro_push E f18 6 7 700 (ptL g c v t.toNat) (c + t) (pbF v t) (by decide) (by decide) (by decide) ⟨h22, h23⟩ (by omega) (by omega)) cm_Ro_push im_Ro_push se_Ro_push rfl ml_Df_85 d_Df_put_64 (by decide) h22 rfl rfl (Nat.le_of_ble_eq_true rfl) (by decide) ?_
        rintro _ f34 ⟨rfl, ⟨h37, h38⟩, k39⟩
        refine G_cast (st' := []) ?_ rfl rfl rfl rfl
        refine G_iinc_z hX (lv' := [(5, .int (zI (t + 1))), (0, .ref (eA E 0)), (1, .int (zI 2)), (2, .long v), (4, .int (zI n))]) 4 rfl (by decide) rfl d_Df_put_67 ?_
        refine G_goto hX (tgt := 39) d_Df_put_70 rfl ?_
        refine G_loc (lv' := [(0, .ref (eA E 0)), (1, .int (zI 2)), (2, .long v), (4, .int (zI n)), (5, .int (zI (t + 1)))]) [1, 2, 3, 4, 0] rfl ?_
        exact ih21 (t + 1) f34 (by omega) (by omega) (by rw [show c + (t + 1) = c + t + 1 by omega]; exact h37) (by rw [ptL_s ht.1]; exact h38) (Fr.tr (Fr.tr Fr.rf k19 (by decide)) k39 (by decide))
  refine G_loc (lv' := [(0, .ref (eA E 0)), (1, .int (zI 2)), (2, .long v), (4, .int (zI n)), (5, .int (zI 0))]) [1, 2, 3, 4, 0] rfl ?_
  exact loop17 (_ + 1) 0 f (Nat.lt_succ_self _) (by omega) (by rw [Int.add_zero]; exact hR.1) hR.2 Fr.rf
theorem c_Df_put_no2 (E : EV) (f : Nat → va_E) (bk wi ns : Int) (n1 n2 : Int64) (g : Int → Int) (c : Int) (v : Int64) (n : Int) (hF : isDf E f bk wi ns n1 n2) (hR : isR E f 6 7 700 g c) (hc : 0 ≤ c ∧ c ≤ 700) (hn : n < 1 ∨ 8 < n ∨ 700 < c + n) (hn2 : -2147483648 ≤ n ∧ n < 2147483648) : CF yn_Df_put cd_Df_put 6 (some (.boolean)) 1 E [.ref (eA E 0), .int (zI 2), .long v, .int (zI n)] f (fun r f' => r = some (.int (zI 0)) ∧ f' = f) := by
  refine CF.of (by decide +kernel) (Nat.le_of_ble_eq_true rfl) fun X hX hE => ?_
  have hX : Ok E X "DeltaFerry" "put" cd_Df_put 6 (some (.boolean)) (rl 1) := hX
  refine G_cast (lv' := [(0, .ref (eA E 0)), (1, .int (zI 2)), (2, .long v), (4, .int (zI n))]) ?_ rfl rfl rfl rfl
  refine G_iload_n hX 1 rfl rfl d_Df_put_0 ?_
  refine F_callS hX (st := []) (c_Df_isWritable E f (2) (by omega)) cm_Df_isWritable sm_Df_isWritable ml_Df_77 d_Df_put_1 rfl rfl (Nat.le_of_ble_eq_true rfl) (by decide) ?_
  rintro _ f1 ⟨rfl, e4⟩
  obtain rfl := e4.symm
  refine G_cast (st' := [.int (zI (if 0 ≤ (2 : Int) ∧ (2 : Int) ≤ 2 then 1 else 0))]) ?_ rfl rfl rfl rfl
  refine G_top (show zI (if 0 ≤ (2 : Int) ∧ (2 : Int) ≤ 2 then 1 else 0) = zI 1 from by rw [if_pos (by omega)]) ?_
  refine G_if_eq_z hX (tgt := 34) d_Df_put_4 rfl (by omega) (fun c5 => by exfalso; omega) (fun c6 => ?_)
  refine G_iload hX 3 rfl d_Df_put_7 ?_
  refine G_iconst hX d_Df_put_9 ?_
  refine G_icmp_lt_z hX (tgt := 34) d_Df_put_10 rfl (by omega) (fun c7 => ?_) (fun c8 => ?_)
  · skip
    refine G_iconst hX d_Df_put_34 ?_
    exact F_zret hX hE (by decide) d_Df_put_35 ⟨rfl, rfl⟩
  · skip
    refine G_iload hX 3 rfl d_Df_put_13 ?_
    refine G_bipush hX (by decide) d_Df_put_15 ?_
    refine G_icmp_gt_z hX (tgt := 34) d_Df_put_17 rfl (by omega) (fun c9 => ?_) (fun c10 => ?_)
    · skip
      refine G_iconst hX d_Df_put_34 ?_
      exact F_zret hX hE (by decide) d_Df_put_35 ⟨rfl, rfl⟩
    · skip
      refine G_aload_n hX 0 rfl rfl d_Df_put_20 ?_
      refine F_get hX fg_Df_9 d_Df_put_21 0 (by decide) hF.1 rfl ?_
      refine G_iload_n hX 1 rfl rfl d_Df_put_24 ?_
      refine F_aald hX d_Df_put_25 1 (by decide) hF.2 (by decide) (a := eA E 6) rfl ?_
      refine F_callV hX (st := []) (c_Ro_left E f 6 7 700 g c (by decide) (by decide) (by decide) ⟨hR.1, hR.2⟩ (by omega)) cm_Ro_left im_Ro_left se_Ro_left rfl ml_Df_81 d_Df_put_26 (by decide) hR.1 rfl rfl (Nat.le_of_ble_eq_true rfl) (by decide) ?_
      rintro _ f11 ⟨rfl, e14⟩
      obtain rfl := e14.symm
      refine G_cast (st' := [.int (zI (((700 : Nat) : Int) - c))]) ?_ rfl rfl rfl rfl
      refine G_iload hX 3 rfl d_Df_put_29 ?_
      refine G_icmp_ge_z hX (tgt := 36) d_Df_put_31 rfl (by omega) (fun c15 => by exfalso; omega) (fun c16 => ?_)
      refine G_iconst hX d_Df_put_34 ?_
      exact F_zret hX hE (by decide) d_Df_put_35 ⟨rfl, rfl⟩
theorem c_Df_set_2 (E : EV) (f : Nat → va_E) (bk wi ns : Int) (n1 n2 : Int64) (g : Int → Int) (c : Int) (p b : Int) (hF : isDf E f bk wi ns n1 n2) (hR : isR E f 6 7 700 g c) (hc : 0 ≤ c ∧ c ≤ 700) (hp : 0 ≤ p ∧ p < c) : CF yn_Df_set cd_Df_set 4 (some (.boolean)) 1 E [.ref (eA E 0), .int (zI 2), .int (zI p), .int (zI b)] f (fun r f' => r = some (.int (zI 1)) ∧ isR E f' 6 7 700 (uz g p (b % 256)) c ∧ Fr [7] f f') := by
  refine CF.of (by decide +kernel) (Nat.le_of_ble_eq_true rfl) fun X hX hE => ?_
  have hX : Ok E X "DeltaFerry" "set" cd_Df_set 4 (some (.boolean)) (rl 1) := hX
  refine G_cast (lv' := [(0, .ref (eA E 0)), (1, .int (zI 2)), (2, .int (zI p)), (3, .int (zI b))]) ?_ rfl rfl rfl rfl
  refine G_iload_n hX 1 rfl rfl d_Df_set_0 ?_
  refine F_callS hX (st := []) (c_Df_isWritable E f (2) (by omega)) cm_Df_isWritable sm_Df_isWritable ml_Df_77 d_Df_set_1 rfl rfl (Nat.le_of_ble_eq_true rfl) (by decide) ?_
  rintro _ f1 ⟨rfl, e4⟩
  obtain rfl := e4.symm
  refine G_cast (st' := [.int (zI (if 0 ≤ (2 : Int) ∧ (2 : Int) ≤ 2 then 1 else 0))]) ?_ rfl rfl rfl rfl
  refine G_top (show zI (if 0 ≤ (2 : Int) ∧ (2 : Int) ≤ 2 then 1 else 0) = zI 1 from by rw [if_pos (by omega)]) ?_
  refine G_if_eq_z hX (tgt := 20) d_Df_set_4 rfl (by omega) (fun c5 => by exfalso; omega) (fun c6 => ?_)
  refine G_aload_n hX 0 rfl rfl d_Df_set_7 ?_
  refine F_get hX fg_Df_9 d_Df_set_8 0 (by decide) hF.1 rfl ?_
  refine G_iload_n hX 1 rfl rfl d_Df_set_11 ?_
  refine F_aald hX d_Df_set_12 1 (by decide) hF.2 (by decide) (a := eA E 6) rfl ?_
  refine G_iload_n hX 2 rfl rfl d_Df_set_13 ?_
  refine F_callV hX (st := []) (c_Ro_has E f 6 7 700 g c p (by decide) (by decide) (by decide) ⟨hR.1, hR.2⟩ (by omega) (by omega)) cm_Ro_has im_Ro_has se_Ro_has rfl ml_Df_91 d_Df_set_14 (by decide) hR.1 rfl rfl (Nat.le_of_ble_eq_true rfl) (by decide) ?_
  rintro _ f7 ⟨rfl, e10⟩
  obtain rfl := e10.symm
  refine G_cast (st' := [.int (zI (if 0 ≤ p ∧ p < c then 1 else 0))]) ?_ rfl rfl rfl rfl
  refine G_top (show zI (if 0 ≤ p ∧ p < c then 1 else 0) = zI 1 from by rw [if_pos (by omega)]) ?_
  refine G_if_ne_z hX (tgt := 22) d_Df_set_17 rfl (by omega) (fun c11 => ?_) (fun c12 => by exfalso; omega)
  refine G_aload_n hX 0 rfl rfl d_Df_set_22 ?_
  refine F_get hX fg_Df_9 d_Df_set_23 0 (by decide) hF.1 rfl ?_
  refine G_iload_n hX 1 rfl rfl d_Df_set_26 ?_
  refine F_aald hX d_Df_set_27 1 (by decide) hF.2 (by decide) (a := eA E 6) rfl ?_
  refine F_get hX fg_Df_94 d_Df_set_28 6 (by decide) hR.1 rfl ?_
  refine G_iload_n hX 2 rfl rfl d_Df_set_31 ?_
  refine G_iload_n hX 3 rfl rfl d_Df_set_32 ?_
  refine G_sipush hX (by decide) d_Df_set_33 ?_
  refine G_iand hX d_Df_set_36 ?_
  refine G_top (show (zI b &&& zI 255) = zI (b % 256) from zI_and255 _) ?_
  refine F_iast hX d_Df_set_37 7 (by decide) hR.2 (by omega) (fun f13 h14 k15 => ?_)
  refine G_aload_n hX 0 rfl rfl d_Df_set_38 ?_
  refine G_iload_n hX 1 rfl rfl d_Df_set_39 ?_
  have h16 : f13 0 = ob 11 [.ref (eA E 1), .ref (eA E 10), .ref (eA E 13), .ref (eA E 14), .ref (eA E 22), .ref (eA E 27), .ref (eA E 29), .ref (eA E 44), .int (zI bk), .int (zI wi), .int (zI ns), .long n1, .long n2] := (k15 0 (by decide)).trans hF.1
  have h17 : f13 1 = ra E 4 (fun j => some (eA E (2 + 2 * j))) := (k15 1 (by decide)).trans hF.2
  refine F_callV hX (st := []) (c_Df_giveUp_2 E f13 bk wi ns n1 n2 ⟨h16, h17⟩) cm_Df_giveUpPlanOf im_Df_giveUpPlanOf se_Df_giveUpPlanOf rfl ml_Df_88 d_Df_set_40 (by decide) h16 rfl rfl (Nat.le_of_ble_eq_true rfl) (by decide) ?_
  rintro _ f18 ⟨rfl, e21⟩
  obtain rfl := e21.symm
  refine G_cast (st' := []) ?_ rfl rfl rfl rfl
  refine G_iconst hX d_Df_set_43 ?_
  have h22 : f13 6 = ob 6 [.ref (eA E 7), .int (zI c)] := (k15 6 (by decide)).trans hR.1
  exact F_zret hX hE (by decide) d_Df_set_44 ⟨rfl, ⟨h22, h14⟩, (Fr.tr Fr.rf k15 (by decide))⟩
theorem c_Df_set_no2 (E : EV) (f : Nat → va_E) (bk wi ns : Int) (n1 n2 : Int64) (g : Int → Int) (c : Int) (p b : Int) (hF : isDf E f bk wi ns n1 n2) (hR : isR E f 6 7 700 g c) (hc : 0 ≤ c ∧ c ≤ 700) (hp : p < 0 ∨ c ≤ p) (hp2 : -2147483648 ≤ p ∧ p < 2147483648) : CF yn_Df_set cd_Df_set 4 (some (.boolean)) 1 E [.ref (eA E 0), .int (zI 2), .int (zI p), .int (zI b)] f (fun r f' => r = some (.int (zI 0)) ∧ f' = f) := by
  refine CF.of (by decide +kernel) (Nat.le_of_ble_eq_true rfl) fun X hX hE => ?_
  have hX : Ok E X "DeltaFerry" "set" cd_Df_set 4 (some (.boolean)) (rl 1) := hX
  refine G_cast (lv' := [(0, .ref (eA E 0)), (1, .int (zI 2)), (2, .int (zI p)), (3, .int (zI b))]) ?_ rfl rfl rfl rfl
  refine G_iload_n hX 1 rfl rfl d_Df_set_0 ?_
  refine F_callS hX (st := []) (c_Df_isWritable E f (2) (by omega)) cm_Df_isWritable sm_Df_isWritable ml_Df_77 d_Df_set_1 rfl rfl (Nat.le_of_ble_eq_true rfl) (by decide) ?_
  rintro _ f1 ⟨rfl, e4⟩
  obtain rfl := e4.symm
  refine G_cast (st' := [.int (zI (if 0 ≤ (2 : Int) ∧ (2 : Int) ≤ 2 then 1 else 0))]) ?_ rfl rfl rfl rfl
  refine G_top (show zI (if 0 ≤ (2 : Int) ∧ (2 : Int) ≤ 2 then 1 else 0) = zI 1 from by rw [if_pos (by omega)]) ?_
  refine G_if_eq_z hX (tgt := 20) d_Df_set_4 rfl (by omega) (fun c5 => by exfalso; omega) (fun c6 => ?_)
  refine G_aload_n hX 0 rfl rfl d_Df_set_7 ?_
  refine F_get hX fg_Df_9 d_Df_set_8 0 (by decide) hF.1 rfl ?_
  refine G_iload_n hX 1 rfl rfl d_Df_set_11 ?_
  refine F_aald hX d_Df_set_12 1 (by decide) hF.2 (by decide) (a := eA E 6) rfl ?_
  refine G_iload_n hX 2 rfl rfl d_Df_set_13 ?_
  refine F_callV hX (st := []) (c_Ro_has E f 6 7 700 g c p (by decide) (by decide) (by decide) ⟨hR.1, hR.2⟩ (by omega) (by omega)) cm_Ro_has im_Ro_has se_Ro_has rfl ml_Df_91 d_Df_set_14 (by decide) hR.1 rfl rfl (Nat.le_of_ble_eq_true rfl) (by decide) ?_
  rintro _ f7 ⟨rfl, e10⟩
  obtain rfl := e10.symm
  refine G_cast (st' := [.int (zI (if 0 ≤ p ∧ p < c then 1 else 0))]) ?_ rfl rfl rfl rfl
  refine G_top (show zI (if 0 ≤ p ∧ p < c then 1 else 0) = zI 0 from by rw [if_neg (by omega)]) ?_
  refine G_if_ne_z hX (tgt := 22) d_Df_set_17 rfl (by omega) (fun c11 => by exfalso; omega) (fun c12 => ?_)
  refine G_iconst hX d_Df_set_20 ?_
  exact F_zret hX hE (by decide) d_Df_set_21 ⟨rfl, rfl⟩
theorem c_Df_put_nf (E : EV) (f : Nat → va_E) (bk wi ns : Int) (n1 n2 : Int64) (k n : Int) (v : Int64) (hF : isDf E f bk wi ns n1 n2) (hk : k < 0 ∨ 2 < k) (hk2 : -2147483648 ≤ k ∧ k < 2147483648) : CF yn_Df_put cd_Df_put 6 (some (.boolean)) 1 E [.ref (eA E 0), .int (zI k), .long v, .int (zI n)] f (fun r f' => r = some (.int (zI 0)) ∧ f' = f) := by
  refine CF.of (by decide +kernel) (Nat.le_of_ble_eq_true rfl) fun X hX hE => ?_
  have hX : Ok E X "DeltaFerry" "put" cd_Df_put 6 (some (.boolean)) (rl 1) := hX
  refine G_cast (lv' := [(0, .ref (eA E 0)), (1, .int (zI k)), (2, .long v), (4, .int (zI n))]) ?_ rfl rfl rfl rfl
  refine G_iload_n hX 1 rfl rfl d_Df_put_0 ?_
  refine F_callS hX (st := []) (c_Df_isWritable E f k (by omega)) cm_Df_isWritable sm_Df_isWritable ml_Df_77 d_Df_put_1 rfl rfl (Nat.le_of_ble_eq_true rfl) (by decide) ?_
  rintro _ f1 ⟨rfl, e4⟩
  obtain rfl := e4.symm
  refine G_cast (st' := [.int (zI (if 0 ≤ k ∧ k ≤ 2 then 1 else 0))]) ?_ rfl rfl rfl rfl
  refine G_top (show zI (if 0 ≤ k ∧ k ≤ 2 then 1 else 0) = zI 0 from by rw [if_neg (by omega)]) ?_
  refine G_if_eq_z hX (tgt := 34) d_Df_put_4 rfl (by omega) (fun c5 => ?_) (fun c6 => by exfalso; omega)
  refine G_iconst hX d_Df_put_34 ?_
  exact F_zret hX hE (by decide) d_Df_put_35 ⟨rfl, rfl⟩
theorem c_Df_set_nf (E : EV) (f : Nat → va_E) (bk wi ns : Int) (n1 n2 : Int64) (k n v : Int) (hF : isDf E f bk wi ns n1 n2) (hk : k < 0 ∨ 2 < k) (hk2 : -2147483648 ≤ k ∧ k < 2147483648) : CF yn_Df_set cd_Df_set 4 (some (.boolean)) 1 E [.ref (eA E 0), .int (zI k), .int (zI n), .int (zI v)] f (fun r f' => r = some (.int (zI 0)) ∧ f' = f) := by
  refine CF.of (by decide +kernel) (Nat.le_of_ble_eq_true rfl) fun X hX hE => ?_
  have hX : Ok E X "DeltaFerry" "set" cd_Df_set 4 (some (.boolean)) (rl 1) := hX
  refine G_cast (lv' := [(0, .ref (eA E 0)), (1, .int (zI k)), (2, .int (zI n)), (3, .int (zI v))]) ?_ rfl rfl rfl rfl
  refine G_iload_n hX 1 rfl rfl d_Df_set_0 ?_
  refine F_callS hX (st := []) (c_Df_isWritable E f k (by omega)) cm_Df_isWritable sm_Df_isWritable ml_Df_77 d_Df_set_1 rfl rfl (Nat.le_of_ble_eq_true rfl) (by decide) ?_
  rintro _ f1 ⟨rfl, e4⟩
  obtain rfl := e4.symm
  refine G_cast (st' := [.int (zI (if 0 ≤ k ∧ k ≤ 2 then 1 else 0))]) ?_ rfl rfl rfl rfl
  refine G_top (show zI (if 0 ≤ k ∧ k ≤ 2 then 1 else 0) = zI 0 from by rw [if_neg (by omega)]) ?_
  refine G_if_eq_z hX (tgt := 20) d_Df_set_4 rfl (by omega) (fun c5 => ?_) (fun c6 => by exfalso; omega)
  refine G_iconst hX d_Df_set_20 ?_
  exact F_zret hX hE (by decide) d_Df_set_21 ⟨rfl, rfl⟩
theorem c_Df_clear_nf (E : EV) (f : Nat → va_E) (bk wi ns : Int) (n1 n2 : Int64) (k n v : Int) (hF : isDf E f bk wi ns n1 n2) (hk : k < 0 ∨ 3 < k) (hk2 : -2147483648 ≤ k ∧ k < 2147483648) : CF yn_Df_clear cd_Df_clear 3 (some (.int)) 1 E [.ref (eA E 0), .int (zI k)] f (fun r f' => r = some (.int (zI (-1))) ∧ f' = f) := by
  refine CF.of (by decide +kernel) (Nat.le_of_ble_eq_true rfl) fun X hX hE => ?_
  have hX : Ok E X "DeltaFerry" "clear" cd_Df_clear 3 (some (.int)) (rl 1) := hX
  refine G_cast (lv' := [(0, .ref (eA E 0)), (1, .int (zI k))]) ?_ rfl rfl rfl rfl
  refine G_iload_n hX 1 rfl rfl d_Df_clear_0 ?_
  refine F_callS hX (st := []) (c_Df_isFile E f k (by omega)) cm_Df_isFile sm_Df_isFile ml_Df_98 d_Df_clear_1 rfl rfl (Nat.le_of_ble_eq_true rfl) (by decide) ?_
  rintro _ f1 ⟨rfl, e4⟩
  obtain rfl := e4.symm
  refine G_cast (st' := [.int (zI (if 0 ≤ k ∧ k ≤ 3 then 1 else 0))]) ?_ rfl rfl rfl rfl
  refine G_top (show zI (if 0 ≤ k ∧ k ≤ 3 then 1 else 0) = zI 0 from by rw [if_neg (by omega)]) ?_
  refine G_if_ne_z hX (tgt := 9) d_Df_clear_4 rfl (by omega) (fun c5 => by exfalso; omega) (fun c6 => ?_)
  refine G_iconst hX d_Df_clear_7 ?_
  exact F_iret hX hE d_Df_clear_8 ⟨rfl, rfl⟩
theorem c_Df_size_nf (E : EV) (f : Nat → va_E) (bk wi ns : Int) (n1 n2 : Int64) (k n v : Int) (hF : isDf E f bk wi ns n1 n2) (hk : k < 0 ∨ 3 < k) (hk2 : -2147483648 ≤ k ∧ k < 2147483648) : CF yn_Df_size cd_Df_size 2 (some (.int)) 1 E [.ref (eA E 0), .int (zI k)] f (fun r f' => r = some (.int (zI (-1))) ∧ f' = f) := by
  refine CF.of (by decide +kernel) (Nat.le_of_ble_eq_true rfl) fun X hX hE => ?_
  have hX : Ok E X "DeltaFerry" "size" cd_Df_size 2 (some (.int)) (rl 1) := hX
  refine G_cast (lv' := [(0, .ref (eA E 0)), (1, .int (zI k))]) ?_ rfl rfl rfl rfl
  refine G_iload_n hX 1 rfl rfl d_Df_size_0 ?_
  refine F_callS hX (st := []) (c_Df_isFile E f k (by omega)) cm_Df_isFile sm_Df_isFile ml_Df_98 d_Df_size_1 rfl rfl (Nat.le_of_ble_eq_true rfl) (by decide) ?_
  rintro _ f1 ⟨rfl, e4⟩
  obtain rfl := e4.symm
  refine G_cast (st' := [.int (zI (if 0 ≤ k ∧ k ≤ 3 then 1 else 0))]) ?_ rfl rfl rfl rfl
  refine G_top (show zI (if 0 ≤ k ∧ k ≤ 3 then 1 else 0) = zI 0 from by rw [if_neg (by omega)]) ?_
  refine G_if_eq_z hX (tgt := 19) d_Df_size_4 rfl (by omega) (fun c5 => ?_) (fun c6 => by exfalso; omega)
  refine G_iconst hX d_Df_size_19 ?_
  exact F_iret hX hE d_Df_size_20 ⟨rfl, rfl⟩
theorem c_Df_at_nf (E : EV) (f : Nat → va_E) (bk wi ns : Int) (n1 n2 : Int64) (k n v : Int) (hF : isDf E f bk wi ns n1 n2) (hk : k < 0 ∨ 3 < k) (hk2 : -2147483648 ≤ k ∧ k < 2147483648) : CF yn_Df_at cd_Df_at 3 (some (.int)) 1 E [.ref (eA E 0), .int (zI k), .int (zI n)] f (fun r f' => r = some (.int (zI (-1))) ∧ f' = f) := by
  refine CF.of (by decide +kernel) (Nat.le_of_ble_eq_true rfl) fun X hX hE => ?_
  have hX : Ok E X "DeltaFerry" "at" cd_Df_at 3 (some (.int)) (rl 1) := hX
  refine G_cast (lv' := [(0, .ref (eA E 0)), (1, .int (zI k)), (2, .int (zI n))]) ?_ rfl rfl rfl rfl
  refine G_iload_n hX 1 rfl rfl d_Df_at_0 ?_
  refine F_callS hX (st := []) (c_Df_isFile E f k (by omega)) cm_Df_isFile sm_Df_isFile ml_Df_98 d_Df_at_1 rfl rfl (Nat.le_of_ble_eq_true rfl) (by decide) ?_
  rintro _ f1 ⟨rfl, e4⟩
  obtain rfl := e4.symm
  refine G_cast (st' := [.int (zI (if 0 ≤ k ∧ k ≤ 3 then 1 else 0))]) ?_ rfl rfl rfl rfl
  refine G_top (show zI (if 0 ≤ k ∧ k ≤ 3 then 1 else 0) = zI 0 from by rw [if_neg (by omega)]) ?_
  refine G_if_eq_z hX (tgt := 34) d_Df_at_4 rfl (by omega) (fun c5 => ?_) (fun c6 => by exfalso; omega)
  refine G_iconst hX d_Df_at_34 ?_
  exact F_iret hX hE d_Df_at_35 ⟨rfl, rfl⟩
theorem c_Df_digest_nf (E : EV) (f : Nat → va_E) (bk wi ns : Int) (n1 n2 : Int64) (k n v : Int) (hF : isDf E f bk wi ns n1 n2) (hk : k < 0 ∨ 3 < k) (hk2 : -2147483648 ≤ k ∧ k < 2147483648) : CF yn_Df_digest cd_Df_digest 3 (some (.long)) 3 E [.ref (eA E 0), .int (zI k), .int (zI n)] f (fun r f' => r = some (.long (zL 0)) ∧ f' = f) := by
  refine CF.of (by decide +kernel) (Nat.le_of_ble_eq_true rfl) fun X hX hE => ?_
  have hX : Ok E X "DeltaFerry" "digest" cd_Df_digest 3 (some (.long)) (rl 3) := hX
  refine G_cast (lv' := [(0, .ref (eA E 0)), (1, .int (zI k)), (2, .int (zI n))]) ?_ rfl rfl rfl rfl
  refine G_iload_n hX 1 rfl rfl d_Df_digest_0 ?_
  refine F_callS hX (st := []) (c_Df_isFile E f k (by omega)) cm_Df_isFile sm_Df_isFile ml_Df_98 d_Df_digest_1 rfl rfl (Nat.le_of_ble_eq_true rfl) (by decide) ?_
  rintro _ f1 ⟨rfl, e4⟩
  obtain rfl := e4.symm
  refine G_cast (st' := [.int (zI (if 0 ≤ k ∧ k ≤ 3 then 1 else 0))]) ?_ rfl rfl rfl rfl
  refine G_top (show zI (if 0 ≤ k ∧ k ≤ 3 then 1 else 0) = zI 0 from by rw [if_neg (by omega)]) ?_
  refine G_if_ne_z hX (tgt := 9) d_Df_digest_4 rfl (by omega) (fun c5 => by exfalso; omega) (fun c6 => ?_)
  refine G_lconst hX (v := zL 0) (by decide) d_Df_digest_7 ?_
  exact F_lret hX hE d_Df_digest_8 ⟨rfl, rfl⟩
theorem c_Df_sum_nf (E : EV) (f : Nat → va_E) (bk wi ns : Int) (n1 n2 : Int64) (k n v : Int) (hF : isDf E f bk wi ns n1 n2) (hk : k < 0 ∨ 3 < k) (hk2 : -2147483648 ≤ k ∧ k < 2147483648) : CF yn_Df_sum cd_Df_sum 5 (some (.long)) 1 E [.ref (eA E 0), .int (zI k), .int (zI n), .int (zI v)] f (fun r f' => r = some (.long (zL (-1))) ∧ f' = f) := by
  refine CF.of (by decide +kernel) (Nat.le_of_ble_eq_true rfl) fun X hX hE => ?_
  have hX : Ok E X "DeltaFerry" "sum" cd_Df_sum 5 (some (.long)) (rl 1) := hX
  refine G_cast (lv' := [(0, .ref (eA E 0)), (1, .int (zI k)), (2, .int (zI n)), (3, .int (zI v))]) ?_ rfl rfl rfl rfl
  refine G_iload_n hX 1 rfl rfl d_Df_sum_0 ?_
  refine F_callS hX (st := []) (c_Df_isFile E f k (by omega)) cm_Df_isFile sm_Df_isFile ml_Df_98 d_Df_sum_1 rfl rfl (Nat.le_of_ble_eq_true rfl) (by decide) ?_
  rintro _ f1 ⟨rfl, e4⟩
  obtain rfl := e4.symm
  refine G_cast (st' := [.int (zI (if 0 ≤ k ∧ k ≤ 3 then 1 else 0))]) ?_ rfl rfl rfl rfl
  refine G_top (show zI (if 0 ≤ k ∧ k ≤ 3 then 1 else 0) = zI 0 from by rw [if_neg (by omega)]) ?_
  refine G_if_eq_z hX (tgt := 15) d_Df_sum_4 rfl (by omega) (fun c5 => ?_) (fun c6 => by exfalso; omega)
  refine G_ldc2 hX kn_Df_119 d_Df_sum_15 ?_
  refine G_topl (show (-1 : Int64) = zL (-1) from by decide) ?_
  exact F_lret hX hE d_Df_sum_18 ⟨rfl, rfl⟩
