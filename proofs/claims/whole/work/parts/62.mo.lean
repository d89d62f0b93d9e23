/-! DeltaFerryModel: reading; printed by wip/tools/m_mo11.py -/
theorem numL_4 {g : Int → Int} {e p : Int} (hg : isB g) (hp : p ≤ e) : -1 ≤ (numL g e 4 p 0).1 ∧ (numL g e 4 p 0).1 < 268435456 ∧ p ≤ (numL g e 4 p 0).2 ∧ (numL g e 4 p 0).2 ≤ e := by
  have h := numL_b hg 4 p 0 (Int.le_refl 0) hp
  exact ⟨h.1, by have h2 := h.2.1; rw [show (0 + 1 : Int) * 128 ^ 4 = 268435456 from rfl] at h2; exact h2, h.2.2⟩
theorem c_Mo_refuse (E : EV) (f : Nat → va_E) (F : Nat → Value) (y : Int) (hMo : f 61 = mob F) (hmk : moK E F) (hF32 : F 32 = .int (zI 0)) : CF yn_Mo_refuse cd_Mo_refuse 2 none 0 E [.ref (eA E 61), .int (zI y)] f (fun r f' => r = none ∧ ∃ (F' : Nat → Value), f' 61 = mob F' ∧ F' 32 = .int (zI y) ∧ FrF [32] F F' ∧ Fr [61] f f') := by
  refine CF.of (by decide +kernel) (Nat.le_of_ble_eq_true rfl) fun X hX hE => ?_
  have hX : Ok E X "DeltaFerryModel" "refuse" cd_Mo_refuse 2 none (rl 0) := hX
  refine G_cast (lv' := [(0, .ref (eA E 61)), (1, .int (zI y))]) ?_ rfl rfl rfl rfl
  refine G_aload_n hX 0 rfl rfl d_Mo_refuse_0 ?_
  refine G_aload_n hX 0 rfl rfl d_Mo_refuse_1 ?_
  refine M_get hX fg_Mo_345 d_Mo_refuse_2 hMo (by decide) hF32 ?_
  refine G_if_ne_z hX (tgt := 12) d_Mo_refuse_5 rfl (by omega) (fun c1 => by exfalso; omega) (fun c2 => ?_)
  refine G_iload_n hX 1 rfl rfl d_Mo_refuse_8 ?_
  refine G_goto hX (tgt := 16) d_Mo_refuse_9 rfl ?_
  refine M_put hX fg_Mo_345 fp_Mo_32 d_Mo_refuse_16 hMo rfl rfl (by decide) (fun f3 F4 h5 h6 k7 k8 => ?_)
  exact F_vret hX hE d_Mo_refuse_19 ⟨rfl, F4, h5, h6, (FrF.tr FrF.rf k7 (by decide)), (Fr.tr Fr.rf k8 (by decide))⟩
theorem c_Mo_refuse_f (E : EV) (f : Nat → va_E) (F : Nat → Value) (y : Int) (fl : Int) (hMo : f 61 = mob F) (hmk : moK E F) (hF32 : F 32 = .int (zI fl)) (hfl : fl ≠ 0 ∧ -10 ≤ fl ∧ fl ≤ 0) : CF yn_Mo_refuse cd_Mo_refuse 2 none 0 E [.ref (eA E 61), .int (zI y)] f (fun r f' => r = none ∧ ∃ (F' : Nat → Value), f' 61 = mob F' ∧ F' 32 = .int (zI fl) ∧ FrF [32] F F' ∧ Fr [61] f f') := by
  refine CF.of (by decide +kernel) (Nat.le_of_ble_eq_true rfl) fun X hX hE => ?_
  have hX : Ok E X "DeltaFerryModel" "refuse" cd_Mo_refuse 2 none (rl 0) := hX
  refine G_cast (lv' := [(0, .ref (eA E 61)), (1, .int (zI y))]) ?_ rfl rfl rfl rfl
  refine G_aload_n hX 0 rfl rfl d_Mo_refuse_0 ?_
  refine G_aload_n hX 0 rfl rfl d_Mo_refuse_1 ?_
  refine M_get hX fg_Mo_345 d_Mo_refuse_2 hMo (by decide) hF32 ?_
  refine G_if_ne_z hX (tgt := 12) d_Mo_refuse_5 rfl (by omega) (fun c1 => ?_) (fun c2 => by exfalso; omega)
  refine G_aload_n hX 0 rfl rfl d_Mo_refuse_12 ?_
  refine M_get hX fg_Mo_345 d_Mo_refuse_13 hMo (by decide) hF32 ?_
  refine M_put hX fg_Mo_345 fp_Mo_32 d_Mo_refuse_16 hMo rfl rfl (by decide) (fun f3 F4 h5 h6 k7 k8 => ?_)
  exact F_vret hX hE d_Mo_refuse_19 ⟨rfl, F4, h5, h6, (FrF.tr FrF.rf k7 (by decide)), (Fr.tr Fr.rf k8 (by decide))⟩
theorem c_Mo_readByte_ok (E : EV) (f : Nat → va_E) (F : Nat → Value) (p : Int) (e : Int) (b : Int → Int) (g : Int → Int) (sE : Int) (hMo : f 61 = mob F) (hmk : moK E F) (hF30 : F 30 = .int (zI p)) (hF31 : F 31 = .int (zI e)) (hF32 : F 32 = .int (zI 0)) (hc63 : f 63 = iz E 1600 b) (hG : isB g) (hgb : ∀ i, 0 ≤ i → i < sE → b (600 + i) = g i) (hp : 0 ≤ p ∧ p < e ∧ e ≤ sE ∧ sE ≤ 700) : CF yn_Mo_readByte cd_Mo_readByte 1 (some (.int)) 1 E [.ref (eA E 61)] f (fun r f' => r = some (.int (zI (g p))) ∧ ∃ (F' : Nat → Value), f' 61 = mob F' ∧ F' 30 = .int (zI (p + 1)) ∧ FrF [30] F F' ∧ Fr [61] f f') := by
  refine CF.of (by decide +kernel) (Nat.le_of_ble_eq_true rfl) fun X hX hE => ?_
  have hX : Ok E X "DeltaFerryModel" "readByte" cd_Mo_readByte 1 (some (.int)) (rl 1) := hX
  refine G_cast (lv' := [(0, .ref (eA E 61))]) ?_ rfl rfl rfl rfl
  refine G_aload_n hX 0 rfl rfl d_Mo_readByte_0 ?_
  refine M_get hX fg_Mo_345 d_Mo_readByte_1 hMo (by decide) hF32 ?_
  refine G_if_ne_z hX (tgt := 18) d_Mo_readByte_4 rfl (by omega) (fun c1 => by exfalso; omega) (fun c2 => ?_)
  refine G_aload_n hX 0 rfl rfl d_Mo_readByte_7 ?_
  refine M_get hX fg_Mo_348 d_Mo_readByte_8 hMo (by decide) hF30 ?_
  refine G_aload_n hX 0 rfl rfl d_Mo_readByte_11 ?_
  refine M_get hX fg_Mo_351 d_Mo_readByte_12 hMo (by decide) hF31 ?_
  refine G_icmp_lt_z hX (tgt := 26) d_Mo_readByte_15 rfl (by omega) (fun c3 => ?_) (fun c4 => by exfalso; omega)
  refine G_aload_n hX 0 rfl rfl d_Mo_readByte_26 ?_
  refine G_dup hX rfl d_Mo_readByte_27 ?_
  refine M_get hX fg_Mo_348 d_Mo_readByte_28 hMo (by decide) hF30 ?_
  refine G_iconst hX d_Mo_readByte_31 ?_
  refine G_iadd_z hX d_Mo_readByte_32 ?_
  refine M_put hX fg_Mo_348 fp_Mo_30 d_Mo_readByte_33 hMo rfl rfl (by decide) (fun f5 F6 h7 h8 k9 k10 => ?_)
  refine G_aload_n hX 0 rfl rfl d_Mo_readByte_36 ?_
  have h11 : F6 1 = .ref (eA E 63) := (k9 1 (by decide)).trans (hmk 1 63 (by decide))
  refine M_get hX fg_Mo_77 d_Mo_readByte_37 h7 (by decide) h11 ?_
  refine G_sipush hX (by decide) d_Mo_readByte_40 ?_
  refine G_aload_n hX 0 rfl rfl d_Mo_readByte_43 ?_
  refine M_get hX fg_Mo_348 d_Mo_readByte_44 h7 (by decide) h8 ?_
  refine G_iadd_z hX d_Mo_readByte_47 ?_
  have h12 : f5 63 = iz E 1600 b := (k10 63 (by decide)).trans hc63
  refine F_iald hX d_Mo_readByte_48 63 (by decide) h12 (by omega) ?_
  refine G_top (show zI (b (599 + (p + 1))) = zI (g p) from congrArg zI ((congrArg b (by omega)).trans (hgb p (by omega) (by omega)))) ?_
  exact F_iret hX hE d_Mo_readByte_49 ⟨rfl, F6, h7, h8, (FrF.tr FrF.rf k9 (by decide)), (Fr.tr Fr.rf k10 (by decide))⟩
theorem c_Mo_readByte_no (E : EV) (f : Nat → va_E) (F : Nat → Value) (p : Int) (e : Int) (hMo : f 61 = mob F) (hmk : moK E F) (hF30 : F 30 = .int (zI p)) (hF31 : F 31 = .int (zI e)) (hF32 : F 32 = .int (zI 0)) (hp : e ≤ p ∧ -2147483648 ≤ e ∧ p < 2147483648) : CF yn_Mo_readByte cd_Mo_readByte 1 (some (.int)) 1 E [.ref (eA E 61)] f (fun r f' => r = some (.int (zI 0)) ∧ ∃ (F' : Nat → Value), f' 61 = mob F' ∧ F' 32 = .int (zI (-2)) ∧ FrF [32] F F' ∧ Fr [61] f f') := by
  refine CF.of (by decide +kernel) (Nat.le_of_ble_eq_true rfl) fun X hX hE => ?_
  have hX : Ok E X "DeltaFerryModel" "readByte" cd_Mo_readByte 1 (some (.int)) (rl 1) := hX
  refine G_cast (lv' := [(0, .ref (eA E 61))]) ?_ rfl rfl rfl rfl
  refine G_aload_n hX 0 rfl rfl d_Mo_readByte_0 ?_
  refine M_get hX fg_Mo_345 d_Mo_readByte_1 hMo (by decide) hF32 ?_
  refine G_if_ne_z hX (tgt := 18) d_Mo_readByte_4 rfl (by omega) (fun c1 => by exfalso; omega) (fun c2 => ?_)
  refine G_aload_n hX 0 rfl rfl d_Mo_readByte_7 ?_
  refine M_get hX fg_Mo_348 d_Mo_readByte_8 hMo (by decide) hF30 ?_
  refine G_aload_n hX 0 rfl rfl d_Mo_readByte_11 ?_
  refine M_get hX fg_Mo_351 d_Mo_readByte_12 hMo (by decide) hF31 ?_
  refine G_icmp_lt_z hX (tgt := 26) d_Mo_readByte_15 rfl (by omega) (fun c3 => by exfalso; omega) (fun c4 => ?_)
  refine G_aload_n hX 0 rfl rfl d_Mo_readByte_18 ?_
  refine G_bipush hX (by decide) d_Mo_readByte_19 ?_
  refine F_callV hX (st := []) (c_Mo_refuse E f F (-2) hMo hmk hF32) cm_Mo_refuse im_Mo_refuse se_Mo_refuse rfl ml_Mo_354 d_Mo_readByte_21 (by decide) hMo rfl rfl (Nat.le_of_ble_eq_true rfl) (by decide) ?_
  rintro _ f5 ⟨rfl, F8, h9, h10, k11, k12⟩
  refine G_cast (st' := []) ?_ rfl rfl rfl rfl
  refine G_iconst hX d_Mo_readByte_24 ?_
  exact F_iret hX hE d_Mo_readByte_25 ⟨rfl, F8, h9, h10, (FrF.tr FrF.rf k11 (by decide)), (Fr.tr Fr.rf k12 (by decide))⟩
theorem c_Mo_readByte_f (E : EV) (f : Nat → va_E) (F : Nat → Value) (fl : Int) (hMo : f 61 = mob F) (hmk : moK E F) (hF32 : F 32 = .int (zI fl)) (hfl : fl ≠ 0 ∧ -10 ≤ fl ∧ fl ≤ 0) : CF yn_Mo_readByte cd_Mo_readByte 1 (some (.int)) 1 E [.ref (eA E 61)] f (fun r f' => r = some (.int (zI 0)) ∧ ∃ (F' : Nat → Value), f' 61 = mob F' ∧ F' 32 = .int (zI fl) ∧ FrF [32] F F' ∧ Fr [61] f f') := by
  refine CF.of (by decide +kernel) (Nat.le_of_ble_eq_true rfl) fun X hX hE => ?_
  have hX : Ok E X "DeltaFerryModel" "readByte" cd_Mo_readByte 1 (some (.int)) (rl 1) := hX
  refine G_cast (lv' := [(0, .ref (eA E 61))]) ?_ rfl rfl rfl rfl
  refine G_aload_n hX 0 rfl rfl d_Mo_readByte_0 ?_
  refine M_get hX fg_Mo_345 d_Mo_readByte_1 hMo (by decide) hF32 ?_
  refine G_if_ne_z hX (tgt := 18) d_Mo_readByte_4 rfl (by omega) (fun c1 => ?_) (fun c2 => by exfalso; omega)
  refine G_aload_n hX 0 rfl rfl d_Mo_readByte_18 ?_
  refine G_bipush hX (by decide) d_Mo_readByte_19 ?_
  refine F_callV hX (st := []) (c_Mo_refuse_f E f F (-2) fl hMo hmk hF32 (by omega)) cm_Mo_refuse im_Mo_refuse se_Mo_refuse rfl ml_Mo_354 d_Mo_readByte_21 (by decide) hMo rfl rfl (Nat.le_of_ble_eq_true rfl) (by decide) ?_
  rintro _ f3 ⟨rfl, F6, h7, h8, k9, k10⟩
  refine G_cast (st' := []) ?_ rfl rfl rfl rfl
  refine G_iconst hX d_Mo_readByte_24 ?_
  exact F_iret hX hE d_Mo_readByte_25 ⟨rfl, F6, h7, h8, (FrF.tr FrF.rf k9 (by decide)), (Fr.tr Fr.rf k10 (by decide))⟩
theorem c_Mo_readNumber_ok (E : EV) (f : Nat → va_E) (F : Nat → Value) (p : Int) (e : Int) (b : Int → Int) (g : Int → Int) (sE : Int) (hMo : f 61 = mob F) (hmk : moK E F) (hF30 : F 30 = .int (zI p)) (hF31 : F 31 = .int (zI e)) (hF32 : F 32 = .int (zI 0)) (hc63 : f 63 = iz E 1600 b) (hG : isB g) (hgb : ∀ i, 0 ≤ i → i < sE → b (600 + i) = g i) (hp : 0 ≤ p ∧ p ≤ e ∧ e ≤ sE ∧ sE ≤ 700) (hok : 0 ≤ (numL g e 4 p 0).1) : CF yn_Mo_readNumber cd_Mo_readNumber 5 (some (.int)) 2 E [.ref (eA E 61)] f (fun r f' => r = some (.int (zI ((numL g e 4 p 0).1))) ∧ ∃ (F' : Nat → Value), f' 61 = mob F' ∧ F' 30 = .int (zI ((numL g e 4 p 0).2)) ∧ FrF [30] F F' ∧ Fr [61] f f') := by
  refine CF.of (by decide +kernel) (Nat.le_of_ble_eq_true rfl) fun X hX hE => ?_
  have hX : Ok E X "DeltaFerryModel" "readNumber" cd_Mo_readNumber 5 (some (.int)) (rl 2) := hX
  refine G_cast (lv' := [(0, .ref (eA E 61))]) ?_ rfl rfl rfl rfl
  refine G_iconst hX d_Mo_readNumber_0 ?_
  refine G_istore_n hX (lv' := [(1, .int (zI 0)), (0, .ref (eA E 61))]) rfl (by decide) rfl d_Mo_readNumber_1 ?_
  refine G_iconst hX d_Mo_readNumber_2 ?_
  refine G_istore_n hX (lv' := [(2, .int (zI 0)), (1, .int (zI 0)), (0, .ref (eA E 61))]) rfl (by decide) rfl d_Mo_readNumber_3 ?_
  refine G_iconst hX d_Mo_readNumber_4 ?_
  refine G_istore_n hX (lv' := [(3, .int (zI 1)), (2, .int (zI 0)), (1, .int (zI 0)), (0, .ref (eA E 61))]) rfl (by decide) rfl d_Mo_readNumber_5 ?_
  have loop4 : ∀ (q : Nat) (t : Int) (x : Int) (v : Int) (F1 : Nat → Value) (f5 : Nat → va_E), (4 - t).toNat < q → (0 ≤ t ∧ t ≤ 3 ∧ 0 ≤ v ∧ v < 268435456 ∧ (t = 0 → v = 0) ∧ (t = 1 → v < 128) ∧ (t = 2 → v < 16384) ∧ (t = 3 → v < 2097152)) → (p ≤ x ∧ x ≤ e) → (numL g e 4 p 0 = numL g e (4 - t).toNat x v) → (F1 30 = .int (zI x)) → (FrF [30] F F1) → f5 61 = mob F1 → Fr [61] f f5 → G E X 0 0 6 [(0, .ref (eA E 61)), (1, .int (zI v)), (2, .int (zI t)), (3, .int (zI 1))] [] (wl E f5) := by
    intro q
    induction q with
    | zero => intro t x v F1 f5 hms7; exact absurd hms7 (Nat.not_lt_zero _)
    | succ q ih8 =>
      intro t x v F1 f5 hms7 ht hx hs h2 k3 h9 k6
      refine G_iload_n hX 3 rfl rfl d_Mo_readNumber_6 ?_
      refine G_if_eq_z hX (tgt := 69) d_Mo_readNumber_7 rfl (by omega) (fun c10 => by exfalso; omega) (fun c11 => ?_)
      refine G_aload_n hX 0 rfl rfl d_Mo_readNumber_10 ?_
      have h12 : F1 32 = .int (zI 0) := (k3 32 (by decide)).trans hF32
      refine M_get hX fg_Mo_345 d_Mo_readNumber_11 h9 (by decide) h12 ?_
      refine G_if_ne_z hX (tgt := 69) d_Mo_readNumber_14 rfl (by omega) (fun c13 => by exfalso; omega) (fun c14 => ?_)
      have ht4 : t < 4 := by omega
      have hxe : x < e := by by_cases q : x < e; exact q; rw [numL_end (Or.inr (by omega))] at hs; rw [hs] at hok; exact absurd hok (show ¬ (0 : Int) ≤ -1 by decide)
      have hbx := hG x
      refine G_aload_n hX 0 rfl rfl d_Mo_readNumber_17 ?_
      have h15 : F1 31 = .int (zI e) := (k3 31 (by decide)).trans hF31
      have h16 : f5 63 = iz E 1600 b := (k6 63 (by decide)).trans hc63
      refine F_callV hX (st := []) (c_Mo_readByte_ok E f5 F1 x e b g sE h9 (moK_fr hmk (FrF.tr (FrF.rf (S := [30])) k3 (by decide)) (by decide)) h2 h15 h12 h16 hG hgb (by omega)) cm_Mo_readByte im_Mo_readByte se_Mo_readByte rfl ml_Mo_357 d_Mo_readNumber_18 (by decide) h9 rfl rfl (Nat.le_of_ble_eq_true rfl) (by decide) ?_
      rintro _ f17 ⟨rfl, F20, h21, h22, k23, k24⟩
      refine G_cast (st' := [.int (zI (g x))]) ?_ rfl rfl rfl rfl
      refine G_istore hX (lv' := [(4, .int (zI (g x))), (0, .ref (eA E 61)), (1, .int (zI v)), (2, .int (zI t)), (3, .int (zI 1))]) (by decide) rfl d_Mo_readNumber_21 ?_
      refine G_sipush hX (by decide) d_Mo_readNumber_23 ?_
      refine G_iload_n hX 2 rfl rfl d_Mo_readNumber_26 ?_
      refine G_imul_z hX d_Mo_readNumber_27 ?_
      refine G_iload hX 0 rfl d_Mo_readNumber_28 ?_
      refine G_bipush hX (by decide) d_Mo_readNumber_30 ?_
      refine G_iand hX d_Mo_readNumber_32 ?_
      refine G_top (show (zI (g x) &&& zI 127) = zI (g x % 128) from zI_and127 _) ?_
      refine G_iadd_z hX d_Mo_readNumber_33 ?_
      refine G_istore_n hX (lv' := [(1, .int (zI ((128 * v) + (g x % 128)))), (4, .int (zI (g x))), (0, .ref (eA E 61)), (2, .int (zI t)), (3, .int (zI 1))]) rfl (by decide) rfl d_Mo_readNumber_34 ?_
      refine G_iinc_z hX (lv' := [(2, .int (zI (t + 1))), (1, .int (zI ((128 * v) + (g x % 128)))), (4, .int (zI (g x))), (0, .ref (eA E 61)), (3, .int (zI 1))]) 3 rfl (by decide) rfl d_Mo_readNumber_35 ?_
      refine G_iload hX 2 rfl d_Mo_readNumber_38 ?_
      refine G_bipush hX (by decide) d_Mo_readNumber_40 ?_
      refine G_icmp_le_z hX (tgt := 49) d_Mo_readNumber_42 rfl (by omega) (fun c25 => ?_) (fun c26 => ?_)
      · skip
        refine G_iconst hX d_Mo_readNumber_49 ?_
        refine G_istore_n hX (lv' := [(3, .int (zI 0)), (2, .int (zI (t + 1))), (1, .int (zI ((128 * v) + (g x % 128)))), (4, .int (zI (g x))), (0, .ref (eA E 61))]) rfl (by decide) rfl d_Mo_readNumber_50 ?_
        refine G_iload_n hX 0 rfl rfl d_Mo_readNumber_51 ?_
        refine G_if_eq_z hX (tgt := 66) d_Mo_readNumber_52 rfl (by omega) (fun c27 => ?_) (fun c28 => by exfalso; omega)
        refine G_goto hX (tgt := 6) d_Mo_readNumber_66 rfl ?_
        have h29 : F20 32 = .int (zI 0) := (k23 32 (by decide)).trans h12
        refine G_iload_n hX 0 rfl rfl d_Mo_readNumber_6 ?_
        refine G_if_eq_z hX (tgt := 69) d_Mo_readNumber_7 rfl (by omega) (fun c30 => ?_) (fun c31 => by exfalso; omega)
        refine G_iload_n hX 2 rfl rfl d_Mo_readNumber_69 ?_
        have hN := hs.trans (numL_stop (by omega) hxe (by omega))
        exact F_iret hX hE d_Mo_readNumber_70 ⟨by rw [hN, Int.mul_comm], F20, h21, (by rw [hN]; exact h22), (FrF.tr (FrF.tr FrF.rf k3 (by decide)) k23 (by decide)), (Fr.tr (Fr.tr Fr.rf k6 (by decide)) k24 (by decide))⟩
      · skip
        refine G_iconst hX d_Mo_readNumber_45 ?_
        refine G_goto hX (tgt := 50) d_Mo_readNumber_46 rfl ?_
        refine G_istore_n hX (lv' := [(3, .int (zI 1)), (2, .int (zI (t + 1))), (1, .int (zI ((128 * v) + (g x % 128)))), (4, .int (zI (g x))), (0, .ref (eA E 61))]) rfl (by decide) rfl d_Mo_readNumber_50 ?_
        refine G_iload_n hX 0 rfl rfl d_Mo_readNumber_51 ?_
        refine G_if_eq_z hX (tgt := 66) d_Mo_readNumber_52 rfl (by omega) (fun c32 => by exfalso; omega) (fun c33 => ?_)
        have ht5 : ¬ t + 1 = 4 := by intro q; rw [numL_go (by omega) hxe (by omega), numL_end (Or.inl (by omega))] at hs; rw [hs] at hok; exact absurd hok (show ¬ (0 : Int) ≤ -1 by decide)
        refine G_iload_n hX 1 rfl rfl d_Mo_readNumber_55 ?_
        refine G_iconst hX d_Mo_readNumber_56 ?_
        refine G_icmp_ne_z hX (tgt := 66) d_Mo_readNumber_57 rfl (by omega) (fun c34 => ?_) (fun c35 => by exfalso; omega)
        refine G_goto hX (tgt := 6) d_Mo_readNumber_66 rfl ?_
        have h36 : F20 32 = .int (zI 0) := (k23 32 (by decide)).trans h12
        refine G_loc (lv' := [(0, .ref (eA E 61)), (1, .int (zI ((128 * v) + (g x % 128)))), (2, .int (zI (t + 1))), (3, .int (zI 1))]) [4, 2, 1, 0] rfl ?_
        exact ih8 (t + 1) (x + 1) (128 * v + g x % 128) F20 f17 (by omega) (by omega) (by omega) (hs.trans ((numL_go (by omega) hxe (by omega)).trans (by rw [Int.mul_comm v 128]))) h22 (FrF.tr (FrF.tr FrF.rf k3 (by decide)) k23 (by decide)) h21 (Fr.tr (Fr.tr Fr.rf k6 (by decide)) k24 (by decide))
  refine G_loc (lv' := [(0, .ref (eA E 61)), (1, .int (zI 0)), (2, .int (zI 0)), (3, .int (zI 1))]) [3, 2, 1, 0] rfl ?_
  refine G_cast (loop4 (_ + 1) 0 p 0 F f (Nat.lt_succ_self _) (by decide) (by omega) rfl hF30 FrF.rf hMo Fr.rf) rfl (by rfl) rfl rfl
theorem c_Mo_readNumber_no (E : EV) (f : Nat → va_E) (F : Nat → Value) (p : Int) (e : Int) (b : Int → Int) (g : Int → Int) (sE : Int) (hMo : f 61 = mob F) (hmk : moK E F) (hF30 : F 30 = .int (zI p)) (hF31 : F 31 = .int (zI e)) (hF32 : F 32 = .int (zI 0)) (hc63 : f 63 = iz E 1600 b) (hG : isB g) (hgb : ∀ i, 0 ≤ i → i < sE → b (600 + i) = g i) (hp : 0 ≤ p ∧ p ≤ e ∧ e ≤ sE ∧ sE ≤ 700) (hok : (numL g e 4 p 0).1 < 0) : CF yn_Mo_readNumber cd_Mo_readNumber 5 (some (.int)) 2 E [.ref (eA E 61)] f (fun r f' => ∃ (F' : Nat → Value) (r' : Int) (p' : Int), r = some (.int (zI r')) ∧ f' 61 = mob F' ∧ F' 30 = .int (zI p') ∧ F' 32 = .int (zI (-2)) ∧ FrF [30, 32] F F' ∧ ((0 ≤ r' ∧ r' < 268435456) ∧ 0 ≤ p' ∧ p' ≤ 700) ∧ Fr [61] f f') := by
  refine CF.of (by decide +kernel) (Nat.le_of_ble_eq_true rfl) fun X hX hE => ?_
  have hX : Ok E X "DeltaFerryModel" "readNumber" cd_Mo_readNumber 5 (some (.int)) (rl 2) := hX
  refine G_cast (lv' := [(0, .ref (eA E 61))]) ?_ rfl rfl rfl rfl
  refine G_iconst hX d_Mo_readNumber_0 ?_
  refine G_istore_n hX (lv' := [(1, .int (zI 0)), (0, .ref (eA E 61))]) rfl (by decide) rfl d_Mo_readNumber_1 ?_
  refine G_iconst hX d_Mo_readNumber_2 ?_
  refine G_istore_n hX (lv' := [(2, .int (zI 0)), (1, .int (zI 0)), (0, .ref (eA E 61))]) rfl (by decide) rfl d_Mo_readNumber_3 ?_
  refine G_iconst hX d_Mo_readNumber_4 ?_
  refine G_istore_n hX (lv' := [(3, .int (zI 1)), (2, .int (zI 0)), (1, .int (zI 0)), (0, .ref (eA E 61))]) rfl (by decide) rfl d_Mo_readNumber_5 ?_
  have loop5 : ∀ (q : Nat) (t : Int) (x : Int) (v : Int) (F1 : Nat → Value) (f6 : Nat → va_E), (4 - t).toNat < q → (0 ≤ t ∧ t ≤ 3 ∧ 0 ≤ v ∧ v < 268435456 ∧ (t = 0 → v = 0) ∧ (t = 1 → v < 128) ∧ (t = 2 → v < 16384) ∧ (t = 3 → v < 2097152)) → (p ≤ x ∧ x ≤ e) → (numL g e 4 p 0 = numL g e (4 - t).toNat x v) → (F1 30 = .int (zI x)) → (F1 32 = .int (zI 0)) → (FrF [30, 32] F F1) → f6 61 = mob F1 → Fr [61] f f6 → G E X 0 0 6 [(0, .ref (eA E 61)), (1, .int (zI v)), (2, .int (zI t)), (3, .int (zI 1))] [] (wl E f6) := by
    intro q
    induction q with
    | zero => intro t x v F1 f6 hms8; exact absurd hms8 (Nat.not_lt_zero _)
    | succ q ih9 =>
      intro t x v F1 f6 hms8 ht hx hs h2 h3 k4 h10 k7
      refine G_iload_n hX 3 rfl rfl d_Mo_readNumber_6 ?_
      refine G_if_eq_z hX (tgt := 69) d_Mo_readNumber_7 rfl (by omega) (fun c11 => by exfalso; omega) (fun c12 => ?_)
      refine G_aload_n hX 0 rfl rfl d_Mo_readNumber_10 ?_
      refine M_get hX fg_Mo_345 d_Mo_readNumber_11 h10 (by decide) h3 ?_
      refine G_if_ne_z hX (tgt := 69) d_Mo_readNumber_14 rfl (by omega) (fun c13 => by exfalso; omega) (fun c14 => ?_)
      have ht4 : t < 4 := by omega
      by_cases hxe : x < e
      · skip
        have hbx := hG x
        refine G_aload_n hX 0 rfl rfl d_Mo_readNumber_17 ?_
        have h15 : F1 31 = .int (zI e) := (k4 31 (by decide)).trans hF31
        have h16 : f6 63 = iz E 1600 b := (k7 63 (by decide)).trans hc63
        refine F_callV hX (st := []) (c_Mo_readByte_ok E f6 F1 x e b g sE h10 (moK_fr hmk (FrF.tr (FrF.rf (S := [30, 32])) k4 (by decide)) (by decide)) h2 h15 h3 h16 hG hgb (by omega)) cm_Mo_readByte im_Mo_readByte se_Mo_readByte rfl ml_Mo_357 d_Mo_readNumber_18 (by decide) h10 rfl rfl (Nat.le_of_ble_eq_true rfl) (by decide) ?_
        rintro _ f17 ⟨rfl, F20, h21, h22, k23, k24⟩
        refine G_cast (st' := [.int (zI (g x))]) ?_ rfl rfl rfl rfl
        refine G_istore hX (lv' := [(4, .int (zI (g x))), (0, .ref (eA E 61)), (1, .int (zI v)), (2, .int (zI t)), (3, .int (zI 1))]) (by decide) rfl d_Mo_readNumber_21 ?_
        refine G_sipush hX (by decide) d_Mo_readNumber_23 ?_
        refine G_iload_n hX 2 rfl rfl d_Mo_readNumber_26 ?_
        refine G_imul_z hX d_Mo_readNumber_27 ?_
        refine G_iload hX 0 rfl d_Mo_readNumber_28 ?_
        refine G_bipush hX (by decide) d_Mo_readNumber_30 ?_
        refine G_iand hX d_Mo_readNumber_32 ?_
        refine G_top (show (zI (g x) &&& zI 127) = zI (g x % 128) from zI_and127 _) ?_
        refine G_iadd_z hX d_Mo_readNumber_33 ?_
        refine G_istore_n hX (lv' := [(1, .int (zI ((128 * v) + (g x % 128)))), (4, .int (zI (g x))), (0, .ref (eA E 61)), (2, .int (zI t)), (3, .int (zI 1))]) rfl (by decide) rfl d_Mo_readNumber_34 ?_
        refine G_iinc_z hX (lv' := [(2, .int (zI (t + 1))), (1, .int (zI ((128 * v) + (g x % 128)))), (4, .int (zI (g x))), (0, .ref (eA E 61)), (3, .int (zI 1))]) 3 rfl (by decide) rfl d_Mo_readNumber_35 ?_
        refine G_iload hX 2 rfl d_Mo_readNumber_38 ?_
        refine G_bipush hX (by decide) d_Mo_readNumber_40 ?_
        refine G_icmp_le_z hX (tgt := 49) d_Mo_readNumber_42 rfl (by omega) (fun c25 => by rw [numL_stop (by omega) hxe (by omega)] at hs; rw [hs] at hok; (have hok2 : v * 128 + g x % 128 < 0 := hok); omega) (fun c26 => ?_)
        refine G_iconst hX d_Mo_readNumber_45 ?_
        refine G_goto hX (tgt := 50) d_Mo_readNumber_46 rfl ?_
        refine G_istore_n hX (lv' := [(3, .int (zI 1)), (2, .int (zI (t + 1))), (1, .int (zI ((128 * v) + (g x % 128)))), (4, .int (zI (g x))), (0, .ref (eA E 61))]) rfl (by decide) rfl d_Mo_readNumber_50 ?_
        refine G_iload_n hX 0 rfl rfl d_Mo_readNumber_51 ?_
        refine G_if_eq_z hX (tgt := 66) d_Mo_readNumber_52 rfl (by omega) (fun c27 => by exfalso; omega) (fun c28 => ?_)
        refine G_iload_n hX 1 rfl rfl d_Mo_readNumber_55 ?_
        refine G_iconst hX d_Mo_readNumber_56 ?_
        refine G_icmp_ne_z hX (tgt := 66) d_Mo_readNumber_57 rfl (by omega) (fun c29 => ?_) (fun c30 => ?_)
        · skip
          refine G_goto hX (tgt := 6) d_Mo_readNumber_66 rfl ?_
          have h31 : F20 32 = .int (zI 0) := (k23 32 (by decide)).trans h3
          refine G_loc (lv' := [(0, .ref (eA E 61)), (1, .int (zI ((128 * v) + (g x % 128)))), (2, .int (zI (t + 1))), (3, .int (zI 1))]) [4, 2, 1, 0] rfl ?_
          exact ih9 (t + 1) (x + 1) (128 * v + g x % 128) F20 f17 (by omega) (by omega) (by omega) (hs.trans ((numL_go (by omega) hxe (by omega)).trans (by rw [Int.mul_comm v 128]))) h22 h31 (FrF.tr (FrF.tr FrF.rf k4 (by decide)) k23 (by decide)) h21 (Fr.tr (Fr.tr Fr.rf k7 (by decide)) k24 (by decide))
        · skip
          refine G_aload_n hX 4 rfl rfl d_Mo_readNumber_60 ?_
          refine G_bipush hX (by decide) d_Mo_readNumber_61 ?_
          have h32 : F20 32 = .int (zI 0) := (k23 32 (by decide)).trans h3
          refine F_callV hX (st := []) (c_Mo_refuse E f17 F20 (-2) h21 (moK_fr hmk (FrF.tr (FrF.tr (FrF.rf (S := [30, 32])) k4 (by decide)) k23 (by decide)) (by decide)) h32) cm_Mo_refuse im_Mo_refuse se_Mo_refuse rfl ml_Mo_354 d_Mo_readNumber_63 (by decide) h21 rfl rfl (Nat.le_of_ble_eq_true rfl) (by decide) ?_
          rintro _ f33 ⟨rfl, F36, h37, h38, k39, k40⟩
          refine G_cast (st' := []) ?_ rfl rfl rfl rfl
          refine G_goto hX (tgt := 6) d_Mo_readNumber_66 rfl ?_
          refine G_iload_n hX 0 rfl rfl d_Mo_readNumber_6 ?_
          refine G_if_eq_z hX (tgt := 69) d_Mo_readNumber_7 rfl (by omega) (fun c41 => by exfalso; omega) (fun c42 => ?_)
          refine G_aload_n hX 4 rfl rfl d_Mo_readNumber_10 ?_
          refine M_get hX fg_Mo_345 d_Mo_readNumber_11 h37 (by decide) h38 ?_
          refine G_if_ne_z hX (tgt := 69) d_Mo_readNumber_14 rfl (by omega) (fun c43 => ?_) (fun c44 => by exfalso; omega)
          refine G_iload_n hX 2 rfl rfl d_Mo_readNumber_69 ?_
          have h45 : F36 30 = .int (zI (x + 1)) := (k39 30 (by decide)).trans h22
          exact F_iret hX hE d_Mo_readNumber_70 ⟨F36, _, _, rfl, h37, h45, h38, (FrF.tr (FrF.tr (FrF.tr FrF.rf k4 (by decide)) k23 (by decide)) k39 (by decide)), by omega, (Fr.tr (Fr.tr (Fr.tr Fr.rf k7 (by decide)) k24 (by decide)) k40 (by decide))⟩
      · skip
        refine G_aload_n hX 0 rfl rfl d_Mo_readNumber_17 ?_
        have h46 : F1 31 = .int (zI e) := (k4 31 (by decide)).trans hF31
        refine F_callV hX (st := []) (c_Mo_readByte_no E f6 F1 x e h10 (moK_fr hmk (FrF.tr (FrF.rf (S := [30, 32])) k4 (by decide)) (by decide)) h2 h46 h3 (by omega)) cm_Mo_readByte im_Mo_readByte se_Mo_readByte rfl ml_Mo_357 d_Mo_readNumber_18 (by decide) h10 rfl rfl (Nat.le_of_ble_eq_true rfl) (by decide) ?_
        rintro _ f47 ⟨rfl, F50, h51, h52, k53, k54⟩
        refine G_cast (st' := [.int (zI 0)]) ?_ rfl rfl rfl rfl
        refine G_istore hX (lv' := [(4, .int (zI 0)), (0, .ref (eA E 61)), (1, .int (zI v)), (2, .int (zI t)), (3, .int (zI 1))]) (by decide) rfl d_Mo_readNumber_21 ?_
        refine G_sipush hX (by decide) d_Mo_readNumber_23 ?_
        refine G_iload_n hX 2 rfl rfl d_Mo_readNumber_26 ?_
        refine G_imul_z hX d_Mo_readNumber_27 ?_
        refine G_iload hX 0 rfl d_Mo_readNumber_28 ?_
        refine G_bipush hX (by decide) d_Mo_readNumber_30 ?_
        refine G_iand hX d_Mo_readNumber_32 ?_
        refine G_top (show (zI 0 &&& zI 127) = zI 0 from by decide) ?_
        refine G_iadd_z hX d_Mo_readNumber_33 ?_
        refine G_istore_n hX (lv' := [(1, .int (zI ((128 * v) + 0))), (4, .int (zI 0)), (0, .ref (eA E 61)), (2, .int (zI t)), (3, .int (zI 1))]) rfl (by decide) rfl d_Mo_readNumber_34 ?_
        refine G_iinc_z hX (lv' := [(2, .int (zI (t + 1))), (1, .int (zI ((128 * v) + 0))), (4, .int (zI 0)), (0, .ref (eA E 61)), (3, .int (zI 1))]) 3 rfl (by decide) rfl d_Mo_readNumber_35 ?_
        refine G_iload hX 2 rfl d_Mo_readNumber_38 ?_
        refine G_bipush hX (by decide) d_Mo_readNumber_40 ?_
        refine G_icmp_le_z hX (tgt := 49) d_Mo_readNumber_42 rfl (by omega) (fun c55 => ?_) (fun c56 => by exfalso; omega)
        refine G_iconst hX d_Mo_readNumber_49 ?_
        refine G_istore_n hX (lv' := [(3, .int (zI 0)), (2, .int (zI (t + 1))), (1, .int (zI ((128 * v) + 0))), (4, .int (zI 0)), (0, .ref (eA E 61))]) rfl (by decide) rfl d_Mo_readNumber_50 ?_
        refine G_iload_n hX 0 rfl rfl d_Mo_readNumber_51 ?_
        refine G_if_eq_z hX (tgt := 66) d_Mo_readNumber_52 rfl (by omega) (fun c57 => ?_) (fun c58 => by exfalso; omega)
        refine G_goto hX (tgt := 6) d_Mo_readNumber_66 rfl ?_
        refine G_iload_n hX 0 rfl rfl d_Mo_readNumber_6 ?_
        refine G_if_eq_z hX (tgt := 69) d_Mo_readNumber_7 rfl (by omega) (fun c59 => ?_) (fun c60 => by exfalso; omega)
        refine G_iload_n hX 2 rfl rfl d_Mo_readNumber_69 ?_
        have h61 : F50 30 = .int (zI x) := (k53 30 (by decide)).trans h2
        exact F_iret hX hE d_Mo_readNumber_70 ⟨F50, _, _, rfl, h51, h61, h52, (FrF.tr (FrF.tr FrF.rf k4 (by decide)) k53 (by decide)), by omega, (Fr.tr (Fr.tr Fr.rf k7 (by decide)) k54 (by decide))⟩
  refine G_loc (lv' := [(0, .ref (eA E 61)), (1, .int (zI 0)), (2, .int (zI 0)), (3, .int (zI 1))]) [3, 2, 1, 0] rfl ?_
  refine G_cast (loop5 (_ + 1) 0 p 0 F f (Nat.lt_succ_self _) (by decide) (by omega) rfl hF30 hF32 FrF.rf hMo Fr.rf) rfl (by rfl) rfl rfl
theorem c_Mo_readNumber_f (E : EV) (f : Nat → va_E) (F : Nat → Value) (fl : Int) (hMo : f 61 = mob F) (hmk : moK E F) (hF32 : F 32 = .int (zI fl)) (hfl : fl ≠ 0 ∧ -10 ≤ fl ∧ fl ≤ 0) : CF yn_Mo_readNumber cd_Mo_readNumber 5 (some (.int)) 2 E [.ref (eA E 61)] f (fun r f' => r = some (.int (zI 0)) ∧ f' = f) := by
  refine CF.of (by decide +kernel) (Nat.le_of_ble_eq_true rfl) fun X hX hE => ?_
  have hX : Ok E X "DeltaFerryModel" "readNumber" cd_Mo_readNumber 5 (some (.int)) (rl 2) := hX
  refine G_cast (lv' := [(0, .ref (eA E 61))]) ?_ rfl rfl rfl rfl
  refine G_iconst hX d_Mo_readNumber_0 ?_
  refine G_istore_n hX (lv' := [(1, .int (zI 0)), (0, .ref (eA E 61))]) rfl (by decide) rfl d_Mo_readNumber_1 ?_
  refine G_iconst hX d_Mo_readNumber_2 ?_
  refine G_istore_n hX (lv' := [(2, .int (zI 0)), (1, .int (zI 0)), (0, .ref (eA E 61))]) rfl (by decide) rfl d_Mo_readNumber_3 ?_
  refine G_iconst hX d_Mo_readNumber_4 ?_
  refine G_istore_n hX (lv' := [(3, .int (zI 1)), (2, .int (zI 0)), (1, .int (zI 0)), (0, .ref (eA E 61))]) rfl (by decide) rfl d_Mo_readNumber_5 ?_
  refine G_iload_n hX 0 rfl rfl d_Mo_readNumber_6 ?_
  refine G_if_eq_z hX (tgt := 69) d_Mo_readNumber_7 rfl (by omega) (fun c1 => by exfalso; omega) (fun c2 => ?_)
  refine G_aload_n hX 3 rfl rfl d_Mo_readNumber_10 ?_
  refine M_get hX fg_Mo_345 d_Mo_readNumber_11 hMo (by decide) hF32 ?_
  refine G_if_ne_z hX (tgt := 69) d_Mo_readNumber_14 rfl (by omega) (fun c3 => ?_) (fun c4 => by exfalso; omega)
  refine G_iload_n hX 2 rfl rfl d_Mo_readNumber_69 ?_
  exact F_iret hX hE d_Mo_readNumber_70 ⟨rfl, rfl⟩
