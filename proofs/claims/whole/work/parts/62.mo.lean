/-! DeltaFerryModel: reading; printed by wip/tools/m_mo11.py -/
theorem numL_4 {g : Int → Int} {e p : Int} (hg : isB g) (hp : p ≤ e) : -1 ≤ (numL g e 4 p 0).1 ∧ (numL g e 4 p 0).1 < 268435456 ∧ p ≤ (numL g e 4 p 0).2 ∧ (numL g e 4 p 0).2 ≤ e := by
  have h := numL_b hg 4 p 0 (Int.le_refl 0) hp
  exact ⟨h.1, by have h2 := h.2.1; rw [show (0 + 1 : Int) * 128 ^ 4 = 268435456 from rfl] at h2; exact h2, h.2.2⟩
theorem c_Mo_refuse (E : EV) (f : Nat → va_E) (F : Nat → Value) (y : Int) (hMo : f 61 = mob F) (hmk : moK E F) (hF32 : F 32 = .int (zI 0)) : CF yn_Mo_refuse cd_Mo_refuse 2 none 0 E [.ref (eA E 61), .int (zI y)] f (fun r f' => r = none ∧ ∃ (F' : Nat → Value), f' 61 = mob F' ∧ F' 32 = .int (zI y) ∧ FrF [32] F F' ∧ Fr [61] f f') := by
  refine CF.of (by decide +kernel) (Nat.le_of_ble_eq_true rfl) fun X hX hE => ?_
  have hX : Ok E X "DeltaFerryModel" "refuse" cd_Mo_refuse 2 none (rl 0) := hX
  refine G_cast (lv' := [(0, .ref (eA E 61)), (1, .int (zI y))]) ?_ rfl rfl rfl rfl
  refine G_aload_n hX 0 rfl rfl d_Mo_refuse_0 ?_
  refine G_aload_n hX 0 rfl rfl d_Mo_refuse_1 ?_
  refine M_get hX fg_Mo_345 d_Mo_refuse_2 hMo (by decide) hF32 ?_
  refine G_if_ne_z hX (tgt := 12) d_Mo_refuse_5 rfl (by omega) (fun c1 => by exfalso; omega) (fun c2 => ?_)
  refine G_iload_n hX 1 rfl rfl d_Mo_refuse_8 ?_
  refine G_goto hX (tgt := 16) d_Mo_refuse_9 rfl ?_
  refine M_put hX fg_Mo_345 fp_Mo_32 d_Mo_refuse_16 hMo rfl rfl (by decide) (fun f3 F4 h5 h6 k7 k8 => ?_)
  exact F_vret hX hE d_Mo_refuse_19 ⟨rfl, F4, h5, h6, (FrF.tr FrF.rf k7 (by decide)), (Fr.tr Fr.rf k8 (by decide))⟩
theorem c_Mo_refuse_f (E : EV) (f : Nat → va_E) (F : Nat → Value) (y : Int) (fl : Int) (hMo : f 61 = mob F) (hmk : moK E F) (hF32 : F 32 = .int (zI fl)) (hfl : fl ≠ 0 ∧ -10 ≤ fl ∧ fl ≤ 0) : CF yn_Mo_refuse cd_Mo_refuse 2 none 0 E [.ref (eA E 61), .int (zI y)] f (fun r f' => r = none ∧ ∃ (F' : Nat → Value), f' 61 = mob F' ∧ F' 32 = .int (zI fl) ∧ FrF [32] F F' ∧ Fr [61] f f') := by
  refine CF.of (by decide +kernel) (Nat.le_of_ble_eq_true rfl) fun X hX hE => ?_
  have hX : Ok E X "DeltaFerryModel" "refuse" cd_Mo_refuse 2 none (rl 0) := hX
  refine G_cast (lv' := [(0, .ref (eA E 61)), (1, .int (zI y))]) ?_ rfl rfl rfl rfl
  refine G_aload_n hX 0 rfl rfl d_Mo_refuse_0 ?_
  refine G_aload_n hX 0 rfl rfl d_Mo_refuse_1 ?_
  refine M_get hX fg_Mo_345 d_Mo_refuse_2 hMo (by decide) hF32 ?_
  refine G_if_ne_z hX (tgt := 12) d_Mo_refuse_5 rfl (by omega) (fun c1 => ?_) (fun c2 => by exfalso; omega)
  refine G_aload_n hX 0 rfl rfl d_Mo_refuse_12 ?_
  refine M_get hX fg_Mo_345 d_Mo_refuse_13 hMo (by decide) hF32 ?_
  refine M_put hX fg_Mo_345 fp_Mo_32 d_Mo_refuse_16 hMo rfl rfl (by decide) (fun f3 F4 h5 h6 k7 k8 => ?_)
  exact F_vret hX hE d_Mo_refuse_19 ⟨rfl, F4, h5, h6, (FrF.tr FrF.rf k7 (by decide)), (Fr.tr Fr.rf k8 (by decide))⟩
theorem c_Mo_readByte_ok (E : EV) (f : Nat → va_E) (F : Nat → Value) (p : Int) (e : Int) (b : Int → Int) (g : Int → Int) (sE : Int) (hMo : f 61 = mob F) (hmk : moK E F) (hF30 : F 30 = .int (zI p)) (hF31 : F 31 = .int (zI e)) (hF32 : F 32 = .int (zI 0)) (hc63 : f 63 = iz E 1600 b) (hG : isB g) (hgb : ∀ i, 0 ≤ i → i < sE → b (600 + i) = g i) (hp : 0 ≤ p ∧ p < e ∧ e ≤ sE ∧ sE ≤ 700) : CF yn_Mo_readByte cd_Mo_readByte 1 (some (.int)) 1 E [.ref (eA E 61)] f (fun r f' => r = some (.int (zI (g p))) ∧ ∃ (F' : Nat → Value), f' 61 = mob F' ∧ F' 30 = .int (zI (p + 1)) ∧ FrF [30] F F' ∧ Fr [61] f f') := by
  refine CF.of (by decide +kernel) (Nat.le_of_ble_eq_true rfl) fun X hX hE => ?_
  have hX : Ok E X "DeltaFerryModel" "readByte" cd_Mo_readByte 1 (some (.int)) (rl 1) := hX
  refine G_cast (lv' := [(0, .ref (eA E 61))]) ?_ rfl rfl rfl rfl
  refine G_aload_n hX 0 rfl rfl d_Mo_readByte_0 ?_
  refine M_get hX fg_Mo_345 d_Mo_readByte_1 hMo (by decide) hF32 ?_
  refine G_if_ne_z hX (tgt := 18) d_Mo_readByte_4 rfl (by omega) (fun c1 => by exfalso; omega) (fun c2 => ?_)
  refine G_aload_n hX 0 rfl rfl d_Mo_readByte_7 ?_
  refine M_get hX fg_Mo_348 d_Mo_readByte_8 hMo (by decide) hF30 ?_
  refine G_aload_n hX 0 rfl rfl d_Mo_readByte_11 ?_
  refine M_get hX fg_Mo_351 d_Mo_readByte_12 hMo (by decide) hF31 ?_
  refine G_icmp_lt_z hX (tgt := 26) d_Mo_readByte_15 rfl (by omega) (fun c3 => ?_) (fun c4 => by exfalso; omega)
  refine G_aload_n hX 0 rfl rfl d_Mo_readByte_26 ?_
  refine G_dup hX rfl d_Mo_readByte_27 ?_
  refine M_get hX fg_Mo_348 d_Mo_readByte_28 hMo (by decide) hF30 ?_
  refine G_iconst hX d_Mo_readByte_31 ?_
  refine G_iadd_z hX d_Mo_readByte_32 ?_
  refine M_put hX fg_Mo_348 fp_Mo_30 d_Mo_readByte_33 hMo rfl rfl (by decide) (fun f5 F6 h7 h8 k9 k10 => ?_)
  refine G_aload_n hX 0 rfl rfl d_Mo_readByte_36 ?_
  have h11 : F6 1 = .ref (eA E 63) := (k9 1 (by decide)).trans (hmk 1 63 (by decide))
  refine M_get hX fg_Mo_77 d_Mo_readByte_37 h7 (by decide) h11 ?_
  refine G_sipush hX (by decide) d_Mo_readByte_40 ?_
  refine G_aload_n hX 0 rfl rfl d_Mo_readByte_43 ?_
  refine M_get hX fg_Mo_348 d_Mo_readByte_44 h7 (by decide) h8 ?_
  refine G_iadd_z hX d_Mo_readByte_47 ?_
  have h12 : f5 63 = iz E 1600 b := (k10 63 (by decide)).trans hc63
  refine F_iald hX d_Mo_readByte_48 63 (by decide) h12 (by omega) ?_
  refine G_top (show zI (b (599 + (p + 1))) = zI (g p) from congrArg zI ((congrArg b (by omega)).trans (hgb p (by omega) (by omega)))) ?_
  exact F_iret hX hE d_Mo_readByte_49 ⟨rfl, F6, h7, h8, (FrF.tr FrF.rf k9 (by decide)), (Fr.tr Fr.rf k10 (by decide))⟩
theorem c_Mo_readByte_no (E : EV) (f : Nat → va_E) (F : Nat → Value) (p : Int) (e : Int) (hMo : f 61 = mob F) (hmk : moK E F) (hF30 : F 30 = .int (zI p)) (hF31 : F 31 = .int (zI e)) (hF32 : F 32 = .int (zI 0)) (hp : e ≤ p ∧ -2147483648 ≤ e ∧ p < 2147483648) : CF yn_Mo_readByte cd_Mo_readByte 1 (some (.int)) 1 E [.ref (eA E 61)] f (fun r f' => r = some (.int (zI 0)) ∧ ∃ (F' : Nat → Value), f' 61 = mob F' ∧ F' 32 = .int (zI (-2)) ∧ FrF [32] F F' ∧ Fr [61] f f') := by
  refine CF.of (by decide +kernel) (Nat.le_of_ble_eq_true rfl) fun X hX hE => ?_
  have hX : Ok E X "DeltaFerryModel" "readByte" cd_Mo_readByte 1 (some (.int)) (rl 1) := hX
  refine G_cast (lv' := [(0, .ref (eA E 61))]) ?_ rfl rfl rfl rfl
  refine G_aload_n hX 0 rfl rfl d_Mo_readByte_0 ?_
  refine M_get hX fg_Mo_345 d_Mo_readByte_1 hMo (by decide) hF32 ?_
  refine G_if_ne_z hX (tgt := 18) d_Mo_readByte_4 rfl (by omega) (fun c1 => by exfalso; omega) (fun c2 => ?_)
  refine G_aload_n hX 0 rfl rfl d_Mo_readByte_7 ?_
  refine M_get hX fg_Mo_348 d_Mo_readByte_8 hMo (by decide) hF30 ?_
  refine G_aload_n hX 0 rfl rfl d_Mo_readByte_11 ?_
  refine M_get hX fg_Mo_351 d_Mo_readByte_12 hMo (by decide) hF31 ?_
  refine G_icmp_lt_z hX (tgt := 26) d_Mo_readByte_15 rfl (by omega) (fun c3 => by exfalso; omega) (fun c4 => ?_)
  refine G_aload_n hX 0 rfl rfl d_Mo_readByte_18 ?_
  refine G_bipush hX (by decide) d_Mo_readByte_19 ?_
  refine F_callV hX (st := []) (c_Mo_refuse E f F (-2) hMo hmk hF32) cm_Mo_refuse im_Mo_refuse se_Mo_refuse rfl ml_Mo_354 d_Mo_readByte_21 (by decide) hMo rfl rfl (Nat.le_of_ble_eq_true rfl) (by decide) ?_
  rintro _ f5 ⟨rfl, F8, h9, h10, k11, k12⟩
  refine G_cast (st' := []) ?_ rfl rfl rfl rfl
  refine G_iconst hX d_Mo_readByte_24 ?_
  exact F_iret hX hE d_Mo_readByte_25 ⟨rfl, F8, h9, h10, (FrF.tr FrF.rf k11 (by decide)), (Fr.tr Fr.rf k12 (by decide))⟩
theorem c_Mo_readByte_f (E : EV) (f : Nat → va_E) (F : Nat → Value) (fl : Int) (hMo : f 61 = mob F) (hmk : moK E F) (hF32 : F 32 = .int (zI fl)) (hfl : fl ≠ 0 ∧ -10 ≤ fl ∧ fl ≤ 0) : CF yn_Mo_readByte cd_Mo_readByte 1 (some (.int)) 1 E [.ref (eA E 61)] f (fun r f' => r = some (.int (zI 0)) ∧ ∃ (F' : Nat → Value), f' 61 = mob F' ∧ F' 32 = .int (zI fl) ∧ FrF [32] F F' ∧ Fr [61] f f') := by
  refine CF.of (by decide +kernel) (Nat.le_of_ble_eq_true rfl) fun X hX hE => ?_
  have hX : Ok E X "DeltaFerryModel" "readByte" cd_Mo_readByte 1 (some (.int)) (rl 1) := hX
  refine G_cast (lv' := [(0, .ref (eA E 61))]) ?_ rfl rfl rfl rfl
  refine G_aload_n hX 0 rfl rfl d_Mo_readByte_0 ?_
  refine M_get hX fg_Mo_345 d_Mo_readByte_1 hMo (by decide) hF32 ?_
  refine G_if_ne_z hX (tgt := 18) d_Mo_readByte_4 rfl (by omega) (fun c1 => ?_) (fun c2 => by exfalso; omega)
  refine G_aload_n hX 0 rfl rfl d_Mo_readByte_18 ?_
  refine G_bipush hX (by decide) d_Mo_readByte_19 ?_
  refine F_callV hX (st := []) (c_Mo_refuse_f E f F (-2) fl hMo hmk hF32 (by omega)) cm_Mo_refuse im_Mo_refuse se_Mo_refuse rfl ml_Mo_354 d_Mo_readByte_21 (by decide) hMo rfl rfl (Nat.le_of_ble_eq_true rfl) (by decide) ?_
  rintro _ f3 ⟨rfl, F6, h7, h8, k9, k10⟩
  refine G_cast (st' := []) ?_ rfl rfl rfl rfl
  refine G_iconst hX d_Mo_readByte_24 ?_
  exact F_iret hX hE d_Mo_readByte_25 ⟨rfl, F6, h7, h8, (FrF.tr FrF.rf k9 (by decide)), (Fr.tr Fr.rf k10 (by decide))⟩
theorem c_Mo_readNumber_ok (E : EV) (f : Nat → va_E) (F : Nat → Value) (p : Int) (e : Int) (b : Int → Int) (g : Int → Int) (sE : Int) (hMo : f 61 = mob F) (hmk : moK E F) (hF30 : F 30 = .int (zI p)) (hF31 : F 31 = .int (zI e)) (hF32 : F 32 = .int (zI 0)) (hc63 : f 63 = iz E 1600 b) (hG : isB g) (hgb : ∀ i, 0 ≤ i → i < sE → b (600 + i) = g i) (hp : 0 ≤ p ∧ p ≤ e ∧ e ≤ sE ∧ sE ≤ 700) (hok : 0 ≤ (numL g e 4 p 0).1) : CF yn_Mo_readNumber cd_Mo_readNumber 5 (some (.int)) 2 E [.ref (eA E 61)] f (fun r f' => r = some (.int (zI ((numL g e 4 p 0).1))) ∧ ∃ (F' : Nat → Value), f' 61 = mob F' ∧ F' 30 = .int (zI ((numL g e 4 p 0).2)) ∧ FrF [30] F F' ∧ Fr [61] f f') := by
  refine CF.of (by decide +kernel) (Nat.le_of_ble_eq_true rfl) fun X hX hE => ?_
  have hX : Ok E X "DeltaFerryModel" "readNumber" cd_Mo_readNumber 5 (some (.int)) (rl 2) := hX
  refine G_cast (lv' := [(0, .ref (eA E 61))]) ?_ rfl rfl rfl rfl
  refine G_iconst hX d_Mo_readNumber_0 ?_
  refine G_istore_n hX (lv' := [(1, .int (zI 0)), (0, .ref (eA E 61))]) rfl (by decide) rfl d_Mo_readNumber_1 ?_
  refine G_iconst hX d_Mo_readNumber_2 ?_
  refine G_istore_n hX (lv' := [(2, .int (zI 0)), (1, .int (zI 0)), (0, .ref (eA E 61))]) rfl (by decide) rfl d_Mo_readNumber_3 ?_
  refine G_iconst hX d_Mo_readNumber_4 ?_
  refine G_istore_n hX (lv' := [(3, .int (zI 1)), (2, .int (zI 0)), (1, .int (zI 0)), (0, .ref (eA E 61))]) rfl (by decide) rfl d_Mo_readNumber_5 ?_
  have loop4 : ∀ (q : Nat) (t : Int) (x : Int) (v : Int) (F1 : Nat → Value) (f5 : Nat → va_E), (4 - t).toNat < q → (0 ≤ t ∧ t ≤ 3 ∧ 0 ≤ v ∧ v < 268435456 ∧ (t = 0 → v = 0) ∧ (t = 1 → v < 128) ∧ (t = 2 → v < 16384) ∧ (t = 3 → v < 2097152)) → (p ≤ x ∧ x ≤ e) → (numL g e 4 p 0 = numL g e (4 - t).toNat x v) → (F1 30 = .int (zI x)) → (FrF [30] F F1) → f5 61 = mob F1 → Fr [61] f f5 → G E X 0 0 6 [(0, .ref (eA E 61)), (1, .int (zI v)), (2, .int (zI t)), (3, .int (zI 1))] [] (wl E f5) := by
    intro q
    induction q with
    | zero => intro t x v F1 f5 hms7; exact absurd hms7 (Nat.not_lt_zero _)
    | succ q ih8 =>
      intro t x v F1 f5 hms7 ht hx hs h2 k3 h9 k6
      refine G_iload_n hX 3 rfl rfl d_Mo_readNumber_6 ?_
      refine G_if_eq_z hX (tgt := 69) d_Mo_readNumber_7 rfl (by omega) (fun c10 => by exfalso; omega) (fun c11 => ?_)
      refine G_aload_n hX 0 rfl rfl d_Mo_readNumber_10 ?_
      have h12 : F1 32 = .int (zI 0) := (k3 32 (by decide)).trans hF32
      refine M_get hX fg_Mo_345 d_Mo_readNumber_11 h9 (by decide) h12 ?_
      refine G_if_ne_z hX (tgt := 69) d_Mo_readNumber_14 rfl (by omega) (fun c13 => by exfalso; omega) (fun c14 => ?_)
      have ht4 : t < 4 := by omega
      have hxe : x < e := by by_cases q : x < e; exact q; rw [numL_end (Or.inr (by omega))] at hs; rw [hs] at hok; exact absurd hok (show ¬ (0 : Int) ≤ -1 by decide)
      have hbx := hG x
      refine G_aload_n hX 0 rfl rfl d_Mo_readNumber_17 ?_
      have h15 : F1 31 = .int (zI e) := (k3 31 (by decide)).trans hF31
      have h16 : f5 63 = iz E 1600 b := (k6 63 (by decide)).trans hc63
      refine F_callV hX (st := []) (c_Mo_readByte_ok E f5 F1 x e b g sE h9 (moK_fr hmk (FrF.tr (FrF.rf (S := [30])) k3 (by decide)) (by decide)) h2 h15 h12 h16 hG hgb (by omega)) cm_Mo_readByte im_Mo_readByte se_Mo_readByte rfl ml_Mo_357 d_Mo_readNumber_18 (by decide) h9 rfl rfl (Nat.le_of_ble_eq_true rfl) (by decide) ?_
      rintro _ f17 ⟨rfl, F20, h21, h22, k23, k24⟩
      refine G_cast (st' := [.int (zI (g x))]) ?_ rfl rfl rfl rfl
      refine G_istore hX (lv' := [(4, .int (zI (g x))), (0, .ref (eA E 61)), (1, .int (zI v)), (2, .int (zI t)), (3, .int (zI 1))]) (by decide) rfl d_Mo_readNumber_21 ?_
      refine G_sipush hX (by decide) d_Mo_readNumber_23 ?_
      refine G_iload_n hX 2 rfl rfl d_Mo_readNumber_26 ?_
      refine G_imul_z hX d_Mo_readNumber_27 ?_
      refine G_iload hX 0 rfl d_Mo_readNumber_28 ?_
      refine G_bipush hX (by decide) d_Mo_readNumber_30 ?_
      refine G_iand hX d_Mo_readNumber_32 ?_
      refine G_top (show (zI (g x) &&& zI 127) = zI (g x % 128) from zI_and127 _) ?_
      refine G_iadd_z hX d_Mo_readNumber_33 ?_
      refine G_istore_n hX (lv' := [(1, .int (zI ((128 * v) + (g x % 128)))), (4, .int (zI (g x))), (0, .ref (eA E 61)), (2, .int (zI t)), (3, .int (zI 1))]) rfl (by decide) rfl d_Mo_readNumber_34 ?_
      refine G_iinc_z hX (lv' := [(2, .int (zI (t + 1))), (1, .int (zI ((128 * v) + (g x % 128)))), (4, .int (zI (g x))), (0, .ref (eA E 61)), (3, .int (zI 1))]) 3 rfl (by decide) rfl d_Mo_readNumber_35 ?_
      refine G_iload hX 2 rfl d_Mo_readNumber_38 ?_
      refine G_bipush hX (by decide) d_Mo_readNumber_40 ?_
      refine G_icmp_le_z hX (tgt := 49) d_Mo_readNumber_42 rfl (by omega) (fun c25 => ?_) (fun c26 => ?_)
      · skip
        refine G_iconst hX d_Mo_readNumber_49 ?_
        refine G_istore_n hX (lv' := [(3, .int (zI 0)), (2, .int (zI (t + 1))), (1, .int (zI ((128 * v) + (g x % 128)))), (4, .int (zI (g x))), (0, .ref (eA E 61))]) rfl (by decide) rfl d_Mo_readNumber_50 ?_
        refine G_iload_n hX 0 rfl rfl d_Mo_readNumber_51 ?_
        refine G_if_eq_z hX (tgt := 66) d_Mo_readNumber_52 rfl (by omega) (fun c27 => ?_) (fun c28 => by exfalso; omega)
        refine G_goto hX (tgt := 6) d_Mo_readNumber_66 rfl ?_
        have h29 : F20 32 = .int (zI 0) := (k23 32 (by decide)).trans h12
        refine G_iload_n hX 0 rfl rfl d_Mo_readNumber_6 ?_
        refine G_if_eq_z hX (tgt := 69) d_Mo_readNumber_7 rfl (by omega) (fun c30 => ?_) (fun c31 => by exfalso; omega)
        refine G_iload_n hX 2 rfl rfl d_Mo_readNumber_69 ?_
        have hN := hs.trans (numL_stop (by omega) hxe (by omega))
        exact F_iret hX hE d_Mo_readNumber_70 ⟨by rw [hN, Int.mul_comm], F20, h21, (by rw [hN]; exact h22), (FrF.tr (FrF.tr FrF.rf k3 (by decide)) k23 (by decide)), (Fr.tr (Fr.tr Fr.rf k6 (by decide)) k24 (by decide))⟩
      · skip
        refine G_iconst hX d_Mo_readNumber_45 ?_
        refine G_goto hX (tgt := 50) d_Mo_readNumber_46 rfl ?_
        refine G_istore_n hX (lv' := [(3, .int (zI 1)), (2, .int (zI (t + 1))), (1, .int (zI ((128 * v) + (g x % 128)))), (4, .int (zI (g x))), (0, .ref (eA E 61))]) rfl (by decide) rfl d_Mo_readNumber_50 ?_
        refine G_iload_n hX 0 rfl rfl d_Mo_readNumber_51 ?_
        refine G_if_eq_z hX (tgt := 66) d_Mo_readNumber_52 rfl (by omega) (fun c32 => by exfalso; omega) (fun c33 => ?_)
        have ht5 : ¬ t + 1 = 4 := by intro q; rw [numL_go (by omega) hxe (by omega), numL_end (Or.inl (by omega))] at hs; rw [hs] at hok; exact absurd hok (show ¬ (0 : Int) ≤ -1 by decide)
        refine G_iload_n hX 1 rfl rfl d_Mo_readNumber_55 ?_
        refine G_iconst hX d_Mo_readNumber_56 ?_
        refine G_icmp_ne_z hX (tgt := 66) d_Mo_readNumber_57 rfl (by omega) (fun c34 => ?_) (fun c35 => by exfalso; omega)
        refine G_goto hX (tgt := 6) d_Mo_readNumber_66 rfl ?_
        have h36 : F20 32 = .int (zI 0) := (k23 32 (by decide)).trans h12
        refine G_loc (lv' := [(0, .ref (eA E 61)), (1, .int (zI ((128 * v) + (g x % 128)))), (2, .int (zI (t + 1))), (3, .int (zI 1))]) [4, 2, 1, 0] rfl ?_
        exact ih8 (t + 1) (x + 1) (128 * v + g x % 128) F20 f17 (by omega) (by omega) (by omega) (hs.trans ((numL_go (by omega) hxe (by omega)).trans (by rw [Int.mul_comm v 128]))) h22 (FrF.tr (FrF.tr FrF.rf k3 (by decide)) k23 (by decide)) h21 (Fr.tr (Fr.tr Fr.rf k6 (by decide)) k24 (by decide))
  refine G_loc (lv' := [(0, .ref (eA E 61)), (1, .int (zI 0)), (2, .int (zI 0)), (3, .int (zI 1))]) [3, 2, 1, 0] rfl ?_
  refine G_cast (loop4 (_ + 1) 0 p 0 F f (Nat.lt_succ_self _) (by decide) (by omega) rfl hF30 FrF.rf hMo Fr.rf) rfl (by rfl) rfl rfl
theorem c_Mo_readNumber_no (E : EV) (f : Nat → va_E) (F : Nat → Value) (p : Int) (e : Int) (b : Int → Int) (g : Int → Int) (sE : Int) (hMo : f 61 = mob F) (hmk : moK E F) (hF30 : F 30 = .int (zI p)) (hF31 : F 31 = .int (zI e)) (hF32 : F 32 = .int (zI 0)) (hc63 : f 63 = iz E 1600 b) (hG : isB g) (hgb : ∀ i, 0 ≤ i → i < sE → b (600 + i) = g i) (hp : 0 ≤ p ∧ p ≤ e ∧ e ≤ sE ∧ sE ≤ 700) (hok : (numL g e 4 p 0).1 < 0) : CF yn_Mo_readNumber cd_Mo_readNumber 5 (some (.int)) 2 E [.ref (eA E 61)] f (fun r f' => ∃ (F' : Nat → Value) (r' : Int) (p' : Int), r = some (.int (zI r')) ∧ f' 61 = mob F' ∧ F' 30 = .int (zI p') ∧ F' 32 = .int (zI (-2)) ∧ FrF [30, 32] F F' ∧ ((0 ≤ r' ∧ r' < 268435456) ∧ 0 ≤ p' ∧ p' ≤ 700) ∧ Fr [61] f f') := by
  refine CF.of (by decide +kernel) (Nat.le_of_ble_eq_true rfl) fun X hX hE => ?_
  have hX : Ok E X "DeltaFerryModel" "readNumber" cd_Mo_readNumber 5 (some (.int)) (rl 2) := hX
  refine G_cast (lv' := [(0, .ref (eA E 61))]) ?_ rfl rfl rfl rfl
  refine G_iconst hX d_Mo_readNumber_0 ?_
  refine G_istore_n hX (lv' := [(1, .int (zI 0)), (0, .ref (eA E 61))]) rfl (by decide) rfl d_Mo_readNumber_1 ?_
  refine G_iconst hX d_Mo_readNumber_2 ?_
  refine G_istore_n hX (lv' := [(2, .int (zI 0)), (1, .int (zI 0)), (0, .ref (eA E 61))]) rfl (by decide) rfl d_Mo_readNumber_3 ?_
  refine G_iconst hX d_Mo_readNumber_4 ?_
  refine G_istore_n hX (lv' := [(3, .int (zI 1)), (2, .int (zI 0)), (1, .int (zI 0)), (0, .ref (eA E 61))]) rfl (by decide) rfl d_Mo_readNumber_5 ?_
  have loop5 : ∀ (q : Nat) (t : Int) (x : Int) (v : Int) (F1 : Nat → Value) (f6 : Nat → va_E), (4 - t).toNat < q → (0 ≤ t ∧ t ≤ 3 ∧ 0 ≤ v ∧ v < 268435456 ∧ (t = 0 → v = 0) ∧ (t = 1 → v < 128) ∧ (t = 2 → v < 16384) ∧ (t = 3 → v < 2097152)) → (p ≤ x ∧ x ≤ e) → (numL g e 4 p 0 = numL g e (4 - t).toNat x v) → (F1 30 = .int (zI x)) → (F1 32 = .int (zI 0)) → (FrF [30, 32] F F1) → f6 61 = mob F1 → Fr [61] f f6 → G E X 0 0 6 [(0, .ref (eA E 61)), (1, .int (zI v)), (2, .int (zI t)), (3, .int (zI 1))] [] (wl E f6) := by
    intro q
    induction q with
    | zero => intro t x v F1 f6 hms8; exact absurd hms8 (Nat.not_lt_zero _)
    | succ q ih9 =>
      intro t x v F1 f6 hms8 ht hx hs h2 h3 k4 h10 k7
      refine G_iload_n hX 3 rfl rfl d_Mo_readNumber_6 ?_
      refine G_if_eq_z hX (tgt := 69) d_Mo_readNumber_7 rfl (by omega) (fun c11 => by exfalso; omega) (fun c12 => ?_)
      refine G_aload_n hX 0 rfl rfl d_Mo_readNumber_10 ?_
      refine M_get hX fg_Mo_345 d_Mo_readNumber_11 h10 (by decide) h3 ?_
      refine G_if_ne_z hX (tgt := 69) d_Mo_readNumber_14 rfl (by omega) (fun c13 => by exfalso; omega) (fun c14 => ?_)
      have ht4 : t < 4 := by omega
      by_cases hxe : x < e
      · skip
        have hbx := hG x
        refine G_aload_n hX 0 rfl rfl d_Mo_readNumber_17 ?_
        have h15 : F1 31 = .int (zI e) := (k4 31 (by decide)).trans hF31
        have h16 : f6 63 = iz E 1600 b := (k7 63 (by decide)).trans hc63
        refine F_callV hX (st := []) (c_Mo_readByte_ok E f6 F1 x e b g sE h10 (moK_fr hmk (FrF.tr (FrF.rf (S := [30, 32])) k4 (by decide)) (by decide)) h2 h15 h3 h16 hG hgb (by omega)) cm_Mo_readByte im_Mo_readByte se_Mo_readByte rfl ml_Mo_357 d_Mo_readNumber_18 (by decide) h10 rfl rfl (Nat.le_of_ble_eq_true rfl) (by decide) ?_
        rintro _ f17 ⟨rfl, F20, h21, h22, k23, k24⟩
        refine G_cast (st' := [.int (zI (g x))]) ?_ rfl rfl rfl rfl
        refine G_istore hX (lv' := [(4, .int (zI (g x))), (0, .ref (eA E 61)), (1, .int (zI v)), (2, .int (zI t)), (3, .int (zI 1))]) (by decide) rfl d_Mo_readNumber_21 ?_
        refine G_sipush hX (by decide) d_Mo_readNumber_23 ?_
        refine G_iload_n hX 2 rfl rfl d_Mo_readNumber_26 ?_
        refine G_imul_z hX d_Mo_readNumber_27 ?_
        refine G_iload hX 0 rfl d_Mo_readNumber_28 ?_
        refine G_bipush hX (by decide) d_Mo_readNumber_30 ?_
        refine G_iand hX d_Mo_readNumber_32 ?_
        refine G_top (show (zI (g x) &&& zI 127) = zI (g x % 128) from zI_and127 _) ?_
        refine G_iadd_z hX d_Mo_readNumber_33 ?_
        refine G_istore_n hX (lv' := [(1, .int (zI ((128 * v) + (g x % 128)))), (4, .int (zI (g x))), (0, .ref (eA E 61)), (2, .int (zI t)), (3, .int (zI 1))]) rfl (by decide) rfl d_Mo_readNumber_34 ?_
        refine G_iinc_z hX (lv' := [(2, .int (zI (t + 1))), (1, .int (zI ((128 * v) + (g x % 128)))), (4, .int (zI (g x))), (0, .ref (eA E 61)), (3, .int (zI 1))]) 3 rfl (by decide) rfl d_Mo_readNumber_35 ?_
        refine G_iload hX 2 rfl d_Mo_readNumber_38 ?_
        refine G_bipush hX (by decide) d_Mo_readNumber_40 ?_
        refine G_icmp_le_z hX (tgt := 49) d_Mo_readNumber_42 rfl (by omega) (fun c25 => by rw [numL_stop (by omega) hxe (by omega)] at hs; rw [hs] at hok; (have hok2 : v * 128 + g x % 128 < 0 := hok); omega) (fun c26 => ?_)
        refine G_iconst hX d_Mo_readNumber_45 ?_
        refine G_goto hX (tgt := 50) d_Mo_readNumber_46 rfl ?_
        refine G_istore_n hX (lv' := [(3, .int (zI 1)), (2, .int (zI (t + 1))), (1, .int (zI ((128 * v) + (g x % 128)))), (4, .int (zI (g x))), (0, .ref (eA E 61))]) rfl (by decide) rfl d_Mo_readNumber_50 ?_
        refine G_iload_n hX 0 rfl rfl d_Mo_readNumber_51 ?_
        refine G_if_eq_z hX (tgt := 66) d_Mo_readNumber_52 rfl (by omega) (fun c27 => by exfalso; omega) (fun c28 => ?_)
        refine G_iload_n hX 1 rfl rfl d_Mo_readNumber_55 ?_
        refine G_iconst hX d_Mo_readNumber_56 ?_
        refine G_icmp_ne_z hX (tgt := 66) d_Mo_readNumber_57 rfl (by omega) (fun c29 => ?_) (fun c30 => ?_)
        · skip
          refine G_goto hX (tgt := 6) d_Mo_readNumber_66 rfl ?_
          have h31 : F20 32 = .int (zI 0) := (k23 32 (by decide)).trans h3
          refine G_loc (lv' := [(0, .ref (eA E 61)), (1, .int (zI ((128 * v) + (g x % 128)))), (2, .int (zI (t + 1))), (3, .int (zI 1))]) [4, 2, 1, 0] rfl ?_
          exact ih9 (t + 1) (x + 1) (128 * v + g x % 128) F20 f17 (by omega) (by omega) (by omega) (hs.trans ((numL_go (by omega) hxe (by omega)).trans (by rw [Int.mul_comm v 128]))) h22 h31 (FrF.tr (FrF.tr FrF.rf k4 (by decide)) k23 (by decide)) h21 (Fr.tr (Fr.tr Fr.rf k7 (by decide)) k24 (by decide))
        · skip
          refine G_aload_n hX 4 rfl rfl d_Mo_readNumber_60 ?_
          refine G_bipush hX (by decide) d_Mo_readNumber_61 ?_
          have h32 : F20 32 = .int (zI 0) := (k23 32 (by decide)).trans h3
          refine F_callV hX (st := []) (c_Mo_refuse E f17 F20 (-2) h21 (moK_fr hmk (FrF.tr (FrF.tr (FrF.rf (S := [30, 32])) k4 (by decide)) k23 (by decide)) (by decide)) h32) cm_Mo_refuse im_Mo_refuse se_Mo_refuse rfl ml_Mo_354 d_Mo_readNumber_63 (by decide) h21 rfl rfl (Nat.le_of_ble_eq_true rfl) (by decide) ?_
          rintro _ f33 ⟨rfl, F36, h37, h38, k39, k40⟩
          refine G_cast (st' := []) ?_ rfl rfl rfl rfl
          refine G_goto hX (tgt := 6) d_Mo_readNumber_66 rfl ?_
          refine G_iload_n hX 0 rfl rfl d_Mo_readNumber_6 ?_
          refine G_if_eq_z hX (tgt := 69) d_Mo_readNumber_7 rfl (by omega) (fun c41 => by exfalso; omega) (fun c42 => ?_)
          refine G_aload_n hX 4 rfl rfl d_Mo_readNumber_10 ?_
          refine M_get hX fg_Mo_345 d_Mo_readNumber_11 h37 (by decide) h38 ?_
          refine G_if_ne_z hX (tgt := 69) d_Mo_readNumber_14 rfl (by omega) (fun c43 => ?_) (fun c44 => by exfalso; omega)
          refine G_iload_n hX 2 rfl rfl d_Mo_readNumber_69 ?_
          have h45 : F36 30 = .int (zI (x + 1)) := (k39 30 (by decide)).trans h22
          exact F_iret hX hE d_Mo_readNumber_70 ⟨F36, _, _, rfl, h37, h45, h38, (FrF.tr (FrF.tr (FrF.tr FrF.rf k4 (by decide)) k23 (by decide)) k39 (by decide)), by omega, (Fr.tr (Fr.tr (Fr.tr Fr.rf k7 (by decide)) k24 (by decide)) k40 (by decide))⟩
      · skip
        refine G_aload_n hX 0 rfl rfl d_Mo_readNumber_17 ?_
        have h46 : F1 31 = .int (zI e) := (k4 31 (by decide)).trans hF31
        refine F_callV hX (st := []) (c_Mo_readByte_no E f6 F1 x e h10 (moK_fr hmk (FrF.tr (FrF.rf (S := [30, 32])) k4 (by decide)) (by decide)) h2 h46 h3 (by omega)) cm_Mo_readByte im_Mo_readByte se_Mo_readByte rfl ml_Mo_357 d_Mo_readNumber_18 (by decide) h10 rfl rfl (Nat.le_of_ble_eq_true rfl) (by decide) ?_
        rintro _ f47 ⟨rfl, F50, h51, h52, k53, k54⟩
        refine G_cast (st' := [.int (zI 0)]) ?_ rfl rfl rfl rfl
        refine G_istore hX (lv' := [(4, .int (zI 0)), (0, .ref (eA E 61)), (1, .int (zI v)), (2, .int (zI t)), (3, .int (zI 1))]) (by decide) rfl d_Mo_readNumber_21 ?_
        refine G_sipush hX (by decide) d_Mo_readNumber_23 ?_
        refine G_iload_n hX 2 rfl rfl d_Mo_readNumber_26 ?_
        refine G_imul_z hX d_Mo_readNumber_27 ?_
        refine G_iload hX 0 rfl d_Mo_readNumber_28 ?_
        refine G_bipush hX (by decide) d_Mo_readNumber_30 ?_
        refine G_iand hX d_Mo_readNumber_32 ?_
        refine G_top (show (zI 0 &&& zI 127) = zI 0 from by decide) ?_
        refine G_iadd_z hX d_Mo_readNumber_33 ?_
        refine G_istore_n hX (lv' := [(1, .int (zI ((128 * v) + 0))), (4, .int (zI 0)), (0, .ref (eA E 61)), (2, .int (zI t)), (3, .int (zI 1))]) rfl (by decide) rfl d_Mo_readNumber_34 ?_
        refine G_iinc_z hX (lv' := [(2, .int (zI (t + 1))), (1, .int (zI ((128 * v) + 0))), (4, .int (zI 0)), (0, .ref (eA E 61)), (3, .int (zI 1))]) 3 rfl (by decide) rfl d_Mo_readNumber_35 ?_
        refine G_iload hX 2 rfl d_Mo_readNumber_38 ?_
        refine G_bipush hX (by decide) d_Mo_readNumber_40 ?_
        refine G_icmp_le_z hX (tgt := 49) d_Mo_readNumber_42 rfl (by omega) (fun c55 => ?_) (fun c56 => by exfalso; omega)
        refine G_iconst hX d_Mo_readNumber_49 ?_
        refine G_istore_n hX (lv' := [(3, .int (zI 0)), (2, .int (zI (t + 1))), (1, .int (zI ((128 * v) + 0))), (4, .int (zI 0)), (0, .ref (eA E 61))]) rfl (by decide) rfl d_Mo_readNumber_50 ?_
        refine G_iload_n hX 0 rfl rfl d_Mo_readNumber_51 ?_
        refine G_if_eq_z hX (tgt := 66) d_Mo_readNumber_52 rfl (by omega) (fun c57 => ?_) (fun c58 => by exfalso; omega)
        refine G_goto hX (tgt := 6) d_Mo_readNumber_66 rfl ?_
        refine G_iload_n hX 0 rfl rfl d_Mo_readNumber_6 ?_
        refine G_if_eq_z hX (tgt := 69) d_Mo_readNumber_7 rfl (by omega) (fun c59 => ?_) (fun c60 => by exfalso; omega)
        refine G_iload_n hX 2 rfl rfl d_Mo_readNumber_69 ?_
        have h61 : F50 30 = .int (zI x) := (k53 30 (by decide)).trans h2
        exact F_iret hX hE d_Mo_readNumber_70 ⟨F50, _, _, rfl, h51, h61, h52, (FrF.tr (FrF.tr FrF.rf k4 (by decide)) k53 (by decide)), by omega, (Fr.tr (Fr.tr Fr.rf k7 (by decide)) k54 (by decide))⟩
  refine G_loc (lv' := [(0, .ref (eA E 61)), (1, .int (zI 0)), (2, .int (zI 0)), (3, .int (zI 1))]) [3, 2, 1, 0] rfl ?_
  refine G_cast (loop5 (_ + 1) 0 p 0 F f (Nat.lt_succ_self _) (by decide) (by omega) rfl hF30 hF32 FrF.rf hMo Fr.rf) rfl (by rfl) rfl rfl
theorem c_Mo_readNumber_f (E : EV) (f : Nat → va_E) (F : Nat → Value) (fl : Int) (hMo : f 61 = mob F) (hmk : moK E F) (hF32 : F 32 = .int (zI fl)) (hfl : fl ≠ 0 ∧ -10 ≤ fl ∧ fl ≤ 0) : CF yn_Mo_readNumber cd_Mo_readNumber 5 (some (.int)) 2 E [.ref (eA E 61)] f (fun r f' => r = some (.int (zI 0)) ∧ f' = f) := by
  refine CF.of (by decide +kernel) (Nat.le_of_ble_eq_true rfl) fun X hX hE => ?_
  have hX : Ok E X "DeltaFerryModel" "readNumber" cd_Mo_readNumber 5 (some (.int)) (rl 2) := hX
  refine G_cast (lv' := [(0, .ref (eA E 61))]) ?_ rfl rfl rfl rfl
  refine G_iconst hX d_Mo_readNumber_0 ?_
  refine G_istore_n hX (lv' := [(1, .int (zI 0)), (0, .ref (eA E 61))]) rfl (by decide) rfl d_Mo_readNumber_1 ?_
  refine G_iconst hX d_Mo_readNumber_2 ?_
  refine G_istore_n hX (lv' := [(2, .int (zI 0)), (1, .int (zI 0)), (0, .ref (eA E 61))]) rfl (by decide) rfl d_Mo_readNumber_3 ?_
  refine G_iconst hX d_Mo_readNumber_4 ?_
  refine G_istore_n hX (lv' := [(3, .int (zI 1)), (2, .int (zI 0)), (1, .int (zI 0)), (0, .ref (eA E 61))]) rfl (by decide) rfl d_Mo_readNumber_5 ?_
  refine G_iload_n hX 0 rfl rfl d_Mo_readNumber_6 ?_
  refine G_if_eq_z hX (tgt := 69) d_Mo_readNumber_7 rfl (by omega) (fun c1 => by exfalso; omega) (fun c2 => ?_)
  refine G_aload_n hX 3 rfl rfl d_Mo_readNumber_10 ?_
  refine M_get hX fg_Mo_345 d_Mo_readNumber_11 hMo (by decide) hF32 ?_
  refine G_if_ne_z hX (tgt := 69) d_Mo_readNumber_14 rfl (by omega) (fun c3 => ?_) (fun c4 => by exfalso; omega)
  refine G_iload_n hX 2 rfl rfl d_Mo_readNumber_69 ?_
  exact F_iret hX hE d_Mo_readNumber_70 ⟨rfl, rfl⟩
theorem uz_at (g : Int → Int) (k v : Int) : uz g k v k = v := if_pos rfl
/-- places in the delta -/
def avB (a : Int → Int) : Prop := ∀ i, 0 ≤ i → i ≤ 2 → 0 ≤ a i ∧ a i ≤ 700
theorem avB_u {a : Int → Int} {q v : Int} (h : avB a) (hv : 0 ≤ v ∧ v ≤ 700) : avB (uz a q v) := by
  intro i h1 h2
  unfold uz
  split
  · exact hv
  · exact h i h1 h2
theorem c_Mo_readPart_ok (E : EV) (f : Nat → va_E) (F : Nat → Value) (qq : Int) (av : Int → Int) (ev : Int → Int) (b : Int → Int) (g : Int → Int) (sE : Int) (hMo : f 61 = mob F) (hmk : moK E F) (hc83 : f 83 = iz E 3 av) (hc84 : f 84 = iz E 3 ev) (hc63 : f 63 = iz E 1600 b) (hq : 0 ≤ qq ∧ qq ≤ 2) (hG : isB g) (hgb : ∀ i, 0 ≤ i → i < sE → b (600 + i) = g i) (hp : 0 ≤ av qq ∧ av qq < ev qq ∧ ev qq ≤ sE ∧ sE ≤ 700) : CF yn_Mo_readPart cd_Mo_readPart 2 (some (.int)) 1 E [.ref (eA E 61), .int (zI qq)] f (fun r f' => r = some (.int (zI (g (av qq)))) ∧ f' 83 = iz E 3 (uz av qq (av qq + 1)) ∧ Fr [83] f f') := by
  refine CF.of (by decide +kernel) (Nat.le_of_ble_eq_true rfl) fun X hX hE => ?_
  have hX : Ok E X "DeltaFerryModel" "readPart" cd_Mo_readPart 2 (some (.int)) (rl 1) := hX
  refine G_cast (lv' := [(0, .ref (eA E 61)), (1, .int (zI qq))]) ?_ rfl rfl rfl rfl
  refine G_aload_n hX 0 rfl rfl d_Mo_readPart_0 ?_
  refine M_get hX fg_Mo_145 d_Mo_readPart_1 hMo (by decide) (hmk 44 83 (by decide)) ?_
  refine G_iload_n hX 1 rfl rfl d_Mo_readPart_4 ?_
  refine F_iald hX d_Mo_readPart_5 83 (by decide) hc83 (by omega) ?_
  refine G_aload_n hX 0 rfl rfl d_Mo_readPart_6 ?_
  refine M_get hX fg_Mo_148 d_Mo_readPart_7 hMo (by decide) (hmk 45 84 (by decide)) ?_
  refine G_iload_n hX 1 rfl rfl d_Mo_readPart_10 ?_
  refine F_iald hX d_Mo_readPart_11 84 (by decide) hc84 (by omega) ?_
  refine G_icmp_lt_z hX (tgt := 23) d_Mo_readPart_12 rfl (by omega) (fun c1 => ?_) (fun c2 => by exfalso; omega)
  refine G_aload_n hX 0 rfl rfl d_Mo_readPart_23 ?_
  refine M_get hX fg_Mo_145 d_Mo_readPart_24 hMo (by decide) (hmk 44 83 (by decide)) ?_
  refine G_iload_n hX 1 rfl rfl d_Mo_readPart_27 ?_
  refine G_dup2 hX rfl rfl d_Mo_readPart_28 ?_
  refine F_iald hX d_Mo_readPart_29 83 (by decide) hc83 (by omega) ?_
  refine G_iconst hX d_Mo_readPart_30 ?_
  refine G_iadd_z hX d_Mo_readPart_31 ?_
  refine F_iast hX d_Mo_readPart_32 83 (by decide) hc83 (by omega) (fun f3 h4 k5 => ?_)
  refine G_aload_n hX 0 rfl rfl d_Mo_readPart_33 ?_
  have h6 : f3 61 = mob F := (k5 61 (by decide)).trans hMo
  refine M_get hX fg_Mo_77 d_Mo_readPart_34 h6 (by decide) (hmk 1 63 (by decide)) ?_
  refine G_sipush hX (by decide) d_Mo_readPart_37 ?_
  refine G_aload_n hX 0 rfl rfl d_Mo_readPart_40 ?_
  refine M_get hX fg_Mo_145 d_Mo_readPart_41 h6 (by decide) (hmk 44 83 (by decide)) ?_
  refine G_iload_n hX 1 rfl rfl d_Mo_readPart_44 ?_
  refine F_iald hX d_Mo_readPart_45 83 (by decide) h4 (by omega) ?_
  refine G_top (show zI ((uz av qq ((av qq) + 1)) qq) = zI (av qq + 1) from congrArg zI (if_pos rfl)) ?_
  refine G_iadd_z hX d_Mo_readPart_46 ?_
  have h7 : f3 63 = iz E 1600 b := (k5 63 (by decide)).trans hc63
  refine F_iald hX d_Mo_readPart_47 63 (by decide) h7 (by omega) ?_
  refine G_top (show zI (b (599 + (av qq + 1))) = zI (g (av qq)) from congrArg zI ((congrArg b (by omega)).trans (hgb (av qq) (by omega) (by omega)))) ?_
  exact F_iret hX hE d_Mo_readPart_48 ⟨rfl, h4, (Fr.tr Fr.rf k5 (by decide))⟩
theorem c_Mo_readPart_no (E : EV) (f : Nat → va_E) (F : Nat → Value) (qq : Int) (av : Int → Int) (ev : Int → Int) (hMo : f 61 = mob F) (hmk : moK E F) (hF32 : F 32 = .int (zI 0)) (hc83 : f 83 = iz E 3 av) (hc84 : f 84 = iz E 3 ev) (hq : 0 ≤ qq ∧ qq ≤ 2) (hp : ev qq ≤ av qq ∧ -10000 ≤ ev qq ∧ av qq ≤ 10000) : CF yn_Mo_readPart cd_Mo_readPart 2 (some (.int)) 1 E [.ref (eA E 61), .int (zI qq)] f (fun r f' => r = some (.int (zI 0)) ∧ ∃ (F' : Nat → Value), f' 61 = mob F' ∧ F' 32 = .int (zI (-2)) ∧ FrF [32] F F' ∧ Fr [61] f f') := by
  refine CF.of (by decide +kernel) (Nat.le_of_ble_eq_true rfl) fun X hX hE => ?_
  have hX : Ok E X "DeltaFerryModel" "readPart" cd_Mo_readPart 2 (some (.int)) (rl 1) := hX
  refine G_cast (lv' := [(0, .ref (eA E 61)), (1, .int (zI qq))]) ?_ rfl rfl rfl rfl
  refine G_aload_n hX 0 rfl rfl d_Mo_readPart_0 ?_
  refine M_get hX fg_Mo_145 d_Mo_readPart_1 hMo (by decide) (hmk 44 83 (by decide)) ?_
  refine G_iload_n hX 1 rfl rfl d_Mo_readPart_4 ?_
  refine F_iald hX d_Mo_readPart_5 83 (by decide) hc83 (by omega) ?_
  refine G_aload_n hX 0 rfl rfl d_Mo_readPart_6 ?_
  refine M_get hX fg_Mo_148 d_Mo_readPart_7 hMo (by decide) (hmk 45 84 (by decide)) ?_
  refine G_iload_n hX 1 rfl rfl d_Mo_readPart_10 ?_
  refine F_iald hX d_Mo_readPart_11 84 (by decide) hc84 (by omega) ?_
  refine G_icmp_lt_z hX (tgt := 23) d_Mo_readPart_12 rfl (by omega) (fun c1 => by exfalso; omega) (fun c2 => ?_)
  refine G_aload_n hX 0 rfl rfl d_Mo_readPart_15 ?_
  refine G_bipush hX (by decide) d_Mo_readPart_16 ?_
  refine F_callV hX (st := []) (c_Mo_refuse E f F (-2) hMo hmk hF32) cm_Mo_refuse im_Mo_refuse se_Mo_refuse rfl ml_Mo_354 d_Mo_readPart_18 (by decide) hMo rfl rfl (Nat.le_of_ble_eq_true rfl) (by decide) ?_
  rintro _ f3 ⟨rfl, F6, h7, h8, k9, k10⟩
  refine G_cast (st' := []) ?_ rfl rfl rfl rfl
  refine G_iconst hX d_Mo_readPart_21 ?_
  exact F_iret hX hE d_Mo_readPart_22 ⟨rfl, F6, h7, h8, (FrF.tr FrF.rf k9 (by decide)), (Fr.tr Fr.rf k10 (by decide))⟩
theorem c_Mo_readPart_nof (E : EV) (f : Nat → va_E) (F : Nat → Value) (qq : Int) (av : Int → Int) (ev : Int → Int) (fl : Int) (hMo : f 61 = mob F) (hmk : moK E F) (hF32 : F 32 = .int (zI fl)) (hc83 : f 83 = iz E 3 av) (hc84 : f 84 = iz E 3 ev) (hq : 0 ≤ qq ∧ qq ≤ 2) (hp : ev qq ≤ av qq ∧ -10000 ≤ ev qq ∧ av qq ≤ 10000) (hfl : fl ≠ 0 ∧ -10 ≤ fl ∧ fl ≤ 0) : CF yn_Mo_readPart cd_Mo_readPart 2 (some (.int)) 1 E [.ref (eA E 61), .int (zI qq)] f (fun r f' => r = some (.int (zI 0)) ∧ ∃ (F' : Nat → Value), f' 61 = mob F' ∧ F' 32 = .int (zI fl) ∧ FrF [32] F F' ∧ Fr [61] f f') := by
  refine CF.of (by decide +kernel) (Nat.le_of_ble_eq_true rfl) fun X hX hE => ?_
  have hX : Ok E X "DeltaFerryModel" "readPart" cd_Mo_readPart 2 (some (.int)) (rl 1) := hX
  refine G_cast (lv' := [(0, .ref (eA E 61)), (1, .int (zI qq))]) ?_ rfl rfl rfl rfl
  refine G_aload_n hX 0 rfl rfl d_Mo_readPart_0 ?_
  refine M_get hX fg_Mo_145 d_Mo_readPart_1 hMo (by decide) (hmk 44 83 (by decide)) ?_
  refine G_iload_n hX 1 rfl rfl d_Mo_readPart_4 ?_
  refine F_iald hX d_Mo_readPart_5 83 (by decide) hc83 (by omega) ?_
  refine G_aload_n hX 0 rfl rfl d_Mo_readPart_6 ?_
  refine M_get hX fg_Mo_148 d_Mo_readPart_7 hMo (by decide) (hmk 45 84 (by decide)) ?_
  refine G_iload_n hX 1 rfl rfl d_Mo_readPart_10 ?_
  refine F_iald hX d_Mo_readPart_11 84 (by decide) hc84 (by omega) ?_
  refine G_icmp_lt_z hX (tgt := 23) d_Mo_readPart_12 rfl (by omega) (fun c1 => by exfalso; omega) (fun c2 => ?_)
  refine G_aload_n hX 0 rfl rfl d_Mo_readPart_15 ?_
  refine G_bipush hX (by decide) d_Mo_readPart_16 ?_
  refine F_callV hX (st := []) (c_Mo_refuse_f E f F (-2) fl hMo hmk hF32 (by omega)) cm_Mo_refuse im_Mo_refuse se_Mo_refuse rfl ml_Mo_354 d_Mo_readPart_18 (by decide) hMo rfl rfl (Nat.le_of_ble_eq_true rfl) (by decide) ?_
  rintro _ f3 ⟨rfl, F6, h7, h8, k9, k10⟩
  refine G_cast (st' := []) ?_ rfl rfl rfl rfl
  refine G_iconst hX d_Mo_readPart_21 ?_
  exact F_iret hX hE d_Mo_readPart_22 ⟨rfl, F6, h7, h8, (FrF.tr FrF.rf k9 (by decide)), (Fr.tr Fr.rf k10 (by decide))⟩
theorem c_Mo_readPart_f (E : EV) (f : Nat → va_E) (F : Nat → Value) (qq : Int) (av : Int → Int) (ev : Int → Int) (b : Int → Int) (g : Int → Int) (sE : Int) (fl : Int) (hMo : f 61 = mob F) (hmk : moK E F) (hF32 : F 32 = .int (zI fl)) (hc83 : f 83 = iz E 3 av) (hc84 : f 84 = iz E 3 ev) (hc63 : f 63 = iz E 1600 b) (hq : 0 ≤ qq ∧ qq ≤ 2) (hG : isB g) (hgb : ∀ i, 0 ≤ i → i < sE → b (600 + i) = g i) (hav : avB av) (hev : avB ev) (hen : ∀ i, 0 ≤ i → i ≤ 2 → ev i ≤ sE) (hsE : sE ≤ 700) (hfl : fl ≠ 0 ∧ -10 ≤ fl ∧ fl ≤ 0) : CF yn_Mo_readPart cd_Mo_readPart 2 (some (.int)) 1 E [.ref (eA E 61), .int (zI qq)] f (fun r f' => ∃ (F' : Nat → Value) (r' : Int) (av' : Int → Int), r = some (.int (zI r')) ∧ f' 61 = mob F' ∧ F' 32 = .int (zI fl) ∧ FrF [32] F F' ∧ f' 83 = iz E 3 av' ∧ (0 ≤ r' ∧ r' < 256) ∧ (avB av') ∧ Fr [83, 61] f f') := by
  refine CF.of (by decide +kernel) (Nat.le_of_ble_eq_true rfl) fun X hX hE => ?_
  have hX : Ok E X "DeltaFerryModel" "readPart" cd_Mo_readPart 2 (some (.int)) (rl 1) := hX
  refine G_cast (lv' := [(0, .ref (eA E 61)), (1, .int (zI qq))]) ?_ rfl rfl rfl rfl
  have ha1 := hav qq hq.1 hq.2
  have he1 := hev qq hq.1 hq.2
  have he2 := hen qq hq.1 hq.2
  refine G_aload_n hX 0 rfl rfl d_Mo_readPart_0 ?_
  refine M_get hX fg_Mo_145 d_Mo_readPart_1 hMo (by decide) (hmk 44 83 (by decide)) ?_
  refine G_iload_n hX 1 rfl rfl d_Mo_readPart_4 ?_
  refine F_iald hX d_Mo_readPart_5 83 (by decide) hc83 (by omega) ?_
  refine G_aload_n hX 0 rfl rfl d_Mo_readPart_6 ?_
  refine M_get hX fg_Mo_148 d_Mo_readPart_7 hMo (by decide) (hmk 45 84 (by decide)) ?_
  refine G_iload_n hX 1 rfl rfl d_Mo_readPart_10 ?_
  refine F_iald hX d_Mo_readPart_11 84 (by decide) hc84 (by omega) ?_
  refine G_icmp_lt_z hX (tgt := 23) d_Mo_readPart_12 rfl (by omega) (fun c1 => ?_) (fun c2 => ?_)
  · skip
    refine G_aload_n hX 0 rfl rfl d_Mo_readPart_23 ?_
    refine M_get hX fg_Mo_145 d_Mo_readPart_24 hMo (by decide) (hmk 44 83 (by decide)) ?_
    refine G_iload_n hX 1 rfl rfl d_Mo_readPart_27 ?_
    refine G_dup2 hX rfl rfl d_Mo_readPart_28 ?_
    refine F_iald hX d_Mo_readPart_29 83 (by decide) hc83 (by omega) ?_
    refine G_iconst hX d_Mo_readPart_30 ?_
    refine G_iadd_z hX d_Mo_readPart_31 ?_
    refine F_iast hX d_Mo_readPart_32 83 (by decide) hc83 (by omega) (fun f3 h4 k5 => ?_)
    refine G_aload_n hX 0 rfl rfl d_Mo_readPart_33 ?_
    have h6 : f3 61 = mob F := (k5 61 (by decide)).trans hMo
    refine M_get hX fg_Mo_77 d_Mo_readPart_34 h6 (by decide) (hmk 1 63 (by decide)) ?_
    refine G_sipush hX (by decide) d_Mo_readPart_37 ?_
    refine G_aload_n hX 0 rfl rfl d_Mo_readPart_40 ?_
    refine M_get hX fg_Mo_145 d_Mo_readPart_41 h6 (by decide) (hmk 44 83 (by decide)) ?_
    refine G_iload_n hX 1 rfl rfl d_Mo_readPart_44 ?_
    refine F_iald hX d_Mo_readPart_45 83 (by decide) h4 (by omega) ?_
    refine G_top (show zI ((uz av qq ((av qq) + 1)) qq) = zI (av qq + 1) from congrArg zI (if_pos rfl)) ?_
    refine G_iadd_z hX d_Mo_readPart_46 ?_
    have h7 : f3 63 = iz E 1600 b := (k5 63 (by decide)).trans hc63
    refine F_iald hX d_Mo_readPart_47 63 (by decide) h7 (by omega) ?_
    refine G_top (show zI (b (599 + (av qq + 1))) = zI (g (av qq)) from congrArg zI ((congrArg b (by omega)).trans (hgb (av qq) (by omega) (by omega)))) ?_
    exact F_iret hX hE d_Mo_readPart_48 ⟨F, _, _, rfl, h6, hF32, FrF.rf, h4, hG _, (avB_u hav (by omega)), (Fr.tr Fr.rf k5 (by decide))⟩
  · skip
    refine G_aload_n hX 0 rfl rfl d_Mo_readPart_15 ?_
    refine G_bipush hX (by decide) d_Mo_readPart_16 ?_
    refine F_callV hX (st := []) (c_Mo_refuse_f E f F (-2) fl hMo hmk hF32 (by omega)) cm_Mo_refuse im_Mo_refuse se_Mo_refuse rfl ml_Mo_354 d_Mo_readPart_18 (by decide) hMo rfl rfl (Nat.le_of_ble_eq_true rfl) (by decide) ?_
    rintro _ f8 ⟨rfl, F11, h12, h13, k14, k15⟩
    refine G_cast (st' := []) ?_ rfl rfl rfl rfl
    refine G_iconst hX d_Mo_readPart_21 ?_
    have h16 : f8 83 = iz E 3 av := (k15 83 (by decide)).trans hc83
    exact F_iret hX hE d_Mo_readPart_22 ⟨F11, _, _, rfl, h12, h13, (FrF.tr FrF.rf k14 (by decide)), h16, (by decide), hav, (Fr.tr Fr.rf k15 (by decide))⟩
theorem c_Mo_readPartNumber_ok (E : EV) (f : Nat → va_E) (F : Nat → Value) (qq : Int) (av : Int → Int) (ev : Int → Int) (b : Int → Int) (g : Int → Int) (sE : Int) (hMo : f 61 = mob F) (hmk : moK E F) (hF32 : F 32 = .int (zI 0)) (hc83 : f 83 = iz E 3 av) (hc84 : f 84 = iz E 3 ev) (hc63 : f 63 = iz E 1600 b) (hq : 0 ≤ qq ∧ qq ≤ 2) (hG : isB g) (hgb : ∀ i, 0 ≤ i → i < sE → b (600 + i) = g i) (hp : 0 ≤ av qq ∧ av qq ≤ ev qq ∧ ev qq ≤ sE ∧ sE ≤ 700) (hok : 0 ≤ (numL g (ev qq) 4 (av qq) 0).1) : CF yn_Mo_readPartNumber cd_Mo_readPartNumber 6 (some (.int)) 2 E [.ref (eA E 61), .int (zI qq)] f (fun r f' => r = some (.int (zI ((numL g (ev qq) 4 (av qq) 0).1))) ∧ f' 83 = iz E 3 (uz av qq (numL g (ev qq) 4 (av qq) 0).2) ∧ Fr [83] f f') := by
  refine CF.of (by decide +kernel) (Nat.le_of_ble_eq_true rfl) fun X hX hE => ?_
  have hX : Ok E X "DeltaFerryModel" "readPartNumber" cd_Mo_readPartNumber 6 (some (.int)) (rl 2) := hX
  refine G_cast (lv' := [(0, .ref (eA E 61)), (1, .int (zI qq))]) ?_ rfl rfl rfl rfl
  refine G_iconst hX d_Mo_readPartNumber_0 ?_
  refine G_istore_n hX (lv' := [(2, .int (zI 0)), (0, .ref (eA E 61)), (1, .int (zI qq))]) rfl (by decide) rfl d_Mo_readPartNumber_1 ?_
  refine G_iconst hX d_Mo_readPartNumber_2 ?_
  refine G_istore_n hX (lv' := [(3, .int (zI 0)), (2, .int (zI 0)), (0, .ref (eA E 61)), (1, .int (zI qq))]) rfl (by decide) rfl d_Mo_readPartNumber_3 ?_
  refine G_iconst hX d_Mo_readPartNumber_4 ?_
  refine G_istore hX (lv' := [(4, .int (zI 1)), (3, .int (zI 0)), (2, .int (zI 0)), (0, .ref (eA E 61)), (1, .int (zI qq))]) (by decide) rfl d_Mo_readPartNumber_5 ?_
  have loop1 : ∀ (q : Nat) (t : Int) (x : Int) (v : Int) (f2 : Nat → va_E), (4 - t).toNat < q → (0 ≤ t ∧ t ≤ 3 ∧ 0 ≤ v ∧ v < 268435456 ∧ (t = 0 → v = 0) ∧ (t = 1 → v < 128) ∧ (t = 2 → v < 16384) ∧ (t = 3 → v < 2097152)) → (av qq ≤ x ∧ x ≤ ev qq) → (numL g (ev qq) 4 (av qq) 0 = numL g (ev qq) (4 - t).toNat x v) → f2 83 = iz E 3 (uz av qq x) → Fr [83] f f2 → G E X 0 0 7 [(0, .ref (eA E 61)), (1, .int (zI qq)), (2, .int (zI v)), (3, .int (zI t)), (4, .int (zI 1))] [] (wl E f2) := by
    intro q
    induction q with
    | zero => intro t x v f2 hms4; exact absurd hms4 (Nat.not_lt_zero _)
    | succ q ih5 =>
      intro t x v f2 hms4 ht hx hs h6 k3
      refine G_iload hX 4 rfl d_Mo_readPartNumber_7 ?_
      refine G_if_eq_z hX (tgt := 74) d_Mo_readPartNumber_9 rfl (by omega) (fun c7 => by exfalso; omega) (fun c8 => ?_)
      refine G_aload_n hX 0 rfl rfl d_Mo_readPartNumber_12 ?_
      have h9 : f2 61 = mob F := (k3 61 (by decide)).trans hMo
      refine M_get hX fg_Mo_345 d_Mo_readPartNumber_13 h9 (by decide) hF32 ?_
      refine G_if_ne_z hX (tgt := 74) d_Mo_readPartNumber_16 rfl (by omega) (fun c10 => by exfalso; omega) (fun c11 => ?_)
      have ht4 : t < 4 := by omega
      have hxe : x < ev qq := by by_cases q : x < ev qq; exact q; rw [numL_end (Or.inr (by omega))] at hs; rw [hs] at hok; exact absurd hok (show ¬ (0 : Int) ≤ -1 by decide)
      have hbx := hG x
      refine G_aload_n hX 0 rfl rfl d_Mo_readPartNumber_19 ?_
      refine G_iload_n hX 1 rfl rfl d_Mo_readPartNumber_20 ?_
      have h12 : f2 84 = iz E 3 ev := (k3 84 (by decide)).trans hc84
      have h13 : f2 63 = iz E 1600 b := (k3 63 (by decide)).trans hc63
      refine F_callV hX (st := []) (c_Mo_readPart_ok E f2 F qq (uz av qq x) ev b g sE h9 hmk h6 h12 h13 (by omega) hG hgb (by rw [uz_at]; omega)) cm_Mo_readPart im_Mo_readPart se_Mo_readPart rfl ml_Mo_361 d_Mo_readPartNumber_21 (by decide) h9 rfl rfl (Nat.le_of_ble_eq_true rfl) (by decide) ?_
      rintro _ f14 ⟨rfl, h17, k18⟩
      refine G_cast (st' := [.int (zI (g ((uz av qq x) qq)))]) ?_ rfl rfl rfl rfl
      refine G_top (show zI (g ((uz av qq x) qq)) = zI (g x) from congrArg (fun z => zI (g z)) (uz_at av qq x)) ?_
      refine G_istore hX (lv' := [(5, .int (zI (g x))), (0, .ref (eA E 61)), (1, .int (zI qq)), (2, .int (zI v)), (3, .int (zI t)), (4, .int (zI 1))]) (by decide) rfl d_Mo_readPartNumber_24 ?_
      refine G_sipush hX (by decide) d_Mo_readPartNumber_26 ?_
      refine G_iload_n hX 3 rfl rfl d_Mo_readPartNumber_29 ?_
      refine G_imul_z hX d_Mo_readPartNumber_30 ?_
      refine G_iload hX 0 rfl d_Mo_readPartNumber_31 ?_
      refine G_bipush hX (by decide) d_Mo_readPartNumber_33 ?_
      refine G_iand hX d_Mo_readPartNumber_35 ?_
      refine G_top (show (zI (g x) &&& zI 127) = zI (g x % 128) from zI_and127 _) ?_
      refine G_iadd_z hX d_Mo_readPartNumber_36 ?_
      refine G_istore_n hX (lv' := [(2, .int (zI ((128 * v) + (g x % 128)))), (5, .int (zI (g x))), (0, .ref (eA E 61)), (1, .int (zI qq)), (3, .int (zI t)), (4, .int (zI 1))]) rfl (by decide) rfl d_Mo_readPartNumber_37 ?_
      refine G_iinc_z hX (lv' := [(3, .int (zI (t + 1))), (2, .int (zI ((128 * v) + (g x % 128)))), (5, .int (zI (g x))), (0, .ref (eA E 61)), (1, .int (zI qq)), (4, .int (zI 1))]) 4 rfl (by decide) rfl d_Mo_readPartNumber_38 ?_
      refine G_iload hX 2 rfl d_Mo_readPartNumber_41 ?_
      refine G_bipush hX (by decide) d_Mo_readPartNumber_43 ?_
      refine G_icmp_le_z hX (tgt := 52) d_Mo_readPartNumber_45 rfl (by omega) (fun c19 => ?_) (fun c20 => ?_)
      · skip
        refine G_iconst hX d_Mo_readPartNumber_52 ?_
        refine G_istore hX (lv' := [(4, .int (zI 0)), (3, .int (zI (t + 1))), (2, .int (zI ((128 * v) + (g x % 128)))), (5, .int (zI (g x))), (0, .ref (eA E 61)), (1, .int (zI qq))]) (by decide) rfl d_Mo_readPartNumber_53 ?_
        refine G_iload hX 0 rfl d_Mo_readPartNumber_55 ?_
        refine G_if_eq_z hX (tgt := 71) d_Mo_readPartNumber_57 rfl (by omega) (fun c21 => ?_) (fun c22 => by exfalso; omega)
        refine G_goto hX (tgt := 7) d_Mo_readPartNumber_71 rfl ?_
        refine G_iload hX 0 rfl d_Mo_readPartNumber_7 ?_
        refine G_if_eq_z hX (tgt := 74) d_Mo_readPartNumber_9 rfl (by omega) (fun c23 => ?_) (fun c24 => by exfalso; omega)
        refine G_iload_n hX 2 rfl rfl d_Mo_readPartNumber_74 ?_
        have hN := hs.trans (numL_stop (by omega) hxe (by omega))
        exact F_iret hX hE d_Mo_readPartNumber_75 ⟨by rw [hN, Int.mul_comm], (by rw [hN]; exact (h17).trans (by rw [uz_at, uz_uz])), (Fr.tr (Fr.tr Fr.rf k3 (by decide)) k18 (by decide))⟩
      · skip
        refine G_iconst hX d_Mo_readPartNumber_48 ?_
        refine G_goto hX (tgt := 53) d_Mo_readPartNumber_49 rfl ?_
        refine G_istore hX (lv' := [(4, .int (zI 1)), (3, .int (zI (t + 1))), (2, .int (zI ((128 * v) + (g x % 128)))), (5, .int (zI (g x))), (0, .ref (eA E 61)), (1, .int (zI qq))]) (by decide) rfl d_Mo_readPartNumber_53 ?_
        refine G_iload hX 0 rfl d_Mo_readPartNumber_55 ?_
        refine G_if_eq_z hX (tgt := 71) d_Mo_readPartNumber_57 rfl (by omega) (fun c25 => by exfalso; omega) (fun c26 => ?_)
        have ht5 : ¬ t + 1 = 4 := by intro q; rw [numL_go (by omega) hxe (by omega), numL_end (Or.inl (by omega))] at hs; rw [hs] at hok; exact absurd hok (show ¬ (0 : Int) ≤ -1 by decide)
        refine G_iload_n hX 1 rfl rfl d_Mo_readPartNumber_60 ?_
        refine G_iconst hX d_Mo_readPartNumber_61 ?_
        refine G_icmp_ne_z hX (tgt := 71) d_Mo_readPartNumber_62 rfl (by omega) (fun c27 => ?_) (fun c28 => by exfalso; omega)
        refine G_goto hX (tgt := 7) d_Mo_readPartNumber_71 rfl ?_
        refine G_loc (lv' := [(0, .ref (eA E 61)), (1, .int (zI qq)), (2, .int (zI ((128 * v) + (g x % 128)))), (3, .int (zI (t + 1))), (4, .int (zI 1))]) [4, 5, 2, 1, 0] rfl ?_
        exact ih5 (t + 1) (x + 1) (128 * v + g x % 128) f14 (by omega) (by omega) (by omega) (hs.trans ((numL_go (by omega) hxe (by omega)).trans (by rw [Int.mul_comm v 128]))) (by rw [← uz_uz av qq x (x + 1)]; exact h17.trans (by rw [uz_at])) (Fr.tr (Fr.tr Fr.rf k3 (by decide)) k18 (by decide))
  refine G_loc (lv' := [(0, .ref (eA E 61)), (1, .int (zI qq)), (2, .int (zI 0)), (3, .int (zI 0)), (4, .int (zI 1))]) [3, 4, 2, 1, 0] rfl ?_
  refine G_cast (loop1 (_ + 1) 0 (av qq) 0 f (Nat.lt_succ_self _) (by decide) (by omega) rfl (by rw [uz_self]; exact hc83) Fr.rf) rfl (by rfl) rfl rfl
theorem c_Mo_readPartNumber_no (E : EV) (f : Nat → va_E) (F : Nat → Value) (qq : Int) (av : Int → Int) (ev : Int → Int) (b : Int → Int) (g : Int → Int) (sE : Int) (hMo : f 61 = mob F) (hmk : moK E F) (hF32 : F 32 = .int (zI 0)) (hc83 : f 83 = iz E 3 av) (hc84 : f 84 = iz E 3 ev) (hc63 : f 63 = iz E 1600 b) (hq : 0 ≤ qq ∧ qq ≤ 2) (hG : isB g) (hgb : ∀ i, 0 ≤ i → i < sE → b (600 + i) = g i) (hp : 0 ≤ av qq ∧ av qq ≤ ev qq ∧ ev qq ≤ sE ∧ sE ≤ 700) (hok : (numL g (ev qq) 4 (av qq) 0).1 < 0) (hav : avB av) : CF yn_Mo_readPartNumber cd_Mo_readPartNumber 6 (some (.int)) 2 E [.ref (eA E 61), .int (zI qq)] f (fun r f' => ∃ (F' : Nat → Value) (r' : Int) (av' : Int → Int), r = some (.int (zI r')) ∧ f' 61 = mob F' ∧ F' 32 = .int (zI (-2)) ∧ FrF [32] F F' ∧ f' 83 = iz E 3 av' ∧ (0 ≤ r' ∧ r' < 268435456) ∧ (avB av') ∧ Fr [83, 61] f f') := by
  refine CF.of (by decide +kernel) (Nat.le_of_ble_eq_true rfl) fun X hX hE => ?_
  have hX : Ok E X "DeltaFerryModel" "readPartNumber" cd_Mo_readPartNumber 6 (some (.int)) (rl 2) := hX
  refine G_cast (lv' := [(0, .ref (eA E 61)), (1, .int (zI qq))]) ?_ rfl rfl rfl rfl
  refine G_iconst hX d_Mo_readPartNumber_0 ?_
  refine G_istore_n hX (lv' := [(2, .int (zI 0)), (0, .ref (eA E 61)), (1, .int (zI qq))]) rfl (by decide) rfl d_Mo_readPartNumber_1 ?_
  refine G_iconst hX d_Mo_readPartNumber_2 ?_
  refine G_istore_n hX (lv' := [(3, .int (zI 0)), (2, .int (zI 0)), (0, .ref (eA E 61)), (1, .int (zI qq))]) rfl (by decide) rfl d_Mo_readPartNumber_3 ?_
  refine G_iconst hX d_Mo_readPartNumber_4 ?_
  refine G_istore hX (lv' := [(4, .int (zI 1)), (3, .int (zI 0)), (2, .int (zI 0)), (0, .ref (eA E 61)), (1, .int (zI qq))]) (by decide) rfl d_Mo_readPartNumber_5 ?_
  have loop4 : ∀ (q : Nat) (t : Int) (x : Int) (v : Int) (F1 : Nat → Value) (f5 : Nat → va_E), (4 - t).toNat < q → (0 ≤ t ∧ t ≤ 3 ∧ 0 ≤ v ∧ v < 268435456 ∧ (t = 0 → v = 0) ∧ (t = 1 → v < 128) ∧ (t = 2 → v < 16384) ∧ (t = 3 → v < 2097152)) → (av qq ≤ x ∧ x ≤ ev qq) → (numL g (ev qq) 4 (av qq) 0 = numL g (ev qq) (4 - t).toNat x v) → (F1 32 = .int (zI 0)) → (FrF [32] F F1) → f5 83 = iz E 3 (uz av qq x) → f5 61 = mob F1 → Fr [83, 61] f f5 → G E X 0 0 7 [(0, .ref (eA E 61)), (1, .int (zI qq)), (2, .int (zI v)), (3, .int (zI t)), (4, .int (zI 1))] [] (wl E f5) := by
    intro q
    induction q with
    | zero => intro t x v F1 f5 hms7; exact absurd hms7 (Nat.not_lt_zero _)
    | succ q ih8 =>
      intro t x v F1 f5 hms7 ht hx hs h2 k3 h9 h10 k6
      refine G_iload hX 4 rfl d_Mo_readPartNumber_7 ?_
      refine G_if_eq_z hX (tgt := 74) d_Mo_readPartNumber_9 rfl (by omega) (fun c11 => by exfalso; omega) (fun c12 => ?_)
      refine G_aload_n hX 0 rfl rfl d_Mo_readPartNumber_12 ?_
      refine M_get hX fg_Mo_345 d_Mo_readPartNumber_13 h10 (by decide) h2 ?_
      refine G_if_ne_z hX (tgt := 74) d_Mo_readPartNumber_16 rfl (by omega) (fun c13 => by exfalso; omega) (fun c14 => ?_)
      have ht4 : t < 4 := by omega
      by_cases hxe : x < ev qq
      · skip
        have hbx := hG x
        refine G_aload_n hX 0 rfl rfl d_Mo_readPartNumber_19 ?_
        refine G_iload_n hX 1 rfl rfl d_Mo_readPartNumber_20 ?_
        have h15 : f5 84 = iz E 3 ev := (k6 84 (by decide)).trans hc84
        have h16 : f5 63 = iz E 1600 b := (k6 63 (by decide)).trans hc63
        refine F_callV hX (st := []) (c_Mo_readPart_ok E f5 F1 qq (uz av qq x) ev b g sE h10 (moK_fr hmk (FrF.tr (FrF.rf (S := [32])) k3 (by decide)) (by decide)) h9 h15 h16 (by omega) hG hgb (by rw [uz_at]; omega)) cm_Mo_readPart im_Mo_readPart se_Mo_readPart rfl ml_Mo_361 d_Mo_readPartNumber_21 (by decide) h10 rfl rfl (Nat.le_of_ble_eq_true rfl) (by decide) ?_
        rintro _ f17 ⟨rfl, h20, k21⟩
        refine G_cast (st' := [.int (zI (g ((uz av qq x) qq)))]) ?_ rfl rfl rfl rfl
        refine G_top (show zI (g ((uz av qq x) qq)) = zI (g x) from congrArg (fun z => zI (g z)) (uz_at av qq x)) ?_
        refine G_istore hX (lv' := [(5, .int (zI (g x))), (0, .ref (eA E 61)), (1, .int (zI qq)), (2, .int (zI v)), (3, .int (zI t)), (4, .int (zI 1))]) (by decide) rfl d_Mo_readPartNumber_24 ?_
        refine G_sipush hX (by decide) d_Mo_readPartNumber_26 ?_
        refine G_iload_n hX 3 rfl rfl d_Mo_readPartNumber_29 ?_
        refine G_imul_z hX d_Mo_readPartNumber_30 ?_
        refine G_iload hX 0 rfl d_Mo_readPartNumber_31 ?_
        refine G_bipush hX (by decide) d_Mo_readPartNumber_33 ?_
        refine G_iand hX d_Mo_readPartNumber_35 ?_
        refine G_top (show (zI (g x) &&& zI 127) = zI (g x % 128) from zI_and127 _) ?_
        refine G_iadd_z hX d_Mo_readPartNumber_36 ?_
        refine G_istore_n hX (lv' := [(2, .int (zI ((128 * v) + (g x % 128)))), (5, .int (zI (g x))), (0, .ref (eA E 61)), (1, .int (zI qq)), (3, .int (zI t)), (4, .int (zI 1))]) rfl (by decide) rfl d_Mo_readPartNumber_37 ?_
        refine G_iinc_z hX (lv' := [(3, .int (zI (t + 1))), (2, .int (zI ((128 * v) + (g x % 128)))), (5, .int (zI (g x))), (0, .ref (eA E 61)), (1, .int (zI qq)), (4, .int (zI 1))]) 4 rfl (by decide) rfl d_Mo_readPartNumber_38 ?_
        refine G_iload hX 2 rfl d_Mo_readPartNumber_41 ?_
        refine G_bipush hX (by decide) d_Mo_readPartNumber_43 ?_
        refine G_icmp_le_z hX (tgt := 52) d_Mo_readPartNumber_45 rfl (by omega) (fun c22 => by rw [numL_stop (by omega) hxe (by omega)] at hs; rw [hs] at hok; (have hok2 : v * 128 + g x % 128 < 0 := hok); omega) (fun c23 => ?_)
        refine G_iconst hX d_Mo_readPartNumber_48 ?_
        refine G_goto hX (tgt := 53) d_Mo_readPartNumber_49 rfl ?_
        refine G_istore hX (lv' := [(4, .int (zI 1)), (3, .int (zI (t + 1))), (2, .int (zI ((128 * v) + (g x % 128)))), (5, .int (zI (g x))), (0, .ref (eA E 61)), (1, .int (zI qq))]) (by decide) rfl d_Mo_readPartNumber_53 ?_
        refine G_iload hX 0 rfl d_Mo_readPartNumber_55 ?_
        refine G_if_eq_z hX (tgt := 71) d_Mo_readPartNumber_57 rfl (by omega) (fun c24 => by exfalso; omega) (fun c25 => ?_)
        refine G_iload_n hX 1 rfl rfl d_Mo_readPartNumber_60 ?_
        refine G_iconst hX d_Mo_readPartNumber_61 ?_
        refine G_icmp_ne_z hX (tgt := 71) d_Mo_readPartNumber_62 rfl (by omega) (fun c26 => ?_) (fun c27 => ?_)
        · skip
          refine G_goto hX (tgt := 7) d_Mo_readPartNumber_71 rfl ?_
          have h28 : f17 61 = mob F1 := (k21 61 (by decide)).trans h10
          refine G_loc (lv' := [(0, .ref (eA E 61)), (1, .int (zI qq)), (2, .int (zI ((128 * v) + (g x % 128)))), (3, .int (zI (t + 1))), (4, .int (zI 1))]) [4, 5, 2, 1, 0] rfl ?_
          exact ih8 (t + 1) (x + 1) (128 * v + g x % 128) F1 f17 (by omega) (by omega) (by omega) (hs.trans ((numL_go (by omega) hxe (by omega)).trans (by rw [Int.mul_comm v 128]))) h2 (FrF.tr FrF.rf k3 (by decide)) (by rw [← uz_uz av qq x (x + 1)]; exact h20.trans (by rw [uz_at])) h28 (Fr.tr (Fr.tr Fr.rf k6 (by decide)) k21 (by decide))
        · skip
          refine G_aload_n hX 4 rfl rfl d_Mo_readPartNumber_65 ?_
          refine G_bipush hX (by decide) d_Mo_readPartNumber_66 ?_
          have h29 : f17 61 = mob F1 := (k21 61 (by decide)).trans h10
          refine F_callV hX (st := []) (c_Mo_refuse E f17 F1 (-2) h29 (moK_fr hmk (FrF.tr (FrF.rf (S := [32])) k3 (by decide)) (by decide)) h2) cm_Mo_refuse im_Mo_refuse se_Mo_refuse rfl ml_Mo_354 d_Mo_readPartNumber_68 (by decide) h29 rfl rfl (Nat.le_of_ble_eq_true rfl) (by decide) ?_
          rintro _ f30 ⟨rfl, F33, h34, h35, k36, k37⟩
          refine G_cast (st' := []) ?_ rfl rfl rfl rfl
          refine G_goto hX (tgt := 7) d_Mo_readPartNumber_71 rfl ?_
          refine G_iload hX 0 rfl d_Mo_readPartNumber_7 ?_
          refine G_if_eq_z hX (tgt := 74) d_Mo_readPartNumber_9 rfl (by omega) (fun c38 => by exfalso; omega) (fun c39 => ?_)
          refine G_aload_n hX 4 rfl rfl d_Mo_readPartNumber_12 ?_
          refine M_get hX fg_Mo_345 d_Mo_readPartNumber_13 h34 (by decide) h35 ?_
          refine G_if_ne_z hX (tgt := 74) d_Mo_readPartNumber_16 rfl (by omega) (fun c40 => ?_) (fun c41 => by exfalso; omega)
          refine G_iload_n hX 2 rfl rfl d_Mo_readPartNumber_74 ?_
          have h42 : f30 83 = iz E 3 (uz (uz av qq x) qq ((uz av qq x) qq + 1)) := (k37 83 (by decide)).trans h20
          exact F_iret hX hE d_Mo_readPartNumber_75 ⟨F33, _, _, rfl, h34, h35, (FrF.tr (FrF.tr FrF.rf k3 (by decide)) k36 (by decide)), h42, by omega, (avB_u (avB_u hav (by omega)) (by rw [uz_at]; omega)), (Fr.tr (Fr.tr (Fr.tr Fr.rf k6 (by decide)) k21 (by decide)) k37 (by decide))⟩
      · skip
        refine G_aload_n hX 0 rfl rfl d_Mo_readPartNumber_19 ?_
        refine G_iload_n hX 1 rfl rfl d_Mo_readPartNumber_20 ?_
        have h43 : f5 84 = iz E 3 ev := (k6 84 (by decide)).trans hc84
        refine F_callV hX (st := []) (c_Mo_readPart_no E f5 F1 qq (uz av qq x) ev h10 (moK_fr hmk (FrF.tr (FrF.rf (S := [32])) k3 (by decide)) (by decide)) h2 h9 h43 (by omega) (by rw [uz_at]; omega)) cm_Mo_readPart im_Mo_readPart se_Mo_readPart rfl ml_Mo_361 d_Mo_readPartNumber_21 (by decide) h10 rfl rfl (Nat.le_of_ble_eq_true rfl) (by decide) ?_
        rintro _ f44 ⟨rfl, F47, h48, h49, k50, k51⟩
        refine G_cast (st' := [.int (zI 0)]) ?_ rfl rfl rfl rfl
        refine G_istore hX (lv' := [(5, .int (zI 0)), (0, .ref (eA E 61)), (1, .int (zI qq)), (2, .int (zI v)), (3, .int (zI t)), (4, .int (zI 1))]) (by decide) rfl d_Mo_readPartNumber_24 ?_
        refine G_sipush hX (by decide) d_Mo_readPartNumber_26 ?_
        refine G_iload_n hX 3 rfl rfl d_Mo_readPartNumber_29 ?_
        refine G_imul_z hX d_Mo_readPartNumber_30 ?_
        refine G_iload hX 0 rfl d_Mo_readPartNumber_31 ?_
        refine G_bipush hX (by decide) d_Mo_readPartNumber_33 ?_
        refine G_iand hX d_Mo_readPartNumber_35 ?_
        refine G_top (show (zI 0 &&& zI 127) = zI 0 from by decide) ?_
        refine G_iadd_z hX d_Mo_readPartNumber_36 ?_
        refine G_istore_n hX (lv' := [(2, .int (zI ((128 * v) + 0))), (5, .int (zI 0)), (0, .ref (eA E 61)), (1, .int (zI qq)), (3, .int (zI t)), (4, .int (zI 1))]) rfl (by decide) rfl d_Mo_readPartNumber_37 ?_
        refine G_iinc_z hX (lv' := [(3, .int (zI (t + 1))), (2, .int (zI ((128 * v) + 0))), (5, .int (zI 0)), (0, .ref (eA E 61)), (1, .int (zI qq)), (4, .int (zI 1))]) 4 rfl (by decide) rfl d_Mo_readPartNumber_38 ?_
        refine G_iload hX 2 rfl d_Mo_readPartNumber_41 ?_
        refine G_bipush hX (by decide) d_Mo_readPartNumber_43 ?_
        refine G_icmp_le_z hX (tgt := 52) d_Mo_readPartNumber_45 rfl (by omega) (fun c52 => ?_) (fun c53 => by exfalso; omega)
        refine G_iconst hX d_Mo_readPartNumber_52 ?_
        refine G_istore hX (lv' := [(4, .int (zI 0)), (3, .int (zI (t + 1))), (2, .int (zI ((128 * v) + 0))), (5, .int (zI 0)), (0, .ref (eA E 61)), (1, .int (zI qq))]) (by decide) rfl d_Mo_readPartNumber_53 ?_
        refine G_iload hX 0 rfl d_Mo_readPartNumber_55 ?_
        refine G_if_eq_z hX (tgt := 71) d_Mo_readPartNumber_57 rfl (by omega) (fun c54 => ?_) (fun c55 => by exfalso; omega)
        refine G_goto hX (tgt := 7) d_Mo_readPartNumber_71 rfl ?_
        refine G_iload hX 0 rfl d_Mo_readPartNumber_7 ?_
        refine G_if_eq_z hX (tgt := 74) d_Mo_readPartNumber_9 rfl (by omega) (fun c56 => ?_) (fun c57 => by exfalso; omega)
        refine G_iload_n hX 2 rfl rfl d_Mo_readPartNumber_74 ?_
        have h58 : f44 83 = iz E 3 (uz av qq x) := (k51 83 (by decide)).trans h9
        exact F_iret hX hE d_Mo_readPartNumber_75 ⟨F47, _, _, rfl, h48, h49, (FrF.tr (FrF.tr FrF.rf k3 (by decide)) k50 (by decide)), h58, by omega, (avB_u hav (by omega)), (Fr.tr (Fr.tr Fr.rf k6 (by decide)) k51 (by decide))⟩
  refine G_loc (lv' := [(0, .ref (eA E 61)), (1, .int (zI qq)), (2, .int (zI 0)), (3, .int (zI 0)), (4, .int (zI 1))]) [3, 4, 2, 1, 0] rfl ?_
  refine G_cast (loop4 (_ + 1) 0 (av qq) 0 F f (Nat.lt_succ_self _) (by decide) (by omega) rfl hF32 FrF.rf (by rw [uz_self]; exact hc83) hMo Fr.rf) rfl (by rfl) rfl rfl
theorem c_Mo_readPartNumber_f (E : EV) (f : Nat → va_E) (F : Nat → Value) (qq : Int) (fl : Int) (hMo : f 61 = mob F) (hmk : moK E F) (hF32 : F 32 = .int (zI fl)) (hfl : fl ≠ 0 ∧ -10 ≤ fl ∧ fl ≤ 0) : CF yn_Mo_readPartNumber cd_Mo_readPartNumber 6 (some (.int)) 2 E [.ref (eA E 61), .int (zI qq)] f (fun r f' => r = some (.int (zI 0)) ∧ f' = f) := by
  refine CF.of (by decide +kernel) (Nat.le_of_ble_eq_true rfl) fun X hX hE => ?_
  have hX : Ok E X "DeltaFerryModel" "readPartNumber" cd_Mo_readPartNumber 6 (some (.int)) (rl 2) := hX
  refine G_cast (lv' := [(0, .ref (eA E 61)), (1, .int (zI qq))]) ?_ rfl rfl rfl rfl
  refine G_iconst hX d_Mo_readPartNumber_0 ?_
  refine G_istore_n hX (lv' := [(2, .int (zI 0)), (0, .ref (eA E 61)), (1, .int (zI qq))]) rfl (by decide) rfl d_Mo_readPartNumber_1 ?_
  refine G_iconst hX d_Mo_readPartNumber_2 ?_
  refine G_istore_n hX (lv' := [(3, .int (zI 0)), (2, .int (zI 0)), (0, .ref (eA E 61)), (1, .int (zI qq))]) rfl (by decide) rfl d_Mo_readPartNumber_3 ?_
  refine G_iconst hX d_Mo_readPartNumber_4 ?_
  refine G_istore hX (lv' := [(4, .int (zI 1)), (3, .int (zI 0)), (2, .int (zI 0)), (0, .ref (eA E 61)), (1, .int (zI qq))]) (by decide) rfl d_Mo_readPartNumber_5 ?_
  refine G_iload hX 0 rfl d_Mo_readPartNumber_7 ?_
  refine G_if_eq_z hX (tgt := 74) d_Mo_readPartNumber_9 rfl (by omega) (fun c1 => by exfalso; omega) (fun c2 => ?_)
  refine G_aload_n hX 3 rfl rfl d_Mo_readPartNumber_12 ?_
  refine M_get hX fg_Mo_345 d_Mo_readPartNumber_13 hMo (by decide) hF32 ?_
  refine G_if_ne_z hX (tgt := 74) d_Mo_readPartNumber_16 rfl (by omega) (fun c3 => ?_) (fun c4 => by exfalso; omega)
  refine G_iload_n hX 2 rfl rfl d_Mo_readPartNumber_74 ?_
  exact F_iret hX hE d_Mo_readPartNumber_75 ⟨rfl, rfl⟩
theorem c_Mo_modes (E : EV) (f : Nat → va_E) (F : Nat → Value) (N : Int) (S : Int) (hMo : f 61 = mob F) (hmk : moK E F) (hF25 : F 25 = .int (zI N)) (hF26 : F 26 = .int (zI S)) : CF yn_Mo_modes cd_Mo_modes 1 (some (.int)) 0 E [.ref (eA E 61)] f (fun r f' => r = some (.int (zI (2 + N + S))) ∧ f' = f) := by
  refine CF.of (by decide +kernel) (Nat.le_of_ble_eq_true rfl) fun X hX hE => ?_
  have hX : Ok E X "DeltaFerryModel" "modes" cd_Mo_modes 1 (some (.int)) (rl 0) := hX
  refine G_cast (lv' := [(0, .ref (eA E 61))]) ?_ rfl rfl rfl rfl
  refine G_iconst hX d_Mo_modes_0 ?_
  refine G_aload_n hX 0 rfl rfl d_Mo_modes_1 ?_
  refine M_get hX fg_Mo_278 d_Mo_modes_2 hMo (by decide) hF25 ?_
  refine G_iadd_z hX d_Mo_modes_5 ?_
  refine G_aload_n hX 0 rfl rfl d_Mo_modes_6 ?_
  refine M_get hX fg_Mo_281 d_Mo_modes_7 hMo (by decide) hF26 ?_
  refine G_iadd_z hX d_Mo_modes_10 ?_
  exact F_iret hX hE d_Mo_modes_11 ⟨rfl, rfl⟩
theorem c_Mo_readAddress_ok (E : EV) (f : Nat → va_E) (F : Nat → Value) (md : Int) (here : Int) (N : Int) (S : Int) (nr : Int → Int) (sm : Int → Int) (av : Int → Int) (ev : Int → Int) (b : Int → Int) (g : Int → Int) (sE : Int) (hMo : f 61 = mob F) (hmk : moK E F) (hF25 : F 25 = .int (zI N)) (hF26 : F 26 = .int (zI S)) (hF32 : F 32 = .int (zI 0)) (hc78 : f 78 = iz E 8 nr) (hc79 : f 79 = iz E 1024 sm) (hc83 : f 83 = iz E 3 av) (hc84 : f 84 = iz E 3 ev) (hc63 : f 63 = iz E 1600 b) (hm : 0 ≤ md ∧ md < 256) (hh : 0 ≤ here ∧ here ≤ 100000) (hN : 0 ≤ N ∧ N ≤ 8 ∧ 0 ≤ S ∧ S ≤ 4) (hnr : ∀ k, 0 ≤ nr k ∧ nr k ≤ 100000) (hsm : ∀ k, 0 ≤ sm k ∧ sm k ≤ 100000) (hG : isB g) (hgb : ∀ i, 0 ≤ i → i < sE → b (600 + i) = g i) (hp : 0 ≤ av 2 ∧ av 2 ≤ ev 2 ∧ ev 2 ≤ sE ∧ sE ≤ 700) (hok : (md < 2 + N ∧ 0 ≤ (numL g (ev 2) 4 (av 2) 0).1) ∨ (2 + N ≤ md ∧ md < 2 + N + S ∧ av 2 < ev 2)) : CF yn_Mo_readAddress cd_Mo_readAddress 4 (some (.int)) 3 E [.ref (eA E 61), .int (zI md), .int (zI here)] f (fun r f' => r = some (.int (zI ((hrR nr sm N S md here g (av 2) (ev 2)).1))) ∧ f' 83 = iz E 3 (uz av 2 (hrR nr sm N S md here g (av 2) (ev 2)).2) ∧ Fr [83] f f') := by
  refine CF.of (by decide +kernel) (Nat.le_of_ble_eq_true rfl) fun X hX hE => ?_
  have hX : Ok E X "DeltaFerryModel" "readAddress" cd_Mo_readAddress 4 (some (.int)) (rl 3) := hX
  refine G_cast (lv' := [(0, .ref (eA E 61)), (1, .int (zI md)), (2, .int (zI here))]) ?_ rfl rfl rfl rfl
  have hga := hG (av 2)
  refine G_iload_n hX 1 rfl rfl d_Mo_readAddress_0 ?_
  refine G_aload_n hX 0 rfl rfl d_Mo_readAddress_1 ?_
  refine F_callV hX (st := [.int (zI md)]) (c_Mo_modes E f F N S hMo hmk hF25 hF26) cm_Mo_modes im_Mo_modes se_Mo_modes rfl ml_Mo_367 d_Mo_readAddress_2 (by decide) hMo rfl rfl (Nat.le_of_ble_eq_true rfl) (by decide) ?_
  rintro _ f1 ⟨rfl, e4⟩
  obtain rfl := e4.symm
  refine G_cast (st' := [.int (zI (2 + N + S)), .int (zI md)]) ?_ rfl rfl rfl rfl
  refine G_icmp_lt_z hX (tgt := 16) d_Mo_readAddress_5 rfl (by omega) (fun c5 => ?_) (fun c6 => by exfalso; omega)
  refine G_iload_n hX 1 rfl rfl d_Mo_readAddress_16 ?_
  refine G_iconst hX d_Mo_readAddress_17 ?_
  refine G_aload_n hX 0 rfl rfl d_Mo_readAddress_18 ?_
  refine M_get hX fg_Mo_278 d_Mo_readAddress_19 hMo (by decide) hF25 ?_
  refine G_iadd_z hX d_Mo_readAddress_22 ?_
  refine G_icmp_lt_z hX (tgt := 50) d_Mo_readAddress_23 rfl (by omega) (fun c7 => ?_) (fun c8 => ?_)
  · skip
    have hH : hrR nr sm N S md here g (av 2) (ev 2) = (if md = 0 then (numL g (ev 2) 4 (av 2) 0).1 else if md = 1 then here - (numL g (ev 2) 4 (av 2) 0).1 else nr (md - 2) + (numL g (ev 2) 4 (av 2) 0).1, (numL g (ev 2) 4 (av 2) 0).2) := by unfold hrR; rw [if_pos (by omega), if_neg (by omega)]
    refine G_aload_n hX 0 rfl rfl d_Mo_readAddress_50 ?_
    refine G_iconst hX d_Mo_readAddress_51 ?_
    refine F_callV hX (st := []) (c_Mo_readPartNumber_ok E f F 2 av ev b g sE hMo hmk hF32 hc83 hc84 hc63 (by omega) hG hgb (by omega) (by omega)) cm_Mo_readPartNumber im_Mo_readPartNumber se_Mo_readPartNumber rfl ml_Mo_370 d_Mo_readAddress_52 (by decide) hMo rfl rfl (Nat.le_of_ble_eq_true rfl) (by decide) ?_
    rintro _ f9 ⟨rfl, h12, k13⟩
    refine G_cast (st' := [.int (zI ((numL g (ev 2) 4 (av 2) 0).1))]) ?_ rfl rfl rfl rfl
    refine G_istore_n hX (lv' := [(3, .int (zI ((numL g (ev 2) 4 (av 2) 0).1))), (0, .ref (eA E 61)), (1, .int (zI md)), (2, .int (zI here))]) rfl (by decide) rfl d_Mo_readAddress_55 ?_
    refine G_iload_n hX 2 rfl rfl d_Mo_readAddress_56 ?_
    refine G_if_ne_z hX (tgt := 64) d_Mo_readAddress_57 rfl (by omega) (fun c14 => ?_) (fun c15 => ?_)
    · skip
      refine G_iload_n hX 2 rfl rfl d_Mo_readAddress_64 ?_
      refine G_iconst hX d_Mo_readAddress_65 ?_
      refine G_icmp_ne_z hX (tgt := 75) d_Mo_readAddress_66 rfl (by omega) (fun c16 => ?_) (fun c17 => ?_)
      · skip
        refine G_aload_n hX 1 rfl rfl d_Mo_readAddress_75 ?_
        have h18 : f9 61 = mob F := (k13 61 (by decide)).trans hMo
        refine M_get hX fg_Mo_130 d_Mo_readAddress_76 h18 (by decide) (hmk 28 78 (by decide)) ?_
        refine G_iload_n hX 2 rfl rfl d_Mo_readAddress_79 ?_
        refine G_iconst hX d_Mo_readAddress_80 ?_
        refine G_isub_z hX d_Mo_readAddress_81 ?_
        have h19 : f9 78 = iz E 8 nr := (k13 78 (by decide)).trans hc78
        refine F_iald hX d_Mo_readAddress_82 78 (by decide) h19 (by omega) ?_
        have b20 := hnr (md - 2)
        refine G_iload_n hX 0 rfl rfl d_Mo_readAddress_83 ?_
        refine G_iadd_z hX d_Mo_readAddress_84 ?_
        exact F_iret hX hE d_Mo_readAddress_85 ⟨by rw [hH]; exact congrArg (fun z => some (Value.int (zI z))) (((if_neg (by omega)).trans (if_neg (by omega))).symm), (by rw [hH]; exact h12), (Fr.tr Fr.rf k13 (by decide))⟩
      · skip
        refine G_iload_n hX 3 rfl rfl d_Mo_readAddress_69 ?_
        refine G_iload_n hX 0 rfl rfl d_Mo_readAddress_70 ?_
        refine G_isub_z hX d_Mo_readAddress_71 ?_
        refine G_goto hX (tgt := 85) d_Mo_readAddress_72 rfl ?_
        exact F_iret hX hE d_Mo_readAddress_85 ⟨by rw [hH]; exact congrArg (fun z => some (Value.int (zI z))) (((if_neg (by omega)).trans (if_pos (by omega))).symm), (by rw [hH]; exact h12), (Fr.tr Fr.rf k13 (by decide))⟩
    · skip
      refine G_iload_n hX 0 rfl rfl d_Mo_readAddress_60 ?_
      refine G_goto hX (tgt := 85) d_Mo_readAddress_61 rfl ?_
      exact F_iret hX hE d_Mo_readAddress_85 ⟨by rw [hH]; exact congrArg (fun z => some (Value.int (zI z))) ((if_pos (by omega)).symm), (by rw [hH]; exact h12), (Fr.tr Fr.rf k13 (by decide))⟩
  · skip
    have hH : hrR nr sm N S md here g (av 2) (ev 2) = (sm (256 * (md - 2 - N) + g (av 2)), av 2 + 1) := by unfold hrR; rw [if_neg (by omega), if_pos (by omega), if_pos (by omega)]
    refine G_aload_n hX 0 rfl rfl d_Mo_readAddress_26 ?_
    refine M_get hX fg_Mo_133 d_Mo_readAddress_27 hMo (by decide) (hmk 29 79 (by decide)) ?_
    refine G_sipush hX (by decide) d_Mo_readAddress_30 ?_
    refine G_iload_n hX 1 rfl rfl d_Mo_readAddress_33 ?_
    refine G_iconst hX d_Mo_readAddress_34 ?_
    refine G_isub_z hX d_Mo_readAddress_35 ?_
    refine G_aload_n hX 0 rfl rfl d_Mo_readAddress_36 ?_
    refine M_get hX fg_Mo_278 d_Mo_readAddress_37 hMo (by decide) hF25 ?_
    refine G_isub_z hX d_Mo_readAddress_40 ?_
    refine G_imul_z hX d_Mo_readAddress_41 ?_
    refine G_aload_n hX 0 rfl rfl d_Mo_readAddress_42 ?_
    refine G_iconst hX d_Mo_readAddress_43 ?_
    refine F_callV hX (st := [.int (zI (256 * ((md - 2) - N))), .ref (eA E 79)]) (c_Mo_readPart_ok E f F 2 av ev b g sE hMo hmk hc83 hc84 hc63 (by omega) hG hgb (by omega)) cm_Mo_readPart im_Mo_readPart se_Mo_readPart rfl ml_Mo_361 d_Mo_readAddress_44 (by decide) hMo rfl rfl (Nat.le_of_ble_eq_true rfl) (by decide) ?_
    rintro _ f21 ⟨rfl, h24, k25⟩
    refine G_cast (st' := [.int (zI (g (av 2))), .int (zI (256 * ((md - 2) - N))), .ref (eA E 79)]) ?_ rfl rfl rfl rfl
    refine G_iadd_z hX d_Mo_readAddress_47 ?_
    have h26 : f21 79 = iz E 1024 sm := (k25 79 (by decide)).trans hc79
    refine F_iald hX d_Mo_readAddress_48 79 (by decide) h26 (by omega) ?_
    have b27 := hsm ((256 * ((md - 2) - N)) + (g (av 2)))
    exact F_iret hX hE d_Mo_readAddress_49 ⟨by rw [hH], (by rw [hH]; exact h24), (Fr.tr Fr.rf k25 (by decide))⟩
theorem c_Mo_readAddress_no (E : EV) (f : Nat → va_E) (F : Nat → Value) (md : Int) (here : Int) (N : Int) (S : Int) (nr : Int → Int) (sm : Int → Int) (av : Int → Int) (ev : Int → Int) (b : Int → Int) (g : Int → Int) (sE : Int) (hMo : f 61 = mob F) (hmk : moK E F) (hF25 : F 25 = .int (zI N)) (hF26 : F 26 = .int (zI S)) (hF32 : F 32 = .int (zI 0)) (hc78 : f 78 = iz E 8 nr) (hc79 : f 79 = iz E 1024 sm) (hc83 : f 83 = iz E 3 av) (hc84 : f 84 = iz E 3 ev) (hc63 : f 63 = iz E 1600 b) (hm : 0 ≤ md ∧ md < 256) (hh : 0 ≤ here ∧ here ≤ 100000) (hN : 0 ≤ N ∧ N ≤ 8 ∧ 0 ≤ S ∧ S ≤ 4) (hnr : ∀ k, 0 ≤ nr k ∧ nr k ≤ 100000) (hsm : ∀ k, 0 ≤ sm k ∧ sm k ≤ 100000) (hG : isB g) (hgb : ∀ i, 0 ≤ i → i < sE → b (600 + i) = g i) (hp : 0 ≤ av 2 ∧ av 2 ≤ ev 2 ∧ ev 2 ≤ sE ∧ sE ≤ 700) (hav : avB av) (hev : avB ev) (hok : ¬ ((md < 2 + N ∧ 0 ≤ (numL g (ev 2) 4 (av 2) 0).1) ∨ (2 + N ≤ md ∧ md < 2 + N + S ∧ av 2 < ev 2))) : CF yn_Mo_readAddress cd_Mo_readAddress 4 (some (.int)) 3 E [.ref (eA E 61), .int (zI md), .int (zI here)] f (fun r f' => ∃ (F' : Nat → Value) (r' : Int) (av' : Int → Int), r = some (.int (zI r')) ∧ f' 61 = mob F' ∧ F' 32 = .int (zI (-2)) ∧ FrF [32] F F' ∧ f' 83 = iz E 3 av' ∧ (-1000000000 ≤ r' ∧ r' < 1000000000) ∧ (avB av') ∧ (¬ 0 ≤ (hrR nr sm N S md here g (av 2) (ev 2)).1) ∧ Fr [83, 61] f f') := by
  refine CF.of (by decide +kernel) (Nat.le_of_ble_eq_true rfl) fun X hX hE => ?_
  have hX : Ok E X "DeltaFerryModel" "readAddress" cd_Mo_readAddress 4 (some (.int)) (rl 3) := hX
  refine G_cast (lv' := [(0, .ref (eA E 61)), (1, .int (zI md)), (2, .int (zI here))]) ?_ rfl rfl rfl rfl
  refine G_iload_n hX 1 rfl rfl d_Mo_readAddress_0 ?_
  refine G_aload_n hX 0 rfl rfl d_Mo_readAddress_1 ?_
  refine F_callV hX (st := [.int (zI md)]) (c_Mo_modes E f F N S hMo hmk hF25 hF26) cm_Mo_modes im_Mo_modes se_Mo_modes rfl ml_Mo_367 d_Mo_readAddress_2 (by decide) hMo rfl rfl (Nat.le_of_ble_eq_true rfl) (by decide) ?_
  rintro _ f1 ⟨rfl, e4⟩
  obtain rfl := e4.symm
  refine G_cast (st' := [.int (zI (2 + N + S)), .int (zI md)]) ?_ rfl rfl rfl rfl
  refine G_icmp_lt_z hX (tgt := 16) d_Mo_readAddress_5 rfl (by omega) (fun c5 => ?_) (fun c6 => ?_)
  · skip
    refine G_iload_n hX 1 rfl rfl d_Mo_readAddress_16 ?_
    refine G_iconst hX d_Mo_readAddress_17 ?_
    refine G_aload_n hX 0 rfl rfl d_Mo_readAddress_18 ?_
    refine M_get hX fg_Mo_278 d_Mo_readAddress_19 hMo (by decide) hF25 ?_
    refine G_iadd_z hX d_Mo_readAddress_22 ?_
    refine G_icmp_lt_z hX (tgt := 50) d_Mo_readAddress_23 rfl (by omega) (fun c7 => ?_) (fun c8 => ?_)
    · skip
      have hH : ¬ 0 ≤ (hrR nr sm N S md here g (av 2) (ev 2)).1 := by unfold hrR; rw [if_pos (by omega), if_pos (by omega)]; exact (show ¬ (0 : Int) ≤ -1 by decide)
      refine G_aload_n hX 0 rfl rfl d_Mo_readAddress_50 ?_
      refine G_iconst hX d_Mo_readAddress_51 ?_
      refine F_callV hX (st := []) (c_Mo_readPartNumber_no E f F 2 av ev b g sE hMo hmk hF32 hc83 hc84 hc63 (by omega) hG hgb (by omega) (by omega) hav) cm_Mo_readPartNumber im_Mo_readPartNumber se_Mo_readPartNumber rfl ml_Mo_370 d_Mo_readAddress_52 (by decide) hMo rfl rfl (Nat.le_of_ble_eq_true rfl) (by decide) ?_
      rintro _ f9 ⟨F12, r'_13, av'_14, rfl, h15, h16, k17, h18, p19, p20, k21⟩
      refine G_cast (st' := [.int (zI r'_13)]) ?_ rfl rfl rfl rfl
      refine G_istore_n hX (lv' := [(3, .int (zI r'_13)), (0, .ref (eA E 61)), (1, .int (zI md)), (2, .int (zI here))]) rfl (by decide) rfl d_Mo_readAddress_55 ?_
      refine G_iload_n hX 2 rfl rfl d_Mo_readAddress_56 ?_
      refine G_if_ne_z hX (tgt := 64) d_Mo_readAddress_57 rfl (by omega) (fun c22 => ?_) (fun c23 => ?_)
      · skip
        refine G_iload_n hX 2 rfl rfl d_Mo_readAddress_64 ?_
        refine G_iconst hX d_Mo_readAddress_65 ?_
        refine G_icmp_ne_z hX (tgt := 75) d_Mo_readAddress_66 rfl (by omega) (fun c24 => ?_) (fun c25 => ?_)
        · skip
          refine G_aload_n hX 1 rfl rfl d_Mo_readAddress_75 ?_
          have h26 : F12 28 = .ref (eA E 78) := (k17 28 (by decide)).trans (hmk 28 78 (by decide))
          refine M_get hX fg_Mo_130 d_Mo_readAddress_76 h15 (by decide) h26 ?_
          refine G_iload_n hX 2 rfl rfl d_Mo_readAddress_79 ?_
          refine G_iconst hX d_Mo_readAddress_80 ?_
          refine G_isub_z hX d_Mo_readAddress_81 ?_
          have h27 : f9 78 = iz E 8 nr := (k21 78 (by decide)).trans hc78
          refine F_iald hX d_Mo_readAddress_82 78 (by decide) h27 (by omega) ?_
          have b28 := hnr (md - 2)
          refine G_iload_n hX 0 rfl rfl d_Mo_readAddress_83 ?_
          refine G_iadd_z hX d_Mo_readAddress_84 ?_
          exact F_iret hX hE d_Mo_readAddress_85 ⟨F12, _, _, rfl, h15, h16, (FrF.tr FrF.rf k17 (by decide)), h18, by omega, p20, hH, (Fr.tr Fr.rf k21 (by decide))⟩
        · skip
          refine G_iload_n hX 3 rfl rfl d_Mo_readAddress_69 ?_
          refine G_iload_n hX 0 rfl rfl d_Mo_readAddress_70 ?_
          refine G_isub_z hX d_Mo_readAddress_71 ?_
          refine G_goto hX (tgt := 85) d_Mo_readAddress_72 rfl ?_
          exact F_iret hX hE d_Mo_readAddress_85 ⟨F12, _, _, rfl, h15, h16, (FrF.tr FrF.rf k17 (by decide)), h18, by omega, p20, hH, (Fr.tr Fr.rf k21 (by decide))⟩
      · skip
        refine G_iload_n hX 0 rfl rfl d_Mo_readAddress_60 ?_
        refine G_goto hX (tgt := 85) d_Mo_readAddress_61 rfl ?_
        exact F_iret hX hE d_Mo_readAddress_85 ⟨F12, _, _, rfl, h15, h16, (FrF.tr FrF.rf k17 (by decide)), h18, by omega, p20, hH, (Fr.tr Fr.rf k21 (by decide))⟩
    · skip
      have hH : ¬ 0 ≤ (hrR nr sm N S md here g (av 2) (ev 2)).1 := by unfold hrR; rw [if_neg (by omega), if_pos (by omega), if_neg (by omega)]; exact (show ¬ (0 : Int) ≤ -1 by decide)
      refine G_aload_n hX 0 rfl rfl d_Mo_readAddress_26 ?_
      refine M_get hX fg_Mo_133 d_Mo_readAddress_27 hMo (by decide) (hmk 29 79 (by decide)) ?_
      refine G_sipush hX (by decide) d_Mo_readAddress_30 ?_
      refine G_iload_n hX 1 rfl rfl d_Mo_readAddress_33 ?_
      refine G_iconst hX d_Mo_readAddress_34 ?_
      refine G_isub_z hX d_Mo_readAddress_35 ?_
      refine G_aload_n hX 0 rfl rfl d_Mo_readAddress_36 ?_
      refine M_get hX fg_Mo_278 d_Mo_readAddress_37 hMo (by decide) hF25 ?_
      refine G_isub_z hX d_Mo_readAddress_40 ?_
      refine G_imul_z hX d_Mo_readAddress_41 ?_
      refine G_aload_n hX 0 rfl rfl d_Mo_readAddress_42 ?_
      refine G_iconst hX d_Mo_readAddress_43 ?_
      refine F_callV hX (st := [.int (zI (256 * ((md - 2) - N))), .ref (eA E 79)]) (c_Mo_readPart_no E f F 2 av ev hMo hmk hF32 hc83 hc84 (by omega) (by omega)) cm_Mo_readPart im_Mo_readPart se_Mo_readPart rfl ml_Mo_361 d_Mo_readAddress_44 (by decide) hMo rfl rfl (Nat.le_of_ble_eq_true rfl) (by decide) ?_
      rintro _ f29 ⟨rfl, F32, h33, h34, k35, k36⟩
      refine G_cast (st' := [.int (zI 0), .int (zI (256 * ((md - 2) - N))), .ref (eA E 79)]) ?_ rfl rfl rfl rfl
      refine G_iadd_z hX d_Mo_readAddress_47 ?_
      have hbs := hsm ((256 * ((md - 2) - N)) + 0)
      have h37 : f29 79 = iz E 1024 sm := (k36 79 (by decide)).trans hc79
      refine F_iald hX d_Mo_readAddress_48 79 (by decide) h37 (by omega) ?_
      have b38 := hsm ((256 * ((md - 2) - N)) + 0)
      have h39 : f29 83 = iz E 3 av := (k36 83 (by decide)).trans hc83
      exact F_iret hX hE d_Mo_readAddress_49 ⟨F32, _, _, rfl, h33, h34, (FrF.tr FrF.rf k35 (by decide)), h39, by omega, hav, hH, (Fr.tr Fr.rf k36 (by decide))⟩
  · skip
    have hH : ¬ 0 ≤ (hrR nr sm N S md here g (av 2) (ev 2)).1 := by unfold hrR; rw [if_neg (by omega), if_neg (by omega)]; exact (show ¬ (0 : Int) ≤ -1 by decide)
    refine G_aload_n hX 0 rfl rfl d_Mo_readAddress_8 ?_
    refine G_bipush hX (by decide) d_Mo_readAddress_9 ?_
    refine F_callV hX (st := []) (c_Mo_refuse E f F (-2) hMo hmk hF32) cm_Mo_refuse im_Mo_refuse se_Mo_refuse rfl ml_Mo_354 d_Mo_readAddress_11 (by decide) hMo rfl rfl (Nat.le_of_ble_eq_true rfl) (by decide) ?_
    rintro _ f40 ⟨rfl, F43, h44, h45, k46, k47⟩
    refine G_cast (st' := []) ?_ rfl rfl rfl rfl
    refine G_iconst hX d_Mo_readAddress_14 ?_
    have h48 : f40 83 = iz E 3 av := (k47 83 (by decide)).trans hc83
    exact F_iret hX hE d_Mo_readAddress_15 ⟨F43, _, _, rfl, h44, h45, (FrF.tr FrF.rf k46 (by decide)), h48, by omega, hav, hH, (Fr.tr Fr.rf k47 (by decide))⟩
theorem c_Mo_readAddress_f (E : EV) (f : Nat → va_E) (F : Nat → Value) (md : Int) (here : Int) (N : Int) (S : Int) (nr : Int → Int) (sm : Int → Int) (av : Int → Int) (ev : Int → Int) (b : Int → Int) (g : Int → Int) (sE : Int) (fl : Int) (hMo : f 61 = mob F) (hmk : moK E F) (hF25 : F 25 = .int (zI N)) (hF26 : F 26 = .int (zI S)) (hF32 : F 32 = .int (zI fl)) (hc78 : f 78 = iz E 8 nr) (hc79 : f 79 = iz E 1024 sm) (hc83 : f 83 = iz E 3 av) (hc84 : f 84 = iz E 3 ev) (hc63 : f 63 = iz E 1600 b) (hm : 0 ≤ md ∧ md < 256) (hh : 0 ≤ here ∧ here ≤ 100000) (hN : 0 ≤ N ∧ N ≤ 8 ∧ 0 ≤ S ∧ S ≤ 4) (hnr : ∀ k, 0 ≤ nr k ∧ nr k ≤ 100000) (hsm : ∀ k, 0 ≤ sm k ∧ sm k ≤ 100000) (hG : isB g) (hgb : ∀ i, 0 ≤ i → i < sE → b (600 + i) = g i) (hav : avB av) (hev : avB ev) (hen : ∀ i, 0 ≤ i → i ≤ 2 → ev i ≤ sE) (hsE : sE ≤ 700) (hfl : fl ≠ 0 ∧ -10 ≤ fl ∧ fl ≤ 0) : CF yn_Mo_readAddress cd_Mo_readAddress 4 (some (.int)) 3 E [.ref (eA E 61), .int (zI md), .int (zI here)] f (fun r f' => ∃ (F' : Nat → Value) (r' : Int) (av' : Int → Int), r = some (.int (zI r')) ∧ f' 61 = mob F' ∧ F' 32 = .int (zI fl) ∧ FrF [32] F F' ∧ f' 83 = iz E 3 av' ∧ (-1000000000 ≤ r' ∧ r' < 1000000000) ∧ (avB av') ∧ Fr [83, 61] f f') := by
  refine CF.of (by decide +kernel) (Nat.le_of_ble_eq_true rfl) fun X hX hE => ?_
  have hX : Ok E X "DeltaFerryModel" "readAddress" cd_Mo_readAddress 4 (some (.int)) (rl 3) := hX
  refine G_cast (lv' := [(0, .ref (eA E 61)), (1, .int (zI md)), (2, .int (zI here))]) ?_ rfl rfl rfl rfl
  refine G_iload_n hX 1 rfl rfl d_Mo_readAddress_0 ?_
  refine G_aload_n hX 0 rfl rfl d_Mo_readAddress_1 ?_
  refine F_callV hX (st := [.int (zI md)]) (c_Mo_modes E f F N S hMo hmk hF25 hF26) cm_Mo_modes im_Mo_modes se_Mo_modes rfl ml_Mo_367 d_Mo_readAddress_2 (by decide) hMo rfl rfl (Nat.le_of_ble_eq_true rfl) (by decide) ?_
  rintro _ f1 ⟨rfl, e4⟩
  obtain rfl := e4.symm
  refine G_cast (st' := [.int (zI (2 + N + S)), .int (zI md)]) ?_ rfl rfl rfl rfl
  refine G_icmp_lt_z hX (tgt := 16) d_Mo_readAddress_5 rfl (by omega) (fun c5 => ?_) (fun c6 => ?_)
  · skip
    refine G_iload_n hX 1 rfl rfl d_Mo_readAddress_16 ?_
    refine G_iconst hX d_Mo_readAddress_17 ?_
    refine G_aload_n hX 0 rfl rfl d_Mo_readAddress_18 ?_
    refine M_get hX fg_Mo_278 d_Mo_readAddress_19 hMo (by decide) hF25 ?_
    refine G_iadd_z hX d_Mo_readAddress_22 ?_
    refine G_icmp_lt_z hX (tgt := 50) d_Mo_readAddress_23 rfl (by omega) (fun c7 => ?_) (fun c8 => ?_)
    · skip
      refine G_aload_n hX 0 rfl rfl d_Mo_readAddress_50 ?_
      refine G_iconst hX d_Mo_readAddress_51 ?_
      refine F_callV hX (st := []) (c_Mo_readPartNumber_f E f F 2 fl hMo hmk hF32 (by omega)) cm_Mo_readPartNumber im_Mo_readPartNumber se_Mo_readPartNumber rfl ml_Mo_370 d_Mo_readAddress_52 (by decide) hMo rfl rfl (Nat.le_of_ble_eq_true rfl) (by decide) ?_
      rintro _ f9 ⟨rfl, e12⟩
      obtain rfl := e12.symm
      refine G_cast (st' := [.int (zI 0)]) ?_ rfl rfl rfl rfl
      refine G_istore_n hX (lv' := [(3, .int (zI 0)), (0, .ref (eA E 61)), (1, .int (zI md)), (2, .int (zI here))]) rfl (by decide) rfl d_Mo_readAddress_55 ?_
      refine G_iload_n hX 2 rfl rfl d_Mo_readAddress_56 ?_
      refine G_if_ne_z hX (tgt := 64) d_Mo_readAddress_57 rfl (by omega) (fun c13 => ?_) (fun c14 => ?_)
      · skip
        refine G_iload_n hX 2 rfl rfl d_Mo_readAddress_64 ?_
        refine G_iconst hX d_Mo_readAddress_65 ?_
        refine G_icmp_ne_z hX (tgt := 75) d_Mo_readAddress_66 rfl (by omega) (fun c15 => ?_) (fun c16 => ?_)
        · skip
          refine G_aload_n hX 1 rfl rfl d_Mo_readAddress_75 ?_
          refine M_get hX fg_Mo_130 d_Mo_readAddress_76 hMo (by decide) (hmk 28 78 (by decide)) ?_
          refine G_iload_n hX 2 rfl rfl d_Mo_readAddress_79 ?_
          refine G_iconst hX d_Mo_readAddress_80 ?_
          refine G_isub_z hX d_Mo_readAddress_81 ?_
          refine F_iald hX d_Mo_readAddress_82 78 (by decide) hc78 (by omega) ?_
          have b17 := hnr (md - 2)
          refine G_iload_n hX 0 rfl rfl d_Mo_readAddress_83 ?_
          refine G_iadd_z hX d_Mo_readAddress_84 ?_
          exact F_iret hX hE d_Mo_readAddress_85 ⟨F, _, _, rfl, hMo, hF32, FrF.rf, hc83, by omega, hav, Fr.rf⟩
        · skip
          refine G_iload_n hX 3 rfl rfl d_Mo_readAddress_69 ?_
          refine G_iload_n hX 0 rfl rfl d_Mo_readAddress_70 ?_
          refine G_isub_z hX d_Mo_readAddress_71 ?_
          refine G_goto hX (tgt := 85) d_Mo_readAddress_72 rfl ?_
          exact F_iret hX hE d_Mo_readAddress_85 ⟨F, _, _, rfl, hMo, hF32, FrF.rf, hc83, by omega, hav, Fr.rf⟩
      · skip
        refine G_iload_n hX 0 rfl rfl d_Mo_readAddress_60 ?_
        refine G_goto hX (tgt := 85) d_Mo_readAddress_61 rfl ?_
        exact F_iret hX hE d_Mo_readAddress_85 ⟨F, _, _, rfl, hMo, hF32, FrF.rf, hc83, by omega, hav, Fr.rf⟩
    · skip
      refine G_aload_n hX 0 rfl rfl d_Mo_readAddress_26 ?_
      refine M_get hX fg_Mo_133 d_Mo_readAddress_27 hMo (by decide) (hmk 29 79 (by decide)) ?_
      refine G_sipush hX (by decide) d_Mo_readAddress_30 ?_
      refine G_iload_n hX 1 rfl rfl d_Mo_readAddress_33 ?_
      refine G_iconst hX d_Mo_readAddress_34 ?_
      refine G_isub_z hX d_Mo_readAddress_35 ?_
      refine G_aload_n hX 0 rfl rfl d_Mo_readAddress_36 ?_
      refine M_get hX fg_Mo_278 d_Mo_readAddress_37 hMo (by decide) hF25 ?_
      refine G_isub_z hX d_Mo_readAddress_40 ?_
      refine G_imul_z hX d_Mo_readAddress_41 ?_
      refine G_aload_n hX 0 rfl rfl d_Mo_readAddress_42 ?_
      refine G_iconst hX d_Mo_readAddress_43 ?_
      refine F_callV hX (st := [.int (zI (256 * ((md - 2) - N))), .ref (eA E 79)]) (c_Mo_readPart_f E f F 2 av ev b g sE fl hMo hmk hF32 hc83 hc84 hc63 (by omega) hG hgb hav hev hen (by omega) (by omega)) cm_Mo_readPart im_Mo_readPart se_Mo_readPart rfl ml_Mo_361 d_Mo_readAddress_44 (by decide) hMo rfl rfl (Nat.le_of_ble_eq_true rfl) (by decide) ?_
      rintro _ f18 ⟨F21, r'_22, av'_23, rfl, h24, h25, k26, h27, p28, p29, k30⟩
      refine G_cast (st' := [.int (zI r'_22), .int (zI (256 * ((md - 2) - N))), .ref (eA E 79)]) ?_ rfl rfl rfl rfl
      refine G_iadd_z hX d_Mo_readAddress_47 ?_
      have hbr := p28
      have hbs := hsm ((256 * ((md - 2) - N)) + r'_22)
      have h31 : f18 79 = iz E 1024 sm := (k30 79 (by decide)).trans hc79
      refine F_iald hX d_Mo_readAddress_48 79 (by decide) h31 (by omega) ?_
      have b32 := hsm ((256 * ((md - 2) - N)) + r'_22)
      exact F_iret hX hE d_Mo_readAddress_49 ⟨F21, _, _, rfl, h24, h25, (FrF.tr FrF.rf k26 (by decide)), h27, by omega, p29, (Fr.tr Fr.rf k30 (by decide))⟩
  · skip
    refine G_aload_n hX 0 rfl rfl d_Mo_readAddress_8 ?_
    refine G_bipush hX (by decide) d_Mo_readAddress_9 ?_
    refine F_callV hX (st := []) (c_Mo_refuse_f E f F (-2) fl hMo hmk hF32 (by omega)) cm_Mo_refuse im_Mo_refuse se_Mo_refuse rfl ml_Mo_354 d_Mo_readAddress_11 (by decide) hMo rfl rfl (Nat.le_of_ble_eq_true rfl) (by decide) ?_
    rintro _ f33 ⟨rfl, F36, h37, h38, k39, k40⟩
    refine G_cast (st' := []) ?_ rfl rfl rfl rfl
    refine G_iconst hX d_Mo_readAddress_14 ?_
    have h41 : f33 83 = iz E 3 av := (k40 83 (by decide)).trans hc83
    exact F_iret hX hE d_Mo_readAddress_15 ⟨F36, _, _, rfl, h37, h38, (FrF.tr FrF.rf k39 (by decide)), h41, by omega, hav, (Fr.tr Fr.rf k40 (by decide))⟩
