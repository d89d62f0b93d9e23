/-! DeltaFerryModel: readSource, readWindow; printed by wip/tools/m_mo14.py -/
theorem zI_and2 {x : Int} (h : 0 ≤ x ∧ x < 256) : zI x &&& zI 2 = zI (x / 2 % 2 * 2) := by
  have : ∀ y : Fin 256, zI (y.val : Int) &&& zI 2 = zI ((y.val : Int) / 2 % 2 * 2) := by decide +kernel
  have h2 := this ⟨x.toNat, by omega⟩
  have h3 : ((x.toNat : Nat) : Int) = x := by omega
  simpa only [h3] using h2
theorem zI_a4 {x : Int} (h : 0 ≤ x ∧ x < 256) : zI x &&& zI 4 = zI (x / 4 % 2 * 4) := by
  have : ∀ y : Fin 256, zI (y.val : Int) &&& zI 4 = zI ((y.val : Int) / 4 % 2 * 4) := by decide +kernel
  have h2 := this ⟨x.toNat, by omega⟩
  have h3 : ((x.toNat : Nat) : Int) = x := by omega
  simpa only [h3] using h2
theorem c_Mo_readSource_ok (E : EV) (f : Nat → va_E) (F : Nat → Value) (kk : Int) (p : Int) (e : Int) (mc : Int) (oc : Int) (b : Int → Int) (g : Int → Int) (sE : Int) (hMo : f 61 = mob F) (hmk : moK E F) (hF30 : F 30 = .int (zI p)) (hF31 : F 31 = .int (zI e)) (hF32 : F 32 = .int (zI 0)) (hF34 : F 34 = .int (zI oc)) (hF36 : F 36 = .int (zI mc)) (hc63 : f 63 = iz E 1600 b) (hG : isB g) (hgb : ∀ i, 0 ≤ i → i < sE → b (600 + i) = g i) (hp : 0 ≤ p ∧ p ≤ e ∧ e ≤ sE ∧ sE ≤ 700) (hmc : 0 ≤ mc ∧ mc ≤ 1536 ∧ 0 ≤ oc ∧ oc ≤ 1536) (hk : 0 ≤ kk ∧ kk ≤ 7 ∧ ¬ kk % 4 = 3) (hsok : kk % 4 = 0 ∨ (0 ≤ (numL g e 4 p 0).1 ∧ 0 ≤ (numL g e 4 (numL g e 4 p 0).2 0).1 ∧ (numL g e 4 (numL g e 4 p 0).2 0).1 + (numL g e 4 p 0).1 ≤ if kk % 4 = 2 then mc else oc)) : CF yn_Mo_readSource cd_Mo_readSource 2 none 3 E [.ref (eA E 61), .int (zI kk)] f (fun r f' => r = none ∧ ∃ (F' : Nat → Value), f' 61 = mob F' ∧ F' 41 = .int (zI (if kk % 4 = 2 then 1 else 0)) ∧ F' 39 = .int (zI ((sR g e p (kk % 4)).1)) ∧ F' 40 = .int (zI ((sR g e p (kk % 4)).2.1)) ∧ F' 30 = .int (zI ((sR g e p (kk % 4)).2.2)) ∧ FrF [30, 39, 40, 41] F F' ∧ Fr [61] f f') := by
  refine CF.of (by decide +kernel) (Nat.le_of_ble_eq_true rfl) fun X hX hE => ?_
  have hX : Ok E X "DeltaFerryModel" "readSource" cd_Mo_readSource 2 none (rl 3) := hX
  refine G_cast (lv' := [(0, .ref (eA E 61)), (1, .int (zI kk))]) ?_ rfl rfl rfl rfl
  by_cases hz : kk % 4 = 0
  · skip
    refine G_aload_n hX 0 rfl rfl d_Mo_readSource_0 ?_
    refine G_iload_n hX 1 rfl rfl d_Mo_readSource_1 ?_
    refine G_iconst hX d_Mo_readSource_2 ?_
    refine G_iand hX d_Mo_readSource_3 ?_
    refine G_top (show (zI kk &&& zI 2) = zI (kk / 2 % 2 * 2) from zI_and2 (by omega)) ?_
    refine G_if_le_z hX (tgt := 11) d_Mo_readSource_4 rfl (by omega) (fun c1 => ?_) (fun c2 => by exfalso; omega)
    refine G_iconst hX d_Mo_readSource_11 ?_
    refine M_put hX fg_Mo_379 fp_Mo_41 d_Mo_readSource_12 hMo (by decide) (by decide) (by decide) (fun f3 F4 h5 h6 k7 k8 => ?_)
    refine G_aload_n hX 0 rfl rfl d_Mo_readSource_15 ?_
    refine G_iconst hX d_Mo_readSource_16 ?_
    refine M_put hX fg_Mo_383 fp_Mo_39 d_Mo_readSource_17 h5 rfl rfl (by decide) (fun f9 F10 h11 h12 k13 k14 => ?_)
    refine G_aload_n hX 0 rfl rfl d_Mo_readSource_20 ?_
    refine G_iconst hX d_Mo_readSource_21 ?_
    refine M_put hX fg_Mo_373 fp_Mo_40 d_Mo_readSource_22 h11 rfl rfl (by decide) (fun f15 F16 h17 h18 k19 k20 => ?_)
    refine G_iload_n hX 1 rfl rfl d_Mo_readSource_25 ?_
    refine G_iconst hX d_Mo_readSource_26 ?_
    refine G_iand hX d_Mo_readSource_27 ?_
    refine G_top (show (zI kk &&& zI 3) = zI (kk % 4) from zI_and3 _) ?_
    refine G_if_le_z hX (tgt := 83) d_Mo_readSource_28 rfl (by omega) (fun c21 => ?_) (fun c22 => by exfalso; omega)
    have hsr : sR g e p (kk % 4) = (0, 0, p) := by unfold sR; rw [if_pos hz]
    have h23 : F16 41 = .int (zI 0) := (k19 41 (by decide)).trans ((k13 41 (by decide)).trans h6)
    have h24 : F16 39 = .int (zI 0) := (k19 39 (by decide)).trans h12
    have h25 : F16 30 = .int (zI p) := (k19 30 (by decide)).trans ((k13 30 (by decide)).trans ((k7 30 (by decide)).trans hF30))
    exact F_vret hX hE d_Mo_readSource_83 ⟨rfl, F16, h17, (by rw [if_neg (by omega)]; exact h23), (by rw [hsr]; exact h24), (by rw [hsr]; exact h18), (by rw [hsr]; exact h25), (FrF.tr (FrF.tr (FrF.tr FrF.rf k7 (by decide)) k13 (by decide)) k19 (by decide)), (Fr.tr (Fr.tr (Fr.tr Fr.rf k8 (by decide)) k14 (by decide)) k20 (by decide))⟩
  · skip
    have hb1 := numL_4 (g := g) (e := e) (p := p) hG (by omega)
    have hb2 := numL_4 (g := g) (e := e) (p := (numL g e 4 p 0).2) hG (by omega)
    by_cases ho : kk % 4 = 2
    · skip
      have hs3 := hsok.resolve_left hz
      rw [if_pos (by omega)] at hs3
      refine G_aload_n hX 0 rfl rfl d_Mo_readSource_0 ?_
      refine G_iload_n hX 1 rfl rfl d_Mo_readSource_1 ?_
      refine G_iconst hX d_Mo_readSource_2 ?_
      refine G_iand hX d_Mo_readSource_3 ?_
      refine G_top (show (zI kk &&& zI 2) = zI (kk / 2 % 2 * 2) from zI_and2 (by omega)) ?_
      refine G_if_le_z hX (tgt := 11) d_Mo_readSource_4 rfl (by omega) (fun c26 => by exfalso; omega) (fun c27 => ?_)
      refine G_iconst hX d_Mo_readSource_7 ?_
      refine G_goto hX (tgt := 12) d_Mo_readSource_8 rfl ?_
      refine M_put hX fg_Mo_379 fp_Mo_41 d_Mo_readSource_12 hMo (by decide) (by decide) (by decide) (fun f28 F29 h30 h31 k32 k33 => ?_)
      refine G_aload_n hX 0 rfl rfl d_Mo_readSource_15 ?_
      refine G_iconst hX d_Mo_readSource_16 ?_
      refine M_put hX fg_Mo_383 fp_Mo_39 d_Mo_readSource_17 h30 rfl rfl (by decide) (fun f34 F35 h36 h37 k38 k39 => ?_)
      refine G_aload_n hX 0 rfl rfl d_Mo_readSource_20 ?_
      refine G_iconst hX d_Mo_readSource_21 ?_
      refine M_put hX fg_Mo_373 fp_Mo_40 d_Mo_readSource_22 h36 rfl rfl (by decide) (fun f40 F41 h42 h43 k44 k45 => ?_)
      refine G_iload_n hX 1 rfl rfl d_Mo_readSource_25 ?_
      refine G_iconst hX d_Mo_readSource_26 ?_
      refine G_iand hX d_Mo_readSource_27 ?_
      refine G_top (show (zI kk &&& zI 3) = zI (kk % 4) from zI_and3 _) ?_
      refine G_if_le_z hX (tgt := 83) d_Mo_readSource_28 rfl (by omega) (fun c46 => by exfalso; omega) (fun c47 => ?_)
      refine G_aload_n hX 0 rfl rfl d_Mo_readSource_31 ?_
      refine G_aload_n hX 0 rfl rfl d_Mo_readSource_32 ?_
      have h48 : F41 30 = .int (zI p) := (k44 30 (by decide)).trans ((k38 30 (by decide)).trans ((k32 30 (by decide)).trans hF30))
      have h49 : F41 31 = .int (zI e) := (k44 31 (by decide)).trans ((k38 31 (by decide)).trans ((k32 31 (by decide)).trans hF31))
      have h50 : F41 32 = .int (zI 0) := (k44 32 (by decide)).trans ((k38 32 (by decide)).trans ((k32 32 (by decide)).trans hF32))
      have h51 : f40 63 = iz E 1600 b := (k45 63 (by decide)).trans ((k39 63 (by decide)).trans ((k33 63 (by decide)).trans hc63))
      refine F_callV hX (st := [.ref (eA E 61)]) (c_Mo_readNumber_ok E f40 F41 p e b g sE h42 (moK_fr hmk (FrF.tr (FrF.tr (FrF.tr (FrF.rf (S := [39, 40, 41])) k32 (by decide)) k38 (by decide)) k44 (by decide)) (by decide)) h48 h49 h50 h51 hG hgb (by omega) hs3.1) cm_Mo_readNumber im_Mo_readNumber se_Mo_readNumber rfl ml_Mo_401 d_Mo_readSource_33 (by decide) h42 rfl rfl (Nat.le_of_ble_eq_true rfl) (by decide) ?_
      rintro _ f52 ⟨rfl, F55, h56, h57, k58, k59⟩
      refine G_cast (st' := [.int (zI ((numL g e 4 p 0).1)), .ref (eA E 61)]) ?_ rfl rfl rfl rfl
      refine M_put hX fg_Mo_373 fp_Mo_40 d_Mo_readSource_36 h56 rfl rfl (by decide) (fun f60 F61 h62 h63 k64 k65 => ?_)
      refine G_aload_n hX 0 rfl rfl d_Mo_readSource_39 ?_
      refine G_aload_n hX 0 rfl rfl d_Mo_readSource_40 ?_
      have h66 : F61 30 = .int (zI ((numL g e 4 p 0).2)) := (k64 30 (by decide)).trans h57
      have h67 : F61 31 = .int (zI e) := (k64 31 (by decide)).trans ((k58 31 (by decide)).trans h49)
      have h68 : F61 32 = .int (zI 0) := (k64 32 (by decide)).trans ((k58 32 (by decide)).trans h50)
      have h69 : f60 63 = iz E 1600 b := (k65 63 (by decide)).trans ((k59 63 (by decide)).trans h51)
      refine F_callV hX (st := [.ref (eA E 61)]) (c_Mo_readNumber_ok E f60 F61 ((numL g e 4 p 0).2) e b g sE h62 (moK_fr hmk (FrF.tr (FrF.tr (FrF.tr (FrF.tr (FrF.tr (FrF.rf (S := [30, 39, 40, 41])) k32 (by decide)) k38 (by decide)) k44 (by decide)) k58 (by decide)) k64 (by decide)) (by decide)) h66 h67 h68 h69 hG hgb (by omega) hs3.2.1) cm_Mo_readNumber im_Mo_readNumber se_Mo_readNumber rfl ml_Mo_401 d_Mo_readSource_41 (by decide) h62 rfl rfl (Nat.le_of_ble_eq_true rfl) (by decide) ?_
      rintro _ f70 ⟨rfl, F73, h74, h75, k76, k77⟩
      refine G_cast (st' := [.int (zI ((numL g e 4 ((numL g e 4 p 0).2) 0).1)), .ref (eA E 61)]) ?_ rfl rfl rfl rfl
      refine M_put hX fg_Mo_383 fp_Mo_39 d_Mo_readSource_44 h74 rfl rfl (by decide) (fun f78 F79 h80 h81 k82 k83 => ?_)
      refine G_aload_n hX 0 rfl rfl d_Mo_readSource_47 ?_
      refine M_get hX fg_Mo_383 d_Mo_readSource_48 h80 (by decide) h81 ?_
      refine G_aload_n hX 0 rfl rfl d_Mo_readSource_51 ?_
      have h84 : F79 40 = .int (zI ((numL g e 4 p 0).1)) := (k82 40 (by decide)).trans ((k76 40 (by decide)).trans h63)
      refine M_get hX fg_Mo_373 d_Mo_readSource_52 h80 (by decide) h84 ?_
      refine G_iadd_z hX d_Mo_readSource_55 ?_
      refine G_aload_n hX 0 rfl rfl d_Mo_readSource_56 ?_
      have h85 : F79 41 = .int (zI 1) := (k82 41 (by decide)).trans ((k76 41 (by decide)).trans ((k64 41 (by decide)).trans ((k58 41 (by decide)).trans ((k44 41 (by decide)).trans ((k38 41 (by decide)).trans h31)))))
      refine M_get hX fg_Mo_379 d_Mo_readSource_57 h80 (by decide) h85 ?_
      refine G_if_eq_z hX (tgt := 70) d_Mo_readSource_60 rfl (by omega) (fun c86 => by exfalso; omega) (fun c87 => ?_)
      refine G_aload_n hX 0 rfl rfl d_Mo_readSource_63 ?_
      have h88 : F79 36 = .int (zI mc) := (k82 36 (by decide)).trans ((k76 36 (by decide)).trans ((k64 36 (by decide)).trans ((k58 36 (by decide)).trans ((k44 36 (by decide)).trans ((k38 36 (by decide)).trans ((k32 36 (by decide)).trans hF36))))))
      refine M_get hX fg_Mo_386 d_Mo_readSource_64 h80 (by decide) h88 ?_
      refine G_goto hX (tgt := 74) d_Mo_readSource_67 rfl ?_
      refine G_icmp_le_z hX (tgt := 83) d_Mo_readSource_74 rfl (by omega) (fun c89 => ?_) (fun c90 => by exfalso; omega)
      have hsr : sR g e p (kk % 4) = ((numL g e 4 (numL g e 4 p 0).2 0).1, (numL g e 4 p 0).1, (numL g e 4 (numL g e 4 p 0).2 0).2) := by unfold sR; rw [if_neg hz]
      have h91 : F79 30 = .int (zI ((numL g e 4 ((numL g e 4 p 0).2) 0).2)) := (k82 30 (by decide)).trans h75
      exact F_vret hX hE d_Mo_readSource_83 ⟨rfl, F79, h80, (by rw [if_pos (by omega)]; exact h85), (by rw [hsr]; exact h81), (by rw [hsr]; exact h84), (by rw [hsr]; exact h91), (FrF.tr (FrF.tr (FrF.tr (FrF.tr (FrF.tr (FrF.tr (FrF.tr FrF.rf k32 (by decide)) k38 (by decide)) k44 (by decide)) k58 (by decide)) k64 (by decide)) k76 (by decide)) k82 (by decide)), (Fr.tr (Fr.tr (Fr.tr (Fr.tr (Fr.tr (Fr.tr (Fr.tr Fr.rf k33 (by decide)) k39 (by decide)) k45 (by decide)) k59 (by decide)) k65 (by decide)) k77 (by decide)) k83 (by decide))⟩
    · skip
      have hs3 := hsok.resolve_left hz
      rw [if_neg (by omega)] at hs3
      refine G_aload_n hX 0 rfl rfl d_Mo_readSource_0 ?_
      refine G_iload_n hX 1 rfl rfl d_Mo_readSource_1 ?_
      refine G_iconst hX d_Mo_readSource_2 ?_
      refine G_iand hX d_Mo_readSource_3 ?_
      refine G_top (show (zI kk &&& zI 2) = zI (kk / 2 % 2 * 2) from zI_and2 (by omega)) ?_
      refine G_if_le_z hX (tgt := 11) d_Mo_readSource_4 rfl (by omega) (fun c92 => ?_) (fun c93 => by exfalso; omega)
      refine G_iconst hX d_Mo_readSource_11 ?_
      refine M_put hX fg_Mo_379 fp_Mo_41 d_Mo_readSource_12 hMo (by decide) (by decide) (by decide) (fun f94 F95 h96 h97 k98 k99 => ?_)
      refine G_aload_n hX 0 rfl rfl d_Mo_readSource_15 ?_
      refine G_iconst hX d_Mo_readSource_16 ?_
      refine M_put hX fg_Mo_383 fp_Mo_39 d_Mo_readSource_17 h96 rfl rfl (by decide) (fun f100 F101 h102 h103 k104 k105 => ?_)
      refine G_aload_n hX 0 rfl rfl d_Mo_readSource_20 ?_
      refine G_iconst hX d_Mo_readSource_21 ?_
      refine M_put hX fg_Mo_373 fp_Mo_40 d_Mo_readSource_22 h102 rfl rfl (by decide) (fun f106 F107 h108 h109 k110 k111 => ?_)
      refine G_iload_n hX 1 rfl rfl d_Mo_readSource_25 ?_
      refine G_iconst hX d_Mo_readSource_26 ?_
      refine G_iand hX d_Mo_readSource_27 ?_
      refine G_top (show (zI kk &&& zI 3) = zI (kk % 4) from zI_and3 _) ?_
      refine G_if_le_z hX (tgt := 83) d_Mo_readSource_28 rfl (by omega) (fun c112 => by exfalso; omega) (fun c113 => ?_)
      refine G_aload_n hX 0 rfl rfl d_Mo_readSource_31 ?_
      refine G_aload_n hX 0 rfl rfl d_Mo_readSource_32 ?_
      have h114 : F107 30 = .int (zI p) := (k110 30 (by decide)).trans ((k104 30 (by decide)).trans ((k98 30 (by decide)).trans hF30))
      have h115 : F107 31 = .int (zI e) := (k110 31 (by decide)).trans ((k104 31 (by decide)).trans ((k98 31 (by decide)).trans hF31))
      have h116 : F107 32 = .int (zI 0) := (k110 32 (by decide)).trans ((k104 32 (by decide)).trans ((k98 32 (by decide)).trans hF32))
      have h117 : f106 63 = iz E 1600 b := (k111 63 (by decide)).trans ((k105 63 (by decide)).trans ((k99 63 (by decide)).trans hc63))
      refine F_callV hX (st := [.ref (eA E 61)]) (c_Mo_readNumber_ok E f106 F107 p e b g sE h108 (moK_fr hmk (FrF.tr (FrF.tr (FrF.tr (FrF.rf (S := [39, 40, 41])) k98 (by decide)) k104 (by decide)) k110 (by decide)) (by decide)) h114 h115 h116 h117 hG hgb (by omega) hs3.1) cm_Mo_readNumber im_Mo_readNumber se_Mo_readNumber rfl ml_Mo_401 d_Mo_readSource_33 (by decide) h108 rfl rfl (Nat.le_of_ble_eq_true rfl) (by decide) ?_
      rintro _ f118 ⟨rfl, F121, h122, h123, k124, k125⟩
      refine G_cast (st' := [.int (zI ((numL g e 4 p 0).1)), .ref (eA E 61)]) ?_ rfl rfl rfl rfl
      refine M_put hX fg_Mo_373 fp_Mo_40 d_Mo_readSource_36 h122 rfl rfl (by decide) (fun f126 F127 h128 h129 k130 k131 => ?_)
      refine G_aload_n hX 0 rfl rfl d_Mo_readSource_39 ?_
      refine G_aload_n hX 0 rfl rfl d_Mo_readSource_40 ?_
      have h132 : F127 30 = .int (zI ((numL g e 4 p 0).2)) := (k130 30 (by decide)).trans h123
      have h133 : F127 31 = .int (zI e) := (k130 31 (by decide)).trans ((k124 31 (by decide)).trans h115)
      have h134 : F127 32 = .int (zI 0) := (k130 32 (by decide)).trans ((k124 32 (by decide)).trans h116)
      have h135 : f126 63 = iz E 1600 b := (k131 63 (by decide)).trans ((k125 63 (by decide)).trans h117)
      refine F_callV hX (st := [.ref (eA E 61)]) (c_Mo_readNumber_ok E f126 F127 ((numL g e 4 p 0).2) e b g sE h128 (moK_fr hmk (FrF.tr (FrF.tr (FrF.tr (FrF.tr (FrF.tr (FrF.rf (S := [30, 39, 40, 41])) k98 (by decide)) k104 (by decide)) k110 (by decide)) k124 (by decide)) k130 (by decide)) (by decide)) h132 h133 h134 h135 hG hgb (by omega) hs3.2.1) cm_Mo_readNumber im_Mo_readNumber se_Mo_readNumber rfl ml_Mo_401 d_Mo_readSource_41 (by decide) h128 rfl rfl (Nat.le_of_ble_eq_true rfl) (by decide) ?_
      rintro _ f136 ⟨rfl, F139, h140, h141, k142, k143⟩
      refine G_cast (st' := [.int (zI ((numL g e 4 ((numL g e 4 p 0).2) 0).1)), .ref (eA E 61)]) ?_ rfl rfl rfl rfl
      refine M_put hX fg_Mo_383 fp_Mo_39 d_Mo_readSource_44 h140 rfl rfl (by decide) (fun f144 F145 h146 h147 k148 k149 => ?_)
      refine G_aload_n hX 0 rfl rfl d_Mo_readSource_47 ?_
      refine M_get hX fg_Mo_383 d_Mo_readSource_48 h146 (by decide) h147 ?_
      refine G_aload_n hX 0 rfl rfl d_Mo_readSource_51 ?_
      have h150 : F145 40 = .int (zI ((numL g e 4 p 0).1)) := (k148 40 (by decide)).trans ((k142 40 (by decide)).trans h129)
      refine M_get hX fg_Mo_373 d_Mo_readSource_52 h146 (by decide) h150 ?_
      refine G_iadd_z hX d_Mo_readSource_55 ?_
      refine G_aload_n hX 0 rfl rfl d_Mo_readSource_56 ?_
      have h151 : F145 41 = .int (zI 0) := (k148 41 (by decide)).trans ((k142 41 (by decide)).trans ((k130 41 (by decide)).trans ((k124 41 (by decide)).trans ((k110 41 (by decide)).trans ((k104 41 (by decide)).trans h97)))))
      refine M_get hX fg_Mo_379 d_Mo_readSource_57 h146 (by decide) h151 ?_
      refine G_if_eq_z hX (tgt := 70) d_Mo_readSource_60 rfl (by omega) (fun c152 => ?_) (fun c153 => by exfalso; omega)
      refine G_aload_n hX 0 rfl rfl d_Mo_readSource_70 ?_
      have h154 : F145 34 = .int (zI oc) := (k148 34 (by decide)).trans ((k142 34 (by decide)).trans ((k130 34 (by decide)).trans ((k124 34 (by decide)).trans ((k110 34 (by decide)).trans ((k104 34 (by decide)).trans ((k98 34 (by decide)).trans hF34))))))
      refine M_get hX fg_Mo_364 d_Mo_readSource_71 h146 (by decide) h154 ?_
      refine G_icmp_le_z hX (tgt := 83) d_Mo_readSource_74 rfl (by omega) (fun c155 => ?_) (fun c156 => by exfalso; omega)
      have hsr : sR g e p (kk % 4) = ((numL g e 4 (numL g e 4 p 0).2 0).1, (numL g e 4 p 0).1, (numL g e 4 (numL g e 4 p 0).2 0).2) := by unfold sR; rw [if_neg hz]
      have h157 : F145 30 = .int (zI ((numL g e 4 ((numL g e 4 p 0).2) 0).2)) := (k148 30 (by decide)).trans h141
      exact F_vret hX hE d_Mo_readSource_83 ⟨rfl, F145, h146, (by rw [if_neg (by omega)]; exact h151), (by rw [hsr]; exact h147), (by rw [hsr]; exact h150), (by rw [hsr]; exact h157), (FrF.tr (FrF.tr (FrF.tr (FrF.tr (FrF.tr (FrF.tr (FrF.tr FrF.rf k98 (by decide)) k104 (by decide)) k110 (by decide)) k124 (by decide)) k130 (by decide)) k142 (by decide)) k148 (by decide)), (Fr.tr (Fr.tr (Fr.tr (Fr.tr (Fr.tr (Fr.tr (Fr.tr Fr.rf k99 (by decide)) k105 (by decide)) k111 (by decide)) k125 (by decide)) k131 (by decide)) k143 (by decide)) k149 (by decide))⟩
theorem c_Mo_readSource_no (E : EV) (f : Nat → va_E) (F : Nat → Value) (kk : Int) (p : Int) (e : Int) (mc : Int) (oc : Int) (b : Int → Int) (g : Int → Int) (sE : Int) (hMo : f 61 = mob F) (hmk : moK E F) (hF30 : F 30 = .int (zI p)) (hF31 : F 31 = .int (zI e)) (hF32 : F 32 = .int (zI 0)) (hF34 : F 34 = .int (zI oc)) (hF36 : F 36 = .int (zI mc)) (hc63 : f 63 = iz E 1600 b) (hG : isB g) (hgb : ∀ i, 0 ≤ i → i < sE → b (600 + i) = g i) (hp : 0 ≤ p ∧ p ≤ e ∧ e ≤ sE ∧ sE ≤ 700) (hmc : 0 ≤ mc ∧ mc ≤ 1536 ∧ 0 ≤ oc ∧ oc ≤ 1536) (hk : 0 ≤ kk ∧ kk ≤ 7 ∧ ¬ kk % 4 = 3) (hsok : ¬ (kk % 4 = 0 ∨ (0 ≤ (numL g e 4 p 0).1 ∧ 0 ≤ (numL g e 4 (numL g e 4 p 0).2 0).1 ∧ (numL g e 4 (numL g e 4 p 0).2 0).1 + (numL g e 4 p 0).1 ≤ if kk % 4 = 2 then mc else oc))) : CF yn_Mo_readSource cd_Mo_readSource 2 none 3 E [.ref (eA E 61), .int (zI kk)] f (fun r f' => r = none ∧ ∃ (F' : Nat → Value) (p' : Int), f' 61 = mob F' ∧ F' 30 = .int (zI p') ∧ F' 32 = .int (zI (-2)) ∧ FrF [30, 32, 39, 40, 41] F F' ∧ (0 ≤ p' ∧ p' ≤ 700) ∧ Fr [61] f f') := by
  refine CF.of (by decide +kernel) (Nat.le_of_ble_eq_true rfl) fun X hX hE => ?_
  have hX : Ok E X "DeltaFerryModel" "readSource" cd_Mo_readSource 2 none (rl 3) := hX
  refine G_cast (lv' := [(0, .ref (eA E 61)), (1, .int (zI kk))]) ?_ rfl rfl rfl rfl
  by_cases hz : kk % 4 = 0
  · skip
    exact absurd (Or.inl hz) hsok
  · skip
    have hb1 := numL_4 (g := g) (e := e) (p := p) hG (by omega)
    have hb2 := numL_4 (g := g) (e := e) (p := (numL g e 4 p 0).2) hG (by omega)
    by_cases ho : kk % 4 = 2
    · skip
      by_cases hn1 : 0 ≤ (numL g e 4 p 0).1
      · skip
        by_cases hn2 : 0 ≤ (numL g e 4 (numL g e 4 p 0).2 0).1
        · skip
          have hs3 : ¬ (numL g e 4 (numL g e 4 p 0).2 0).1 + (numL g e 4 p 0).1 ≤ mc := fun q => hsok (Or.inr ⟨hn1, hn2, by rw [if_pos (by omega)]; exact q⟩)
          refine G_aload_n hX 0 rfl rfl d_Mo_readSource_0 ?_
          refine G_iload_n hX 1 rfl rfl d_Mo_readSource_1 ?_
          refine G_iconst hX d_Mo_readSource_2 ?_
          refine G_iand hX d_Mo_readSource_3 ?_
          refine G_top (show (zI kk &&& zI 2) = zI (kk / 2 % 2 * 2) from zI_and2 (by omega)) ?_
          refine G_if_le_z hX (tgt := 11) d_Mo_readSource_4 rfl (by omega) (fun c1 => by exfalso; omega) (fun c2 => ?_)
          refine G_iconst hX d_Mo_readSource_7 ?_
          refine G_goto hX (tgt := 12) d_Mo_readSource_8 rfl ?_
          refine M_put hX fg_Mo_379 fp_Mo_41 d_Mo_readSource_12 hMo (by decide) (by decide) (by decide) (fun f3 F4 h5 h6 k7 k8 => ?_)
          refine G_aload_n hX 0 rfl rfl d_Mo_readSource_15 ?_
          refine G_iconst hX d_Mo_readSource_16 ?_
          refine M_put hX fg_Mo_383 fp_Mo_39 d_Mo_readSource_17 h5 rfl rfl (by decide) (fun f9 F10 h11 h12 k13 k14 => ?_)
          refine G_aload_n hX 0 rfl rfl d_Mo_readSource_20 ?_
          refine G_iconst hX d_Mo_readSource_21 ?_
          refine M_put hX fg_Mo_373 fp_Mo_40 d_Mo_readSource_22 h11 rfl rfl (by decide) (fun f15 F16 h17 h18 k19 k20 => ?_)
          refine G_iload_n hX 1 rfl rfl d_Mo_readSource_25 ?_
          refine G_iconst hX d_Mo_readSource_26 ?_
          refine G_iand hX d_Mo_readSource_27 ?_
          refine G_top (show (zI kk &&& zI 3) = zI (kk % 4) from zI_and3 _) ?_
          refine G_if_le_z hX (tgt := 83) d_Mo_readSource_28 rfl (by omega) (fun c21 => by exfalso; omega) (fun c22 => ?_)
          refine G_aload_n hX 0 rfl rfl d_Mo_readSource_31 ?_
          refine G_aload_n hX 0 rfl rfl d_Mo_readSource_32 ?_
          have h23 : F16 30 = .int (zI p) := (k19 30 (by decide)).trans ((k13 30 (by decide)).trans ((k7 30 (by decide)).trans hF30))
          have h24 : F16 31 = .int (zI e) := (k19 31 (by decide)).trans ((k13 31 (by decide)).trans ((k7 31 (by decide)).trans hF31))
          have h25 : F16 32 = .int (zI 0) := (k19 32 (by decide)).trans ((k13 32 (by decide)).trans ((k7 32 (by decide)).trans hF32))
          have h26 : f15 63 = iz E 1600 b := (k20 63 (by decide)).trans ((k14 63 (by decide)).trans ((k8 63 (by decide)).trans hc63))
          refine F_callV hX (st := [.ref (eA E 61)]) (c_Mo_readNumber_ok E f15 F16 p e b g sE h17 (moK_fr hmk (FrF.tr (FrF.tr (FrF.tr (FrF.rf (S := [39, 40, 41])) k7 (by decide)) k13 (by decide)) k19 (by decide)) (by decide)) h23 h24 h25 h26 hG hgb (by omega) hn1) cm_Mo_readNumber im_Mo_readNumber se_Mo_readNumber rfl ml_Mo_401 d_Mo_readSource_33 (by decide) h17 rfl rfl (Nat.le_of_ble_eq_true rfl) (by decide) ?_
          rintro _ f27 ⟨rfl, F30, h31, h32, k33, k34⟩
          refine G_cast (st' := [.int (zI ((numL g e 4 p 0).1)), .ref (eA E 61)]) ?_ rfl rfl rfl rfl
          refine M_put hX fg_Mo_373 fp_Mo_40 d_Mo_readSource_36 h31 rfl rfl (by decide) (fun f35 F36 h37 h38 k39 k40 => ?_)
          refine G_aload_n hX 0 rfl rfl d_Mo_readSource_39 ?_
          refine G_aload_n hX 0 rfl rfl d_Mo_readSource_40 ?_
          have h41 : F36 30 = .int (zI ((numL g e 4 p 0).2)) := (k39 30 (by decide)).trans h32
          have h42 : F36 31 = .int (zI e) := (k39 31 (by decide)).trans ((k33 31 (by decide)).trans h24)
          have h43 : F36 32 = .int (zI 0) := (k39 32 (by decide)).trans ((k33 32 (by decide)).trans h25)
          have h44 : f35 63 = iz E 1600 b := (k40 63 (by decide)).trans ((k34 63 (by decide)).trans h26)
          refine F_callV hX (st := [.ref (eA E 61)]) (c_Mo_readNumber_ok E f35 F36 ((numL g e 4 p 0).2) e b g sE h37 (moK_fr hmk (FrF.tr (FrF.tr (FrF.tr (FrF.tr (FrF.tr (FrF.rf (S := [30, 39, 40, 41])) k7 (by decide)) k13 (by decide)) k19 (by decide)) k33 (by decide)) k39 (by decide)) (by decide)) h41 h42 h43 h44 hG hgb (by omega) hn2) cm_Mo_readNumber im_Mo_readNumber se_Mo_readNumber rfl ml_Mo_401 d_Mo_readSource_41 (by decide) h37 rfl rfl (Nat.le_of_ble_eq_true rfl) (by decide) ?_
          rintro _ f45 ⟨rfl, F48, h49, h50, k51, k52⟩
          refine G_cast (st' := [.int (zI ((numL g e 4 ((numL g e 4 p 0).2) 0).1)), .ref (eA E 61)]) ?_ rfl rfl rfl rfl
          refine M_put hX fg_Mo_383 fp_Mo_39 d_Mo_readSource_44 h49 rfl rfl (by decide) (fun f53 F54 h55 h56 k57 k58 => ?_)
          refine G_aload_n hX 0 rfl rfl d_Mo_readSource_47 ?_
          refine M_get hX fg_Mo_383 d_Mo_readSource_48 h55 (by decide) h56 ?_
          refine G_aload_n hX 0 rfl rfl d_Mo_readSource_51 ?_
          have h59 : F54 40 = .int (zI ((numL g e 4 p 0).1)) := (k57 40 (by decide)).trans ((k51 40 (by decide)).trans h38)
          refine M_get hX fg_Mo_373 d_Mo_readSource_52 h55 (by decide) h59 ?_
          refine G_iadd_z hX d_Mo_readSource_55 ?_
          refine G_aload_n hX 0 rfl rfl d_Mo_readSource_56 ?_
          have h60 : F54 41 = .int (zI 1) := (k57 41 (by decide)).trans ((k51 41 (by decide)).trans ((k39 41 (by decide)).trans ((k33 41 (by decide)).trans ((k19 41 (by decide)).trans ((k13 41 (by decide)).trans h6)))))
          refine M_get hX fg_Mo_379 d_Mo_readSource_57 h55 (by decide) h60 ?_
          refine G_if_eq_z hX (tgt := 70) d_Mo_readSource_60 rfl (by omega) (fun c61 => by exfalso; omega) (fun c62 => ?_)
          refine G_aload_n hX 0 rfl rfl d_Mo_readSource_63 ?_
          have h63 : F54 36 = .int (zI mc) := (k57 36 (by decide)).trans ((k51 36 (by decide)).trans ((k39 36 (by decide)).trans ((k33 36 (by decide)).trans ((k19 36 (by decide)).trans ((k13 36 (by decide)).trans ((k7 36 (by decide)).trans hF36))))))
          refine M_get hX fg_Mo_386 d_Mo_readSource_64 h55 (by decide) h63 ?_
          refine G_goto hX (tgt := 74) d_Mo_readSource_67 rfl ?_
          refine G_icmp_le_z hX (tgt := 83) d_Mo_readSource_74 rfl (by omega) (fun c64 => by exfalso; omega) (fun c65 => ?_)
          refine G_aload_n hX 0 rfl rfl d_Mo_readSource_77 ?_
          refine G_bipush hX (by decide) d_Mo_readSource_78 ?_
          have h66 : F54 32 = .int (zI 0) := (k57 32 (by decide)).trans ((k51 32 (by decide)).trans h43)
          refine F_callV hX (st := []) (c_Mo_refuse E f53 F54 (-2) h55 (moK_fr hmk (FrF.tr (FrF.tr (FrF.tr (FrF.tr (FrF.tr (FrF.tr (FrF.tr (FrF.rf (S := [30, 39, 40, 41])) k7 (by decide)) k13 (by decide)) k19 (by decide)) k33 (by decide)) k39 (by decide)) k51 (by decide)) k57 (by decide)) (by decide)) h66) cm_Mo_refuse im_Mo_refuse se_Mo_refuse rfl ml_Mo_354 d_Mo_readSource_80 (by decide) h55 rfl rfl (Nat.le_of_ble_eq_true rfl) (by decide) ?_
          rintro _ f67 ⟨rfl, F70, h71, h72, k73, k74⟩
          refine G_cast (st' := []) ?_ rfl rfl rfl rfl
          have h75 : F70 30 = .int (zI ((numL g e 4 ((numL g e 4 p 0).2) 0).2)) := (k73 30 (by decide)).trans ((k57 30 (by decide)).trans h50)
          exact F_vret hX hE d_Mo_readSource_83 ⟨rfl, F70, _, h71, h75, h72, (FrF.tr (FrF.tr (FrF.tr (FrF.tr (FrF.tr (FrF.tr (FrF.tr (FrF.tr FrF.rf k7 (by decide)) k13 (by decide)) k19 (by decide)) k33 (by decide)) k39 (by decide)) k51 (by decide)) k57 (by decide)) k73 (by decide)), (by omega), (Fr.tr (Fr.tr (Fr.tr (Fr.tr (Fr.tr (Fr.tr (Fr.tr (Fr.tr Fr.rf k8 (by decide)) k14 (by decide)) k20 (by decide)) k34 (by decide)) k40 (by decide)) k52 (by decide)) k58 (by decide)) k74 (by decide))⟩
        · skip
          have hn3 : (numL g e 4 (numL g e 4 p 0).2 0).1 < 0 := by omega
          refine G_aload_n hX 0 rfl rfl d_Mo_readSource_0 ?_
          refine G_iload_n hX 1 rfl rfl d_Mo_readSource_1 ?_
          refine G_iconst hX d_Mo_readSource_2 ?_
          refine G_iand hX d_Mo_readSource_3 ?_
          refine G_top (show (zI kk &&& zI 2) = zI (kk / 2 % 2 * 2) from zI_and2 (by omega)) ?_
          refine G_if_le_z hX (tgt := 11) d_Mo_readSource_4 rfl (by omega) (fun c76 => by exfalso; omega) (fun c77 => ?_)
          refine G_iconst hX d_Mo_readSource_7 ?_
          refine G_goto hX (tgt := 12) d_Mo_readSource_8 rfl ?_
          refine M_put hX fg_Mo_379 fp_Mo_41 d_Mo_readSource_12 hMo (by decide) (by decide) (by decide) (fun f78 F79 h80 h81 k82 k83 => ?_)
          refine G_aload_n hX 0 rfl rfl d_Mo_readSource_15 ?_
          refine G_iconst hX d_Mo_readSource_16 ?_
          refine M_put hX fg_Mo_383 fp_Mo_39 d_Mo_readSource_17 h80 rfl rfl (by decide) (fun f84 F85 h86 h87 k88 k89 => ?_)
          refine G_aload_n hX 0 rfl rfl d_Mo_readSource_20 ?_
          refine G_iconst hX d_Mo_readSource_21 ?_
          refine M_put hX fg_Mo_373 fp_Mo_40 d_Mo_readSource_22 h86 rfl rfl (by decide) (fun f90 F91 h92 h93 k94 k95 => ?_)
          refine G_iload_n hX 1 rfl rfl d_Mo_readSource_25 ?_
          refine G_iconst hX d_Mo_readSource_26 ?_
          refine G_iand hX d_Mo_readSource_27 ?_
          refine G_top (show (zI kk &&& zI 3) = zI (kk % 4) from zI_and3 _) ?_
          refine G_if_le_z hX (tgt := 83) d_Mo_readSource_28 rfl (by omega) (fun c96 => by exfalso; omega) (fun c97 => ?_)
          refine G_aload_n hX 0 rfl rfl d_Mo_readSource_31 ?_
          refine G_aload_n hX 0 rfl rfl d_Mo_readSource_32 ?_
          have h98 : F91 30 = .int (zI p) := (k94 30 (by decide)).trans ((k88 30 (by decide)).trans ((k82 30 (by decide)).trans hF30))
          have h99 : F91 31 = .int (zI e) := (k94 31 (by decide)).trans ((k88 31 (by decide)).trans ((k82 31 (by decide)).trans hF31))
          have h100 : F91 32 = .int (zI 0) := (k94 32 (by decide)).trans ((k88 32 (by decide)).trans ((k82 32 (by decide)).trans hF32))
          have h101 : f90 63 = iz E 1600 b := (k95 63 (by decide)).trans ((k89 63 (by decide)).trans ((k83 63 (by decide)).trans hc63))
          refine F_callV hX (st := [.ref (eA E 61)]) (c_Mo_readNumber_ok E f90 F91 p e b g sE h92 (moK_fr hmk (FrF.tr (FrF.tr (FrF.tr (FrF.rf (S := [39, 40, 41])) k82 (by decide)) k88 (by decide)) k94 (by decide)) (by decide)) h98 h99 h100 h101 hG hgb (by omega) hn1) cm_Mo_readNumber im_Mo_readNumber se_Mo_readNumber rfl ml_Mo_401 d_Mo_readSource_33 (by decide) h92 rfl rfl (Nat.le_of_ble_eq_true rfl) (by decide) ?_
          rintro _ f102 ⟨rfl, F105, h106, h107, k108, k109⟩
          refine G_cast (st' := [.int (zI ((numL g e 4 p 0).1)), .ref (eA E 61)]) ?_ rfl rfl rfl rfl
          refine M_put hX fg_Mo_373 fp_Mo_40 d_Mo_readSource_36 h106 rfl rfl (by decide) (fun f110 F111 h112 h113 k114 k115 => ?_)
          refine G_aload_n hX 0 rfl rfl d_Mo_readSource_39 ?_
          refine G_aload_n hX 0 rfl rfl d_Mo_readSource_40 ?_
          have h116 : F111 30 = .int (zI ((numL g e 4 p 0).2)) := (k114 30 (by decide)).trans h107
          have h117 : F111 31 = .int (zI e) := (k114 31 (by decide)).trans ((k108 31 (by decide)).trans h99)
          have h118 : F111 32 = .int (zI 0) := (k114 32 (by decide)).trans ((k108 32 (by decide)).trans h100)
          have h119 : f110 63 = iz E 1600 b := (k115 63 (by decide)).trans ((k109 63 (by decide)).trans h101)
          refine F_callV hX (st := [.ref (eA E 61)]) (c_Mo_readNumber_no E f110 F111 ((numL g e 4 p 0).2) e b g sE h112 (moK_fr hmk (FrF.tr (FrF.tr (FrF.tr (FrF.tr (FrF.tr (FrF.rf (S := [30, 39, 40, 41])) k82 (by decide)) k88 (by decide)) k94 (by decide)) k108 (by decide)) k114 (by decide)) (by decide)) h116 h117 h118 h119 hG hgb (by omega) hn3) cm_Mo_readNumber im_Mo_readNumber se_Mo_readNumber rfl ml_Mo_401 d_Mo_readSource_41 (by decide) h112 rfl rfl (Nat.le_of_ble_eq_true rfl) (by decide) ?_
          rintro _ f120 ⟨F123, r'_124, p'_125, rfl, h126, h127, h128, k129, p130, k131⟩
          refine G_cast (st' := [.int (zI r'_124), .ref (eA E 61)]) ?_ rfl rfl rfl rfl
          refine M_put hX fg_Mo_383 fp_Mo_39 d_Mo_readSource_44 h126 rfl rfl (by decide) (fun f132 F133 h134 h135 k136 k137 => ?_)
          refine G_aload_n hX 0 rfl rfl d_Mo_readSource_47 ?_
          refine M_get hX fg_Mo_383 d_Mo_readSource_48 h134 (by decide) h135 ?_
          refine G_aload_n hX 0 rfl rfl d_Mo_readSource_51 ?_
          have h138 : F133 40 = .int (zI ((numL g e 4 p 0).1)) := (k136 40 (by decide)).trans ((k129 40 (by decide)).trans h113)
          refine M_get hX fg_Mo_373 d_Mo_readSource_52 h134 (by decide) h138 ?_
          refine G_iadd_z hX d_Mo_readSource_55 ?_
          refine G_aload_n hX 0 rfl rfl d_Mo_readSource_56 ?_
          have h139 : F133 41 = .int (zI 1) := (k136 41 (by decide)).trans ((k129 41 (by decide)).trans ((k114 41 (by decide)).trans ((k108 41 (by decide)).trans ((k94 41 (by decide)).trans ((k88 41 (by decide)).trans h81)))))
          refine M_get hX fg_Mo_379 d_Mo_readSource_57 h134 (by decide) h139 ?_
          refine G_if_eq_z hX (tgt := 70) d_Mo_readSource_60 rfl (by omega) (fun c140 => by exfalso; omega) (fun c141 => ?_)
          refine G_aload_n hX 0 rfl rfl d_Mo_readSource_63 ?_
          have h142 : F133 36 = .int (zI mc) := (k136 36 (by decide)).trans ((k129 36 (by decide)).trans ((k114 36 (by decide)).trans ((k108 36 (by decide)).trans ((k94 36 (by decide)).trans ((k88 36 (by decide)).trans ((k82 36 (by decide)).trans hF36))))))
          refine M_get hX fg_Mo_386 d_Mo_readSource_64 h134 (by decide) h142 ?_
          refine G_goto hX (tgt := 74) d_Mo_readSource_67 rfl ?_
          refine G_icmp_le_z hX (tgt := 83) d_Mo_readSource_74 rfl (by omega) (fun c143 => ?_) (fun c144 => ?_)
          · skip
            have h145 : F133 30 = .int (zI p'_125) := (k136 30 (by decide)).trans h127
            have h146 : F133 32 = .int (zI (-2)) := (k136 32 (by decide)).trans h128
            exact F_vret hX hE d_Mo_readSource_83 ⟨rfl, F133, _, h134, h145, h146, (FrF.tr (FrF.tr (FrF.tr (FrF.tr (FrF.tr (FrF.tr (FrF.tr FrF.rf k82 (by decide)) k88 (by decide)) k94 (by decide)) k108 (by decide)) k114 (by decide)) k129 (by decide)) k136 (by decide)), (by omega), (Fr.tr (Fr.tr (Fr.tr (Fr.tr (Fr.tr (Fr.tr (Fr.tr Fr.rf k83 (by decide)) k89 (by decide)) k95 (by decide)) k109 (by decide)) k115 (by decide)) k131 (by decide)) k137 (by decide))⟩
          · skip
            refine G_aload_n hX 0 rfl rfl d_Mo_readSource_77 ?_
            refine G_bipush hX (by decide) d_Mo_readSource_78 ?_
            have h147 : F133 32 = .int (zI (-2)) := (k136 32 (by decide)).trans h128
            refine F_callV hX (st := []) (c_Mo_refuse_f E f132 F133 (-2) (-2) h134 (moK_fr hmk (FrF.tr (FrF.tr (FrF.tr (FrF.tr (FrF.tr (FrF.tr (FrF.tr (FrF.rf (S := [30, 32, 39, 40, 41])) k82 (by decide)) k88 (by decide)) k94 (by decide)) k108 (by decide)) k114 (by decide)) k129 (by decide)) k136 (by decide)) (by decide)) h147 (by omega)) cm_Mo_refuse im_Mo_refuse se_Mo_refuse rfl ml_Mo_354 d_Mo_readSource_80 (by decide) h134 rfl rfl (Nat.le_of_ble_eq_true rfl) (by decide) ?_
            rintro _ f148 ⟨rfl, F151, h152, h153, k154, k155⟩
            refine G_cast (st' := []) ?_ rfl rfl rfl rfl
            have h156 : F151 30 = .int (zI p'_125) := (k154 30 (by decide)).trans ((k136 30 (by decide)).trans h127)
            exact F_vret hX hE d_Mo_readSource_83 ⟨rfl, F151, _, h152, h156, h153, (FrF.tr (FrF.tr (FrF.tr (FrF.tr (FrF.tr (FrF.tr (FrF.tr (FrF.tr FrF.rf k82 (by decide)) k88 (by decide)) k94 (by decide)) k108 (by decide)) k114 (by decide)) k129 (by decide)) k136 (by decide)) k154 (by decide)), (by omega), (Fr.tr (Fr.tr (Fr.tr (Fr.tr (Fr.tr (Fr.tr (Fr.tr (Fr.tr Fr.rf k83 (by decide)) k89 (by decide)) k95 (by decide)) k109 (by decide)) k115 (by decide)) k131 (by decide)) k137 (by decide)) k155 (by decide))⟩
      · skip
        have hn3 : (numL g e 4 p 0).1 < 0 := by omega
        refine G_aload_n hX 0 rfl rfl d_Mo_readSource_0 ?_
        refine G_iload_n hX 1 rfl rfl d_Mo_readSource_1 ?_
        refine G_iconst hX d_Mo_readSource_2 ?_
        refine G_iand hX d_Mo_readSource_3 ?_
        refine G_top (show (zI kk &&& zI 2) = zI (kk / 2 % 2 * 2) from zI_and2 (by omega)) ?_
        refine G_if_le_z hX (tgt := 11) d_Mo_readSource_4 rfl (by omega) (fun c157 => by exfalso; omega) (fun c158 => ?_)
        refine G_iconst hX d_Mo_readSource_7 ?_
        refine G_goto hX (tgt := 12) d_Mo_readSource_8 rfl ?_
        refine M_put hX fg_Mo_379 fp_Mo_41 d_Mo_readSource_12 hMo (by decide) (by decide) (by decide) (fun f159 F160 h161 h162 k163 k164 => ?_)
        refine G_aload_n hX 0 rfl rfl d_Mo_readSource_15 ?_
        refine G_iconst hX d_Mo_readSource_16 ?_
        refine M_put hX fg_Mo_383 fp_Mo_39 d_Mo_readSource_17 h161 rfl rfl (by decide) (fun f165 F166 h167 h168 k169 k170 => ?_)
        refine G_aload_n hX 0 rfl rfl d_Mo_readSource_20 ?_
        refine G_iconst hX d_Mo_readSource_21 ?_
        refine M_put hX fg_Mo_373 fp_Mo_40 d_Mo_readSource_22 h167 rfl rfl (by decide) (fun f171 F172 h173 h174 k175 k176 => ?_)
        refine G_iload_n hX 1 rfl rfl d_Mo_readSource_25 ?_
        refine G_iconst hX d_Mo_readSource_26 ?_
        refine G_iand hX d_Mo_readSource_27 ?_
        refine G_top (show (zI kk &&& zI 3) = zI (kk % 4) from zI_and3 _) ?_
        refine G_if_le_z hX (tgt := 83) d_Mo_readSource_28 rfl (by omega) (fun c177 => by exfalso; omega) (fun c178 => ?_)
        refine G_aload_n hX 0 rfl rfl d_Mo_readSource_31 ?_
        refine G_aload_n hX 0 rfl rfl d_Mo_readSource_32 ?_
        have h179 : F172 30 = .int (zI p) := (k175 30 (by decide)).trans ((k169 30 (by decide)).trans ((k163 30 (by decide)).trans hF30))
        have h180 : F172 31 = .int (zI e) := (k175 31 (by decide)).trans ((k169 31 (by decide)).trans ((k163 31 (by decide)).trans hF31))
        have h181 : F172 32 = .int (zI 0) := (k175 32 (by decide)).trans ((k169 32 (by decide)).trans ((k163 32 (by decide)).trans hF32))
        have h182 : f171 63 = iz E 1600 b := (k176 63 (by decide)).trans ((k170 63 (by decide)).trans ((k164 63 (by decide)).trans hc63))
        refine F_callV hX (st := [.ref (eA E 61)]) (c_Mo_readNumber_no E f171 F172 p e b g sE h173 (moK_fr hmk (FrF.tr (FrF.tr (FrF.tr (FrF.rf (S := [39, 40, 41])) k163 (by decide)) k169 (by decide)) k175 (by decide)) (by decide)) h179 h180 h181 h182 hG hgb (by omega) hn3) cm_Mo_readNumber im_Mo_readNumber se_Mo_readNumber rfl ml_Mo_401 d_Mo_readSource_33 (by decide) h173 rfl rfl (Nat.le_of_ble_eq_true rfl) (by decide) ?_
        rintro _ f183 ⟨F186, r'_187, p'_188, rfl, h189, h190, h191, k192, p193, k194⟩
        refine G_cast (st' := [.int (zI r'_187), .ref (eA E 61)]) ?_ rfl rfl rfl rfl
        refine M_put hX fg_Mo_373 fp_Mo_40 d_Mo_readSource_36 h189 rfl rfl (by decide) (fun f195 F196 h197 h198 k199 k200 => ?_)
        refine G_aload_n hX 0 rfl rfl d_Mo_readSource_39 ?_
        refine G_aload_n hX 0 rfl rfl d_Mo_readSource_40 ?_
        have h201 : F196 32 = .int (zI (-2)) := (k199 32 (by decide)).trans h191
        refine F_callV hX (st := [.ref (eA E 61)]) (c_Mo_readNumber_f E f195 F196 (-2) h197 (moK_fr hmk (FrF.tr (FrF.tr (FrF.tr (FrF.tr (FrF.tr (FrF.rf (S := [30, 32, 39, 40, 41])) k163 (by decide)) k169 (by decide)) k175 (by decide)) k192 (by decide)) k199 (by decide)) (by decide)) h201 (by omega)) cm_Mo_readNumber im_Mo_readNumber se_Mo_readNumber rfl ml_Mo_401 d_Mo_readSource_41 (by decide) h197 rfl rfl (Nat.le_of_ble_eq_true rfl) (by decide) ?_
        rintro _ f202 ⟨rfl, e205⟩
        obtain rfl := e205.symm
        refine G_cast (st' := [.int (zI 0), .ref (eA E 61)]) ?_ rfl rfl rfl rfl
        refine M_put hX fg_Mo_383 fp_Mo_39 d_Mo_readSource_44 h197 rfl rfl (by decide) (fun f206 F207 h208 h209 k210 k211 => ?_)
        refine G_aload_n hX 0 rfl rfl d_Mo_readSource_47 ?_
        refine M_get hX fg_Mo_383 d_Mo_readSource_48 h208 (by decide) h209 ?_
        refine G_aload_n hX 0 rfl rfl d_Mo_readSource_51 ?_
        have h212 : F207 40 = .int (zI r'_187) := (k210 40 (by decide)).trans h198
        refine M_get hX fg_Mo_373 d_Mo_readSource_52 h208 (by decide) h212 ?_
        refine G_iadd_z hX d_Mo_readSource_55 ?_
        refine G_aload_n hX 0 rfl rfl d_Mo_readSource_56 ?_
        have h213 : F207 41 = .int (zI 1) := (k210 41 (by decide)).trans ((k199 41 (by decide)).trans ((k192 41 (by decide)).trans ((k175 41 (by decide)).trans ((k169 41 (by decide)).trans h162))))
        refine M_get hX fg_Mo_379 d_Mo_readSource_57 h208 (by decide) h213 ?_
        refine G_if_eq_z hX (tgt := 70) d_Mo_readSource_60 rfl (by omega) (fun c214 => by exfalso; omega) (fun c215 => ?_)
        refine G_aload_n hX 0 rfl rfl d_Mo_readSource_63 ?_
        have h216 : F207 36 = .int (zI mc) := (k210 36 (by decide)).trans ((k199 36 (by decide)).trans ((k192 36 (by decide)).trans ((k175 36 (by decide)).trans ((k169 36 (by decide)).trans ((k163 36 (by decide)).trans hF36)))))
        refine M_get hX fg_Mo_386 d_Mo_readSource_64 h208 (by decide) h216 ?_
        refine G_goto hX (tgt := 74) d_Mo_readSource_67 rfl ?_
        refine G_icmp_le_z hX (tgt := 83) d_Mo_readSource_74 rfl (by omega) (fun c217 => ?_) (fun c218 => ?_)
        · skip
          have h219 : F207 30 = .int (zI p'_188) := (k210 30 (by decide)).trans ((k199 30 (by decide)).trans h190)
          have h220 : F207 32 = .int (zI (-2)) := (k210 32 (by decide)).trans h201
          exact F_vret hX hE d_Mo_readSource_83 ⟨rfl, F207, _, h208, h219, h220, (FrF.tr (FrF.tr (FrF.tr (FrF.tr (FrF.tr (FrF.tr FrF.rf k163 (by decide)) k169 (by decide)) k175 (by decide)) k192 (by decide)) k199 (by decide)) k210 (by decide)), (by omega), (Fr.tr (Fr.tr (Fr.tr (Fr.tr (Fr.tr (Fr.tr Fr.rf k164 (by decide)) k170 (by decide)) k176 (by decide)) k194 (by decide)) k200 (by decide)) k211 (by decide))⟩
        · skip
          refine G_aload_n hX 0 rfl rfl d_Mo_readSource_77 ?_
          refine G_bipush hX (by decide) d_Mo_readSource_78 ?_
          have h221 : F207 32 = .int (zI (-2)) := (k210 32 (by decide)).trans h201
          refine F_callV hX (st := []) (c_Mo_refuse_f E f206 F207 (-2) (-2) h208 (moK_fr hmk (FrF.tr (FrF.tr (FrF.tr (FrF.tr (FrF.tr (FrF.tr (FrF.rf (S := [30, 32, 39, 40, 41])) k163 (by decide)) k169 (by decide)) k175 (by decide)) k192 (by decide)) k199 (by decide)) k210 (by decide)) (by decide)) h221 (by omega)) cm_Mo_refuse im_Mo_refuse se_Mo_refuse rfl ml_Mo_354 d_Mo_readSource_80 (by decide) h208 rfl rfl (Nat.le_of_ble_eq_true rfl) (by decide) ?_
          rintro _ f222 ⟨rfl, F225, h226, h227, k228, k229⟩
          refine G_cast (st' := []) ?_ rfl rfl rfl rfl
          have h230 : F225 30 = .int (zI p'_188) := (k228 30 (by decide)).trans ((k210 30 (by decide)).trans ((k199 30 (by decide)).trans h190))
          exact F_vret hX hE d_Mo_readSource_83 ⟨rfl, F225, _, h226, h230, h227, (FrF.tr (FrF.tr (FrF.tr (FrF.tr (FrF.tr (FrF.tr (FrF.tr FrF.rf k163 (by decide)) k169 (by decide)) k175 (by decide)) k192 (by decide)) k199 (by decide)) k210 (by decide)) k228 (by decide)), (by omega), (Fr.tr (Fr.tr (Fr.tr (Fr.tr (Fr.tr (Fr.tr (Fr.tr Fr.rf k164 (by decide)) k170 (by decide)) k176 (by decide)) k194 (by decide)) k200 (by decide)) k211 (by decide)) k229 (by decide))⟩
    · skip
      by_cases hn1 : 0 ≤ (numL g e 4 p 0).1
      · skip
        by_cases hn2 : 0 ≤ (numL g e 4 (numL g e 4 p 0).2 0).1
        · skip
          have hs3 : ¬ (numL g e 4 (numL g e 4 p 0).2 0).1 + (numL g e 4 p 0).1 ≤ oc := fun q => hsok (Or.inr ⟨hn1, hn2, by rw [if_neg (by omega)]; exact q⟩)
          refine G_aload_n hX 0 rfl rfl d_Mo_readSource_0 ?_
          refine G_iload_n hX 1 rfl rfl d_Mo_readSource_1 ?_
          refine G_iconst hX d_Mo_readSource_2 ?_
          refine G_iand hX d_Mo_readSource_3 ?_
          refine G_top (show (zI kk &&& zI 2) = zI (kk / 2 % 2 * 2) from zI_and2 (by omega)) ?_
          refine G_if_le_z hX (tgt := 11) d_Mo_readSource_4 rfl (by omega) (fun c231 => ?_) (fun c232 => by exfalso; omega)
          refine G_iconst hX d_Mo_readSource_11 ?_
          refine M_put hX fg_Mo_379 fp_Mo_41 d_Mo_readSource_12 hMo (by decide) (by decide) (by decide) (fun f233 F234 h235 h236 k237 k238 => ?_)
          refine G_aload_n hX 0 rfl rfl d_Mo_readSource_15 ?_
          refine G_iconst hX d_Mo_readSource_16 ?_
          refine M_put hX fg_Mo_383 fp_Mo_39 d_Mo_readSource_17 h235 rfl rfl (by decide) (fun f239 F240 h241 h242 k243 k244 => ?_)
          refine G_aload_n hX 0 rfl rfl d_Mo_readSource_20 ?_
          refine G_iconst hX d_Mo_readSource_21 ?_
          refine M_put hX fg_Mo_373 fp_Mo_40 d_Mo_readSource_22 h241 rfl rfl (by decide) (fun f245 F246 h247 h248 k249 k250 => ?_)
          refine G_iload_n hX 1 rfl rfl d_Mo_readSource_25 ?_
          refine G_iconst hX d_Mo_readSource_26 ?_
          refine G_iand hX d_Mo_readSource_27 ?_
          refine G_top (show (zI kk &&& zI 3) = zI (kk % 4) from zI_and3 _) ?_
          refine G_if_le_z hX (tgt := 83) d_Mo_readSource_28 rfl (by omega) (fun c251 => by exfalso; omega) (fun c252 => ?_)
          refine G_aload_n hX 0 rfl rfl d_Mo_readSource_31 ?_
          refine G_aload_n hX 0 rfl rfl d_Mo_readSource_32 ?_
          have h253 : F246 30 = .int (zI p) := (k249 30 (by decide)).trans ((k243 30 (by decide)).trans ((k237 30 (by decide)).trans hF30))
          have h254 : F246 31 = .int (zI e) := (k249 31 (by decide)).trans ((k243 31 (by decide)).trans ((k237 31 (by decide)).trans hF31))
          have h255 : F246 32 = .int (zI 0) := (k249 32 (by decide)).trans ((k243 32 (by decide)).trans ((k237 32 (by decide)).trans hF32))
          have h256 : f245 63 = iz E 1600 b := (k250 63 (by decide)).trans ((k244 63 (by decide)).trans ((k238 63 (by decide)).trans hc63))
          refine F_callV hX (st := [.ref (eA E 61)]) (c_Mo_readNumber_ok E f245 F246 p e b g sE h247 (moK_fr hmk (FrF.tr (FrF.tr (FrF.tr (FrF.rf (S := [39, 40, 41])) k237 (by decide)) k243 (by decide)) k249 (by decide)) (by decide)) h253 h254 h255 h256 hG hgb (by omega) hn1) cm_Mo_readNumber im_Mo_readNumber se_Mo_readNumber rfl ml_Mo_401 d_Mo_readSource_33 (by decide) h247 rfl rfl (Nat.le_of_ble_eq_true rfl) (by decide) ?_
          rintro _ f257 ⟨rfl, F260, h261, h262, k263, k264⟩
          refine G_cast (st' := [.int (zI ((numL g e 4 p 0).1)), .ref (eA E 61)]) ?_ rfl rfl rfl rfl
          refine M_put hX fg_Mo_373 fp_Mo_40 d_Mo_readSource_36 h261 rfl rfl (by decide) (fun f265 F266 h267 h268 k269 k270 => ?_)
          refine G_aload_n hX 0 rfl rfl d_Mo_readSource_39 ?_
          refine G_aload_n hX 0 rfl rfl d_Mo_readSource_40 ?_
          have h271 : F266 30 = .int (zI ((numL g e 4 p 0).2)) := (k269 30 (by decide)).trans h262
          have h272 : F266 31 = .int (zI e) := (k269 31 (by decide)).trans ((k263 31 (by decide)).trans h254)
          have h273 : F266 32 = .int (zI 0) := (k269 32 (by decide)).trans ((k263 32 (by decide)).trans h255)
          have h274 : f265 63 = iz E 1600 b := (k270 63 (by decide)).trans ((k264 63 (by decide)).trans h256)
          refine F_callV hX (st := [.ref (eA E 61)]) (c_Mo_readNumber_ok E f265 F266 ((numL g e 4 p 0).2) e b g sE h267 (moK_fr hmk (FrF.tr (FrF.tr (FrF.tr (FrF.tr (FrF.tr (FrF.rf (S := [30, 39, 40, 41])) k237 (by decide)) k243 (by decide)) k249 (by decide)) k263 (by decide)) k269 (by decide)) (by decide)) h271 h272 h273 h274 hG hgb (by omega) hn2) cm_Mo_readNumber im_Mo_readNumber se_Mo_readNumber rfl ml_Mo_401 d_Mo_readSource_41 (by decide) h267 rfl rfl (Nat.le_of_ble_eq_true rfl) (by decide) ?_
          rintro _ f275 ⟨rfl, F278, h279, h280, k281, k282⟩
          refine G_cast (st' := [.int (zI ((numL g e 4 ((numL g e 4 p 0).2) 0).1)), .ref (eA E 61)]) ?_ rfl rfl rfl rfl
          refine M_put hX fg_Mo_383 fp_Mo_39 d_Mo_readSource_44 h279 rfl rfl (by decide) (fun f283 F284 h285 h286 k287 k288 => ?_)
          refine G_aload_n hX 0 rfl rfl d_Mo_readSource_47 ?_
          refine M_get hX fg_Mo_383 d_Mo_readSource_48 h285 (by decide) h286 ?_
          refine G_aload_n hX 0 rfl rfl d_Mo_readSource_51 ?_
          have h289 : F284 40 = .int (zI ((numL g e 4 p 0).1)) := (k287 40 (by decide)).trans ((k281 40 (by decide)).trans h268)
          refine M_get hX fg_Mo_373 d_Mo_readSource_52 h285 (by decide) h289 ?_
          refine G_iadd_z hX d_Mo_readSource_55 ?_
          refine G_aload_n hX 0 rfl rfl d_Mo_readSource_56 ?_
          have h290 : F284 41 = .int (zI 0) := (k287 41 (by decide)).trans ((k281 41 (by decide)).trans ((k269 41 (by decide)).trans ((k263 41 (by decide)).trans ((k249 41 (by decide)).trans ((k243 41 (by decide)).trans h236)))))
          refine M_get hX fg_Mo_379 d_Mo_readSource_57 h285 (by decide) h290 ?_
          refine G_if_eq_z hX (tgt := 70) d_Mo_readSource_60 rfl (by omega) (fun c291 => ?_) (fun c292 => by exfalso; omega)
          refine G_aload_n hX 0 rfl rfl d_Mo_readSource_70 ?_
          have h293 : F284 34 = .int (zI oc) := (k287 34 (by decide)).trans ((k281 34 (by decide)).trans ((k269 34 (by decide)).trans ((k263 34 (by decide)).trans ((k249 34 (by decide)).trans ((k243 34 (by decide)).trans ((k237 34 (by decide)).trans hF34))))))
          refine M_get hX fg_Mo_364 d_Mo_readSource_71 h285 (by decide) h293 ?_
          refine G_icmp_le_z hX (tgt := 83) d_Mo_readSource_74 rfl (by omega) (fun c294 => by exfalso; omega) (fun c295 => ?_)
          refine G_aload_n hX 0 rfl rfl d_Mo_readSource_77 ?_
          refine G_bipush hX (by decide) d_Mo_readSource_78 ?_
          have h296 : F284 32 = .int (zI 0) := (k287 32 (by decide)).trans ((k281 32 (by decide)).trans h273)
          refine F_callV hX (st := []) (c_Mo_refuse E f283 F284 (-2) h285 (moK_fr hmk (FrF.tr (FrF.tr (FrF.tr (FrF.tr (FrF.tr (FrF.tr (FrF.tr (FrF.rf (S := [30, 39, 40, 41])) k237 (by decide)) k243 (by decide)) k249 (by decide)) k263 (by decide)) k269 (by decide)) k281 (by decide)) k287 (by decide)) (by decide)) h296) cm_Mo_refuse im_Mo_refuse se_Mo_refuse rfl ml_Mo_354 d_Mo_readSource_80 (by decide) h285 rfl rfl (Nat.le_of_ble_eq_true rfl) (by decide) ?_
          rintro _ f297 ⟨rfl, F300, h301, h302, k303, k304⟩
          refine G_cast (st' := []) ?_ rfl rfl rfl rfl
          have h305 : F300 30 = .int (zI ((numL g e 4 ((numL g e 4 p 0).2) 0).2)) := (k303 30 (by decide)).trans ((k287 30 (by decide)).trans h280)
          exact F_vret hX hE d_Mo_readSource_83 ⟨rfl, F300, _, h301, h305, h302, (FrF.tr (FrF.tr (FrF.tr (FrF.tr (FrF.tr (FrF.tr (FrF.tr (FrF.tr FrF.rf k237 (by decide)) k243 (by decide)) k249 (by decide)) k263 (by decide)) k269 (by decide)) k281 (by decide)) k287 (by decide)) k303 (by decide)), (by omega), (Fr.tr (Fr.tr (Fr.tr (Fr.tr (Fr.tr (Fr.tr (Fr.tr (Fr.tr Fr.rf k238 (by decide)) k244 (by decide)) k250 (by decide)) k264 (by decide)) k270 (by decide)) k282 (by decide)) k288 (by decide)) k304 (by decide))⟩
        · skip
          have hn3 : (numL g e 4 (numL g e 4 p 0).2 0).1 < 0 := by omega
          refine G_aload_n hX 0 rfl rfl d_Mo_readSource_0 ?_
          refine G_iload_n hX 1 rfl rfl d_Mo_readSource_1 ?_
          refine G_iconst hX d_Mo_readSource_2 ?_
          refine G_iand hX d_Mo_readSource_3 ?_
          refine G_top (show (zI kk &&& zI 2) = zI (kk / 2 % 2 * 2) from zI_and2 (by omega)) ?_
          refine G_if_le_z hX (tgt := 11) d_Mo_readSource_4 rfl (by omega) (fun c306 => ?_) (fun c307 => by exfalso; omega)
          refine G_iconst hX d_Mo_readSource_11 ?_
          refine M_put hX fg_Mo_379 fp_Mo_41 d_Mo_readSource_12 hMo (by decide) (by decide) (by decide) (fun f308 F309 h310 h311 k312 k313 => ?_)
          refine G_aload_n hX 0 rfl rfl d_Mo_readSource_15 ?_
          refine G_iconst hX d_Mo_readSource_16 ?_
          refine M_put hX fg_Mo_383 fp_Mo_39 d_Mo_readSource_17 h310 rfl rfl (by decide) (fun f314 F315 h316 h317 k318 k319 => ?_)
          refine G_aload_n hX 0 rfl rfl d_Mo_readSource_20 ?_
          refine G_iconst hX d_Mo_readSource_21 ?_
          refine M_put hX fg_Mo_373 fp_Mo_40 d_Mo_readSource_22 h316 rfl rfl (by decide) (fun f320 F321 h322 h323 k324 k325 => ?_)
          refine G_iload_n hX 1 rfl rfl d_Mo_readSource_25 ?_
          refine G_iconst hX d_Mo_readSource_26 ?_
          refine G_iand hX d_Mo_readSource_27 ?_
          refine G_top (show (zI kk &&& zI 3) = zI (kk % 4) from zI_and3 _) ?_
          refine G_if_le_z hX (tgt := 83) d_Mo_readSource_28 rfl (by omega) (fun c326 => by exfalso; omega) (fun c327 => ?_)
          refine G_aload_n hX 0 rfl rfl d_Mo_readSource_31 ?_
          refine G_aload_n hX 0 rfl rfl d_Mo_readSource_32 ?_
          have h328 : F321 30 = .int (zI p) := (k324 30 (by decide)).trans ((k318 30 (by decide)).trans ((k312 30 (by decide)).trans hF30))
          have h329 : F321 31 = .int (zI e) := (k324 31 (by decide)).trans ((k318 31 (by decide)).trans ((k312 31 (by decide)).trans hF31))
          have h330 : F321 32 = .int (zI 0) := (k324 32 (by decide)).trans ((k318 32 (by decide)).trans ((k312 32 (by decide)).trans hF32))
          have h331 : f320 63 = iz E 1600 b := (k325 63 (by decide)).trans ((k319 63 (by decide)).trans ((k313 63 (by decide)).trans hc63))
          refine F_callV hX (st := [.ref (eA E 61)]) (c_Mo_readNumber_ok E f320 F321 p e b g sE h322 (moK_fr hmk (FrF.tr (FrF.tr (FrF.tr (FrF.rf (S := [39, 40, 41])) k312 (by decide)) k318 (by decide)) k324 (by decide)) (by decide)) h328 h329 h330 h331 hG hgb (by omega) hn1) cm_Mo_readNumber im_Mo_readNumber se_Mo_readNumber rfl ml_Mo_401 d_Mo_readSource_33 (by decide) h322 rfl rfl (Nat.le_of_ble_eq_true rfl) (by decide) ?_
          rintro _ f332 ⟨rfl, F335, h336, h337, k338, k339⟩
          refine G_cast (st' := [.int (zI ((numL g e 4 p 0).1)), .ref (eA E 61)]) ?_ rfl rfl rfl rfl
          refine M_put hX fg_Mo_373 fp_Mo_40 d_Mo_readSource_36 h336 rfl rfl (by decide) (fun f340 F341 h342 h343 k344 k345 => ?_)
          refine G_aload_n hX 0 rfl rfl d_Mo_readSource_39 ?_
          refine G_aload_n hX 0 rfl rfl d_Mo_readSource_40 ?_
          have h346 : F341 30 = .int (zI ((numL g e 4 p 0).2)) := (k344 30 (by decide)).trans h337
          have h347 : F341 31 = .int (zI e) := (k344 31 (by decide)).trans ((k338 31 (by decide)).trans h329)
          have h348 : F341 32 = .int (zI 0) := (k344 32 (by decide)).trans ((k338 32 (by decide)).trans h330)
          have h349 : f340 63 = iz E 1600 b := (k345 63 (by decide)).trans ((k339 63 (by decide)).trans h331)
          refine F_callV hX (st := [.ref (eA E 61)]) (c_Mo_readNumber_no E f340 F341 ((numL g e 4 p 0).2) e b g sE h342 (moK_fr hmk (FrF.tr (FrF.tr (FrF.tr (FrF.tr (FrF.tr (FrF.rf (S := [30, 39, 40, 41])) k312 (by decide)) k318 (by decide)) k324 (by decide)) k338 (by decide)) k344 (by decide)) (by decide)) h346 h347 h348 h349 hG hgb (by omega) hn3) cm_Mo_readNumber im_Mo_readNumber se_Mo_readNumber rfl ml_Mo_401 d_Mo_readSource_41 (by decide) h342 rfl rfl (Nat.le_of_ble_eq_true rfl) (by decide) ?_
          rintro _ f350 ⟨F353, r'_354, p'_355, rfl, h356, h357, h358, k359, p360, k361⟩
          refine G_cast (st' := [.int (zI r'_354), .ref (eA E 61)]) ?_ rfl rfl rfl rfl
          refine M_put hX fg_Mo_383 fp_Mo_39 d_Mo_readSource_44 h356 rfl rfl (by decide) (fun f362 F363 h364 h365 k366 k367 => ?_)
          refine G_aload_n hX 0 rfl rfl d_Mo_readSource_47 ?_
          refine M_get hX fg_Mo_383 d_Mo_readSource_48 h364 (by decide) h365 ?_
          refine G_aload_n hX 0 rfl rfl d_Mo_readSource_51 ?_
          have h368 : F363 40 = .int (zI ((numL g e 4 p 0).1)) := (k366 40 (by decide)).trans ((k359 40 (by decide)).trans h343)
          refine M_get hX fg_Mo_373 d_Mo_readSource_52 h364 (by decide) h368 ?_
          refine G_iadd_z hX d_Mo_readSource_55 ?_
          refine G_aload_n hX 0 rfl rfl d_Mo_readSource_56 ?_
          have h369 : F363 41 = .int (zI 0) := (k366 41 (by decide)).trans ((k359 41 (by decide)).trans ((k344 41 (by decide)).trans ((k338 41 (by decide)).trans ((k324 41 (by decide)).trans ((k318 41 (by decide)).trans h311)))))
          refine M_get hX fg_Mo_379 d_Mo_readSource_57 h364 (by decide) h369 ?_
          refine G_if_eq_z hX (tgt := 70) d_Mo_readSource_60 rfl (by omega) (fun c370 => ?_) (fun c371 => by exfalso; omega)
          refine G_aload_n hX 0 rfl rfl d_Mo_readSource_70 ?_
          have h372 : F363 34 = .int (zI oc) := (k366 34 (by decide)).trans ((k359 34 (by decide)).trans ((k344 34 (by decide)).trans ((k338 34 (by decide)).trans ((k324 34 (by decide)).trans ((k318 34 (by decide)).trans ((k312 34 (by decide)).trans hF34))))))
          refine M_get hX fg_Mo_364 d_Mo_readSource_71 h364 (by decide) h372 ?_
          refine G_icmp_le_z hX (tgt := 83) d_Mo_readSource_74 rfl (by omega) (fun c373 => ?_) (fun c374 => ?_)
          · skip
            have h375 : F363 30 = .int (zI p'_355) := (k366 30 (by decide)).trans h357
            have h376 : F363 32 = .int (zI (-2)) := (k366 32 (by decide)).trans h358
            exact F_vret hX hE d_Mo_readSource_83 ⟨rfl, F363, _, h364, h375, h376, (FrF.tr (FrF.tr (FrF.tr (FrF.tr (FrF.tr (FrF.tr (FrF.tr FrF.rf k312 (by decide)) k318 (by decide)) k324 (by decide)) k338 (by decide)) k344 (by decide)) k359 (by decide)) k366 (by decide)), (by omega), (Fr.tr (Fr.tr (Fr.tr (Fr.tr (Fr.tr (Fr.tr (Fr.tr Fr.rf k313 (by decide)) k319 (by decide)) k325 (by decide)) k339 (by decide)) k345 (by decide)) k361 (by decide)) k367 (by decide))⟩
          · skip
            refine G_aload_n hX 0 rfl rfl d_Mo_readSource_77 ?_
            refine G_bipush hX (by decide) d_Mo_readSource_78 ?_
            have h377 : F363 32 = .int (zI (-2)) := (k366 32 (by decide)).trans h358
            refine F_callV hX (st := []) (c_Mo_refuse_f E f362 F363 (-2) (-2) h364 (moK_fr hmk (FrF.tr (FrF.tr (FrF.tr (FrF.tr (FrF.tr (FrF.tr (FrF.tr (FrF.rf (S := [30, 32, 39, 40, 41])) k312 (by decide)) k318 (by decide)) k324 (by decide)) k338 (by decide)) k344 (by decide)) k359 (by decide)) k366 (by decide)) (by decide)) h377 (by omega)) cm_Mo_refuse im_Mo_refuse se_Mo_refuse rfl ml_Mo_354 d_Mo_readSource_80 (by decide) h364 rfl rfl (Nat.le_of_ble_eq_true rfl) (by decide) ?_
            rintro _ f378 ⟨rfl, F381, h382, h383, k384, k385⟩
            refine G_cast (st' := []) ?_ rfl rfl rfl rfl
            have h386 : F381 30 = .int (zI p'_355) := (k384 30 (by decide)).trans ((k366 30 (by decide)).trans h357)
            exact F_vret hX hE d_Mo_readSource_83 ⟨rfl, F381, _, h382, h386, h383, (FrF.tr (FrF.tr (FrF.tr (FrF.tr (FrF.tr (FrF.tr (FrF.tr (FrF.tr FrF.rf k312 (by decide)) k318 (by decide)) k324 (by decide)) k338 (by decide)) k344 (by decide)) k359 (by decide)) k366 (by decide)) k384 (by decide)), (by omega), (Fr.tr (Fr.tr (Fr.tr (Fr.tr (Fr.tr (Fr.tr (Fr.tr (Fr.tr Fr.rf k313 (by decide)) k319 (by decide)) k325 (by decide)) k339 (by decide)) k345 (by decide)) k361 (by decide)) k367 (by decide)) k385 (by decide))⟩
      · skip
        have hn3 : (numL g e 4 p 0).1 < 0 := by omega
        refine G_aload_n hX 0 rfl rfl d_Mo_readSource_0 ?_
        refine G_iload_n hX 1 rfl rfl d_Mo_readSource_1 ?_
        refine G_iconst hX d_Mo_readSource_2 ?_
        refine G_iand hX d_Mo_readSource_3 ?_
        refine G_top (show (zI kk &&& zI 2) = zI (kk / 2 % 2 * 2) from zI_and2 (by omega)) ?_
        refine G_if_le_z hX (tgt := 11) d_Mo_readSource_4 rfl (by omega) (fun c387 => ?_) (fun c388 => by exfalso; omega)
        refine G_iconst hX d_Mo_readSource_11 ?_
        refine M_put hX fg_Mo_379 fp_Mo_41 d_Mo_readSource_12 hMo (by decide) (by decide) (by decide) (fun f389 F390 h391 h392 k393 k394 => ?_)
        refine G_aload_n hX 0 rfl rfl d_Mo_readSource_15 ?_
        refine G_iconst hX d_Mo_readSource_16 ?_
        refine M_put hX fg_Mo_383 fp_Mo_39 d_Mo_readSource_17 h391 rfl rfl (by decide) (fun f395 F396 h397 h398 k399 k400 => ?_)
        refine G_aload_n hX 0 rfl rfl d_Mo_readSource_20 ?_
        refine G_iconst hX d_Mo_readSource_21 ?_
        refine M_put hX fg_Mo_373 fp_Mo_40 d_Mo_readSource_22 h397 rfl rfl (by decide) (fun f401 F402 h403 h404 k405 k406 => ?_)
        refine G_iload_n hX 1 rfl rfl d_Mo_readSource_25 ?_
        refine G_iconst hX d_Mo_readSource_26 ?_
        refine G_iand hX d_Mo_readSource_27 ?_
        refine G_top (show (zI kk &&& zI 3) = zI (kk % 4) from zI_and3 _) ?_
        refine G_if_le_z hX (tgt := 83) d_Mo_readSource_28 rfl (by omega) (fun c407 => by exfalso; omega) (fun c408 => ?_)
        refine G_aload_n hX 0 rfl rfl d_Mo_readSource_31 ?_
        refine G_aload_n hX 0 rfl rfl d_Mo_readSource_32 ?_
        have h409 : F402 30 = .int (zI p) := (k405 30 (by decide)).trans ((k399 30 (by decide)).trans ((k393 30 (by decide)).trans hF30))
        have h410 : F402 31 = .int (zI e) := (k405 31 (by decide)).trans ((k399 31 (by decide)).trans ((k393 31 (by decide)).trans hF31))
        have h411 : F402 32 = .int (zI 0) := (k405 32 (by decide)).trans ((k399 32 (by decide)).trans ((k393 32 (by decide)).trans hF32))
        have h412 : f401 63 = iz E 1600 b := (k406 63 (by decide)).trans ((k400 63 (by decide)).trans ((k394 63 (by decide)).trans hc63))
        refine F_callV hX (st := [.ref (eA E 61)]) (c_Mo_readNumber_no E f401 F402 p e b g sE h403 (moK_fr hmk (FrF.tr (FrF.tr (FrF.tr (FrF.rf (S := [39, 40, 41])) k393 (by decide)) k399 (by decide)) k405 (by decide)) (by decide)) h409 h410 h411 h412 hG hgb (by omega) hn3) cm_Mo_readNumber im_Mo_readNumber se_Mo_readNumber rfl ml_Mo_401 d_Mo_readSource_33 (by decide) h403 rfl rfl (Nat.le_of_ble_eq_true rfl) (by decide) ?_
        rintro _ f413 ⟨F416, r'_417, p'_418, rfl, h419, h420, h421, k422, p423, k424⟩
        refine G_cast (st' := [.int (zI r'_417), .ref (eA E 61)]) ?_ rfl rfl rfl rfl
        refine M_put hX fg_Mo_373 fp_Mo_40 d_Mo_readSource_36 h419 rfl rfl (by decide) (fun f425 F426 h427 h428 k429 k430 => ?_)
        refine G_aload_n hX 0 rfl rfl d_Mo_readSource_39 ?_
        refine G_aload_n hX 0 rfl rfl d_Mo_readSource_40 ?_
        have h431 : F426 32 = .int (zI (-2)) := (k429 32 (by decide)).trans h421
        refine F_callV hX (st := [.ref (eA E 61)]) (c_Mo_readNumber_f E f425 F426 (-2) h427 (moK_fr hmk (FrF.tr (FrF.tr (FrF.tr (FrF.tr (FrF.tr (FrF.rf (S := [30, 32, 39, 40, 41])) k393 (by decide)) k399 (by decide)) k405 (by decide)) k422 (by decide)) k429 (by decide)) (by decide)) h431 (by omega)) cm_Mo_readNumber im_Mo_readNumber se_Mo_readNumber rfl ml_Mo_401 d_Mo_readSource_41 (by decide) h427 rfl rfl (Nat.le_of_ble_eq_true rfl) (by decide) ?_
        rintro _ f432 ⟨rfl, e435⟩
        obtain rfl := e435.symm
        refine G_cast (st' := [.int (zI 0), .ref (eA E 61)]) ?_ rfl rfl rfl rfl
        refine M_put hX fg_Mo_383 fp_Mo_39 d_Mo_readSource_44 h427 rfl rfl (by decide) (fun f436 F437 h438 h439 k440 k441 => ?_)
        refine G_aload_n hX 0 rfl rfl d_Mo_readSource_47 ?_
        refine M_get hX fg_Mo_383 d_Mo_readSource_48 h438 (by decide) h439 ?_
        refine G_aload_n hX 0 rfl rfl d_Mo_readSource_51 ?_
        have h442 : F437 40 = .int (zI r'_417) := (k440 40 (by decide)).trans h428
        refine M_get hX fg_Mo_373 d_Mo_readSource_52 h438 (by decide) h442 ?_
        refine G_iadd_z hX d_Mo_readSource_55 ?_
        refine G_aload_n hX 0 rfl rfl d_Mo_readSource_56 ?_
        have h443 : F437 41 = .int (zI 0) := (k440 41 (by decide)).trans ((k429 41 (by decide)).trans ((k422 41 (by decide)).trans ((k405 41 (by decide)).trans ((k399 41 (by decide)).trans h392))))
        refine M_get hX fg_Mo_379 d_Mo_readSource_57 h438 (by decide) h443 ?_
        refine G_if_eq_z hX (tgt := 70) d_Mo_readSource_60 rfl (by omega) (fun c444 => ?_) (fun c445 => by exfalso; omega)
        refine G_aload_n hX 0 rfl rfl d_Mo_readSource_70 ?_
        have h446 : F437 34 = .int (zI oc) := (k440 34 (by decide)).trans ((k429 34 (by decide)).trans ((k422 34 (by decide)).trans ((k405 34 (by decide)).trans ((k399 34 (by decide)).trans ((k393 34 (by decide)).trans hF34)))))
        refine M_get hX fg_Mo_364 d_Mo_readSource_71 h438 (by decide) h446 ?_
        refine G_icmp_le_z hX (tgt := 83) d_Mo_readSource_74 rfl (by omega) (fun c447 => ?_) (fun c448 => ?_)
        · skip
          have h449 : F437 30 = .int (zI p'_418) := (k440 30 (by decide)).trans ((k429 30 (by decide)).trans h420)
          have h450 : F437 32 = .int (zI (-2)) := (k440 32 (by decide)).trans h431
          exact F_vret hX hE d_Mo_readSource_83 ⟨rfl, F437, _, h438, h449, h450, (FrF.tr (FrF.tr (FrF.tr (FrF.tr (FrF.tr (FrF.tr FrF.rf k393 (by decide)) k399 (by decide)) k405 (by decide)) k422 (by decide)) k429 (by decide)) k440 (by decide)), (by omega), (Fr.tr (Fr.tr (Fr.tr (Fr.tr (Fr.tr (Fr.tr Fr.rf k394 (by decide)) k400 (by decide)) k406 (by decide)) k424 (by decide)) k430 (by decide)) k441 (by decide))⟩
        · skip
          refine G_aload_n hX 0 rfl rfl d_Mo_readSource_77 ?_
          refine G_bipush hX (by decide) d_Mo_readSource_78 ?_
          have h451 : F437 32 = .int (zI (-2)) := (k440 32 (by decide)).trans h431
          refine F_callV hX (st := []) (c_Mo_refuse_f E f436 F437 (-2) (-2) h438 (moK_fr hmk (FrF.tr (FrF.tr (FrF.tr (FrF.tr (FrF.tr (FrF.tr (FrF.rf (S := [30, 32, 39, 40, 41])) k393 (by decide)) k399 (by decide)) k405 (by decide)) k422 (by decide)) k429 (by decide)) k440 (by decide)) (by decide)) h451 (by omega)) cm_Mo_refuse im_Mo_refuse se_Mo_refuse rfl ml_Mo_354 d_Mo_readSource_80 (by decide) h438 rfl rfl (Nat.le_of_ble_eq_true rfl) (by decide) ?_
          rintro _ f452 ⟨rfl, F455, h456, h457, k458, k459⟩
          refine G_cast (st' := []) ?_ rfl rfl rfl rfl
          have h460 : F455 30 = .int (zI p'_418) := (k458 30 (by decide)).trans ((k440 30 (by decide)).trans ((k429 30 (by decide)).trans h420))
          exact F_vret hX hE d_Mo_readSource_83 ⟨rfl, F455, _, h456, h460, h457, (FrF.tr (FrF.tr (FrF.tr (FrF.tr (FrF.tr (FrF.tr (FrF.tr FrF.rf k393 (by decide)) k399 (by decide)) k405 (by decide)) k422 (by decide)) k429 (by decide)) k440 (by decide)) k458 (by decide)), (by omega), (Fr.tr (Fr.tr (Fr.tr (Fr.tr (Fr.tr (Fr.tr (Fr.tr Fr.rf k394 (by decide)) k400 (by decide)) k406 (by decide)) k424 (by decide)) k430 (by decide)) k441 (by decide)) k459 (by decide))⟩
theorem c_Mo_readSource_f (E : EV) (f : Nat → va_E) (F : Nat → Value) (kk : Int) (mc : Int) (oc : Int) (fl : Int) (hMo : f 61 = mob F) (hmk : moK E F) (hF32 : F 32 = .int (zI fl)) (hF34 : F 34 = .int (zI oc)) (hF36 : F 36 = .int (zI mc)) (hmc : 0 ≤ mc ∧ mc ≤ 1536 ∧ 0 ≤ oc ∧ oc ≤ 1536) (hk : 0 ≤ kk ∧ kk < 256) (hfl : fl ≠ 0 ∧ -10 ≤ fl ∧ fl ≤ 0) : CF yn_Mo_readSource cd_Mo_readSource 2 none 3 E [.ref (eA E 61), .int (zI kk)] f (fun r f' => r = none ∧ ∃ (F' : Nat → Value), f' 61 = mob F' ∧ F' 32 = .int (zI fl) ∧ FrF [32, 39, 40, 41] F F' ∧ Fr [61] f f') := by
  refine CF.of (by decide +kernel) (Nat.le_of_ble_eq_true rfl) fun X hX hE => ?_
  have hX : Ok E X "DeltaFerryModel" "readSource" cd_Mo_readSource 2 none (rl 3) := hX
  refine G_cast (lv' := [(0, .ref (eA E 61)), (1, .int (zI kk))]) ?_ rfl rfl rfl rfl
  refine G_aload_n hX 0 rfl rfl d_Mo_readSource_0 ?_
  refine G_iload_n hX 1 rfl rfl d_Mo_readSource_1 ?_
  refine G_iconst hX d_Mo_readSource_2 ?_
  refine G_iand hX d_Mo_readSource_3 ?_
  refine G_top (show (zI kk &&& zI 2) = zI (kk / 2 % 2 * 2) from zI_and2 (by omega)) ?_
  refine G_if_le_z hX (tgt := 11) d_Mo_readSource_4 rfl (by omega) (fun c1 => ?_) (fun c2 => ?_)
  · skip
    refine G_iconst hX d_Mo_readSource_11 ?_
    refine M_put hX fg_Mo_379 fp_Mo_41 d_Mo_readSource_12 hMo (by decide) (by decide) (by decide) (fun f3 F4 h5 h6 k7 k8 => ?_)
    refine G_aload_n hX 0 rfl rfl d_Mo_readSource_15 ?_
    refine G_iconst hX d_Mo_readSource_16 ?_
    refine M_put hX fg_Mo_383 fp_Mo_39 d_Mo_readSource_17 h5 rfl rfl (by decide) (fun f9 F10 h11 h12 k13 k14 => ?_)
    refine G_aload_n hX 0 rfl rfl d_Mo_readSource_20 ?_
    refine G_iconst hX d_Mo_readSource_21 ?_
    refine M_put hX fg_Mo_373 fp_Mo_40 d_Mo_readSource_22 h11 rfl rfl (by decide) (fun f15 F16 h17 h18 k19 k20 => ?_)
    refine G_iload_n hX 1 rfl rfl d_Mo_readSource_25 ?_
    refine G_iconst hX d_Mo_readSource_26 ?_
    refine G_iand hX d_Mo_readSource_27 ?_
    refine G_top (show (zI kk &&& zI 3) = zI (kk % 4) from zI_and3 _) ?_
    refine G_if_le_z hX (tgt := 83) d_Mo_readSource_28 rfl (by omega) (fun c21 => ?_) (fun c22 => ?_)
    · skip
      have h23 : F16 32 = .int (zI fl) := (k19 32 (by decide)).trans ((k13 32 (by decide)).trans ((k7 32 (by decide)).trans hF32))
      exact F_vret hX hE d_Mo_readSource_83 ⟨rfl, F16, h17, h23, (FrF.tr (FrF.tr (FrF.tr FrF.rf k7 (by decide)) k13 (by decide)) k19 (by decide)), (Fr.tr (Fr.tr (Fr.tr Fr.rf k8 (by decide)) k14 (by decide)) k20 (by decide))⟩
    · skip
      refine G_aload_n hX 0 rfl rfl d_Mo_readSource_31 ?_
      refine G_aload_n hX 0 rfl rfl d_Mo_readSource_32 ?_
      have h24 : F16 32 = .int (zI fl) := (k19 32 (by decide)).trans ((k13 32 (by decide)).trans ((k7 32 (by decide)).trans hF32))
      refine F_callV hX (st := [.ref (eA E 61)]) (c_Mo_readNumber_f E f15 F16 fl h17 (moK_fr hmk (FrF.tr (FrF.tr (FrF.tr (FrF.rf (S := [39, 40, 41])) k7 (by decide)) k13 (by decide)) k19 (by decide)) (by decide)) h24 (by omega)) cm_Mo_readNumber im_Mo_readNumber se_Mo_readNumber rfl ml_Mo_401 d_Mo_readSource_33 (by decide) h17 rfl rfl (Nat.le_of_ble_eq_true rfl) (by decide) ?_
      rintro _ f25 ⟨rfl, e28⟩
      obtain rfl := e28.symm
      refine G_cast (st' := [.int (zI 0), .ref (eA E 61)]) ?_ rfl rfl rfl rfl
      refine M_put hX fg_Mo_373 fp_Mo_40 d_Mo_readSource_36 h17 rfl rfl (by decide) (fun f29 F30 h31 h32 k33 k34 => ?_)
      refine G_aload_n hX 0 rfl rfl d_Mo_readSource_39 ?_
      refine G_aload_n hX 0 rfl rfl d_Mo_readSource_40 ?_
      have h35 : F30 32 = .int (zI fl) := (k33 32 (by decide)).trans h24
      refine F_callV hX (st := [.ref (eA E 61)]) (c_Mo_readNumber_f E f29 F30 fl h31 (moK_fr hmk (FrF.tr (FrF.tr (FrF.tr (FrF.tr (FrF.rf (S := [39, 40, 41])) k7 (by decide)) k13 (by decide)) k19 (by decide)) k33 (by decide)) (by decide)) h35 (by omega)) cm_Mo_readNumber im_Mo_readNumber se_Mo_readNumber rfl ml_Mo_401 d_Mo_readSource_41 (by decide) h31 rfl rfl (Nat.le_of_ble_eq_true rfl) (by decide) ?_
      rintro _ f36 ⟨rfl, e39⟩
      obtain rfl := e39.symm
      refine G_cast (st' := [.int (zI 0), .ref (eA E 61)]) ?_ rfl rfl rfl rfl
      refine M_put hX fg_Mo_383 fp_Mo_39 d_Mo_readSource_44 h31 rfl rfl (by decide) (fun f40 F41 h42 h43 k44 k45 => ?_)
      refine G_aload_n hX 0 rfl rfl d_Mo_readSource_47 ?_
      refine M_get hX fg_Mo_383 d_Mo_readSource_48 h42 (by decide) h43 ?_
      refine G_aload_n hX 0 rfl rfl d_Mo_readSource_51 ?_
      have h46 : F41 40 = .int (zI 0) := (k44 40 (by decide)).trans h32
      refine M_get hX fg_Mo_373 d_Mo_readSource_52 h42 (by decide) h46 ?_
      refine G_iadd_z hX d_Mo_readSource_55 ?_
      refine G_aload_n hX 0 rfl rfl d_Mo_readSource_56 ?_
      have h47 : F41 41 = .int (zI 0) := (k44 41 (by decide)).trans ((k33 41 (by decide)).trans ((k19 41 (by decide)).trans ((k13 41 (by decide)).trans h6)))
      refine M_get hX fg_Mo_379 d_Mo_readSource_57 h42 (by decide) h47 ?_
      refine G_if_eq_z hX (tgt := 70) d_Mo_readSource_60 rfl (by omega) (fun c48 => ?_) (fun c49 => by exfalso; omega)
      refine G_aload_n hX 0 rfl rfl d_Mo_readSource_70 ?_
      have h50 : F41 34 = .int (zI oc) := (k44 34 (by decide)).trans ((k33 34 (by decide)).trans ((k19 34 (by decide)).trans ((k13 34 (by decide)).trans ((k7 34 (by decide)).trans hF34))))
      refine M_get hX fg_Mo_364 d_Mo_readSource_71 h42 (by decide) h50 ?_
      refine G_icmp_le_z hX (tgt := 83) d_Mo_readSource_74 rfl (by omega) (fun c51 => ?_) (fun c52 => ?_)
      · skip
        have h53 : F41 32 = .int (zI fl) := (k44 32 (by decide)).trans h35
        exact F_vret hX hE d_Mo_readSource_83 ⟨rfl, F41, h42, h53, (FrF.tr (FrF.tr (FrF.tr (FrF.tr (FrF.tr FrF.rf k7 (by decide)) k13 (by decide)) k19 (by decide)) k33 (by decide)) k44 (by decide)), (Fr.tr (Fr.tr (Fr.tr (Fr.tr (Fr.tr Fr.rf k8 (by decide)) k14 (by decide)) k20 (by decide)) k34 (by decide)) k45 (by decide))⟩
      · skip
        refine G_aload_n hX 0 rfl rfl d_Mo_readSource_77 ?_
        refine G_bipush hX (by decide) d_Mo_readSource_78 ?_
        have h54 : F41 32 = .int (zI fl) := (k44 32 (by decide)).trans h35
        refine F_callV hX (st := []) (c_Mo_refuse_f E f40 F41 (-2) fl h42 (moK_fr hmk (FrF.tr (FrF.tr (FrF.tr (FrF.tr (FrF.tr (FrF.rf (S := [39, 40, 41])) k7 (by decide)) k13 (by decide)) k19 (by decide)) k33 (by decide)) k44 (by decide)) (by decide)) h54 (by omega)) cm_Mo_refuse im_Mo_refuse se_Mo_refuse rfl ml_Mo_354 d_Mo_readSource_80 (by decide) h42 rfl rfl (Nat.le_of_ble_eq_true rfl) (by decide) ?_
        rintro _ f55 ⟨rfl, F58, h59, h60, k61, k62⟩
        refine G_cast (st' := []) ?_ rfl rfl rfl rfl
        exact F_vret hX hE d_Mo_readSource_83 ⟨rfl, F58, h59, h60, (FrF.tr (FrF.tr (FrF.tr (FrF.tr (FrF.tr (FrF.tr FrF.rf k7 (by decide)) k13 (by decide)) k19 (by decide)) k33 (by decide)) k44 (by decide)) k61 (by decide)), (Fr.tr (Fr.tr (Fr.tr (Fr.tr (Fr.tr (Fr.tr Fr.rf k8 (by decide)) k14 (by decide)) k20 (by decide)) k34 (by decide)) k45 (by decide)) k62 (by decide))⟩
  · skip
    refine G_iconst hX d_Mo_readSource_7 ?_
    refine G_goto hX (tgt := 12) d_Mo_readSource_8 rfl ?_
    refine M_put hX fg_Mo_379 fp_Mo_41 d_Mo_readSource_12 hMo (by decide) (by decide) (by decide) (fun f63 F64 h65 h66 k67 k68 => ?_)
    refine G_aload_n hX 0 rfl rfl d_Mo_readSource_15 ?_
    refine G_iconst hX d_Mo_readSource_16 ?_
    refine M_put hX fg_Mo_383 fp_Mo_39 d_Mo_readSource_17 h65 rfl rfl (by decide) (fun f69 F70 h71 h72 k73 k74 => ?_)
    refine G_aload_n hX 0 rfl rfl d_Mo_readSource_20 ?_
    refine G_iconst hX d_Mo_readSource_21 ?_
    refine M_put hX fg_Mo_373 fp_Mo_40 d_Mo_readSource_22 h71 rfl rfl (by decide) (fun f75 F76 h77 h78 k79 k80 => ?_)
    refine G_iload_n hX 1 rfl rfl d_Mo_readSource_25 ?_
    refine G_iconst hX d_Mo_readSource_26 ?_
    refine G_iand hX d_Mo_readSource_27 ?_
    refine G_top (show (zI kk &&& zI 3) = zI (kk % 4) from zI_and3 _) ?_
    refine G_if_le_z hX (tgt := 83) d_Mo_readSource_28 rfl (by omega) (fun c81 => ?_) (fun c82 => ?_)
    · skip
      have h83 : F76 32 = .int (zI fl) := (k79 32 (by decide)).trans ((k73 32 (by decide)).trans ((k67 32 (by decide)).trans hF32))
      exact F_vret hX hE d_Mo_readSource_83 ⟨rfl, F76, h77, h83, (FrF.tr (FrF.tr (FrF.tr FrF.rf k67 (by decide)) k73 (by decide)) k79 (by decide)), (Fr.tr (Fr.tr (Fr.tr Fr.rf k68 (by decide)) k74 (by decide)) k80 (by decide))⟩
    · skip
      refine G_aload_n hX 0 rfl rfl d_Mo_readSource_31 ?_
      refine G_aload_n hX 0 rfl rfl d_Mo_readSource_32 ?_
      have h84 : F76 32 = .int (zI fl) := (k79 32 (by decide)).trans ((k73 32 (by decide)).trans ((k67 32 (by decide)).trans hF32))
      refine F_callV hX (st := [.ref (eA E 61)]) (c_Mo_readNumber_f E f75 F76 fl h77 (moK_fr hmk (FrF.tr (FrF.tr (FrF.tr (FrF.rf (S := [39, 40, 41])) k67 (by decide)) k73 (by decide)) k79 (by decide)) (by decide)) h84 (by omega)) cm_Mo_readNumber im_Mo_readNumber se_Mo_readNumber rfl ml_Mo_401 d_Mo_readSource_33 (by decide) h77 rfl rfl (Nat.le_of_ble_eq_true rfl) (by decide) ?_
      rintro _ f85 ⟨rfl, e88⟩
      obtain rfl := e88.symm
      refine G_cast (st' := [.int (zI 0), .ref (eA E 61)]) ?_ rfl rfl rfl rfl
      refine M_put hX fg_Mo_373 fp_Mo_40 d_Mo_readSource_36 h77 rfl rfl (by decide) (fun f89 F90 h91 h92 k93 k94 => ?_)
      refine G_aload_n hX 0 rfl rfl d_Mo_readSource_39 ?_
      refine G_aload_n hX 0 rfl rfl d_Mo_readSource_40 ?_
      have h95 : F90 32 = .int (zI fl) := (k93 32 (by decide)).trans h84
      refine F_callV hX (st := [.ref (eA E 61)]) (c_Mo_readNumber_f E f89 F90 fl h91 (moK_fr hmk (FrF.tr (FrF.tr (FrF.tr (FrF.tr (FrF.rf (S := [39, 40, 41])) k67 (by decide)) k73 (by decide)) k79 (by decide)) k93 (by decide)) (by decide)) h95 (by omega)) cm_Mo_readNumber im_Mo_readNumber se_Mo_readNumber rfl ml_Mo_401 d_Mo_readSource_41 (by decide) h91 rfl rfl (Nat.le_of_ble_eq_true rfl) (by decide) ?_
      rintro _ f96 ⟨rfl, e99⟩
      obtain rfl := e99.symm
      refine G_cast (st' := [.int (zI 0), .ref (eA E 61)]) ?_ rfl rfl rfl rfl
      refine M_put hX fg_Mo_383 fp_Mo_39 d_Mo_readSource_44 h91 rfl rfl (by decide) (fun f100 F101 h102 h103 k104 k105 => ?_)
      refine G_aload_n hX 0 rfl rfl d_Mo_readSource_47 ?_
      refine M_get hX fg_Mo_383 d_Mo_readSource_48 h102 (by decide) h103 ?_
      refine G_aload_n hX 0 rfl rfl d_Mo_readSource_51 ?_
      have h106 : F101 40 = .int (zI 0) := (k104 40 (by decide)).trans h92
      refine M_get hX fg_Mo_373 d_Mo_readSource_52 h102 (by decide) h106 ?_
      refine G_iadd_z hX d_Mo_readSource_55 ?_
      refine G_aload_n hX 0 rfl rfl d_Mo_readSource_56 ?_
      have h107 : F101 41 = .int (zI 1) := (k104 41 (by decide)).trans ((k93 41 (by decide)).trans ((k79 41 (by decide)).trans ((k73 41 (by decide)).trans h66)))
      refine M_get hX fg_Mo_379 d_Mo_readSource_57 h102 (by decide) h107 ?_
      refine G_if_eq_z hX (tgt := 70) d_Mo_readSource_60 rfl (by omega) (fun c108 => by exfalso; omega) (fun c109 => ?_)
      refine G_aload_n hX 0 rfl rfl d_Mo_readSource_63 ?_
      have h110 : F101 36 = .int (zI mc) := (k104 36 (by decide)).trans ((k93 36 (by decide)).trans ((k79 36 (by decide)).trans ((k73 36 (by decide)).trans ((k67 36 (by decide)).trans hF36))))
      refine M_get hX fg_Mo_386 d_Mo_readSource_64 h102 (by decide) h110 ?_
      refine G_goto hX (tgt := 74) d_Mo_readSource_67 rfl ?_
      refine G_icmp_le_z hX (tgt := 83) d_Mo_readSource_74 rfl (by omega) (fun c111 => ?_) (fun c112 => ?_)
      · skip
        have h113 : F101 32 = .int (zI fl) := (k104 32 (by decide)).trans h95
        exact F_vret hX hE d_Mo_readSource_83 ⟨rfl, F101, h102, h113, (FrF.tr (FrF.tr (FrF.tr (FrF.tr (FrF.tr FrF.rf k67 (by decide)) k73 (by decide)) k79 (by decide)) k93 (by decide)) k104 (by decide)), (Fr.tr (Fr.tr (Fr.tr (Fr.tr (Fr.tr Fr.rf k68 (by decide)) k74 (by decide)) k80 (by decide)) k94 (by decide)) k105 (by decide))⟩
      · skip
        refine G_aload_n hX 0 rfl rfl d_Mo_readSource_77 ?_
        refine G_bipush hX (by decide) d_Mo_readSource_78 ?_
        have h114 : F101 32 = .int (zI fl) := (k104 32 (by decide)).trans h95
        refine F_callV hX (st := []) (c_Mo_refuse_f E f100 F101 (-2) fl h102 (moK_fr hmk (FrF.tr (FrF.tr (FrF.tr (FrF.tr (FrF.tr (FrF.rf (S := [39, 40, 41])) k67 (by decide)) k73 (by decide)) k79 (by decide)) k93 (by decide)) k104 (by decide)) (by decide)) h114 (by omega)) cm_Mo_refuse im_Mo_refuse se_Mo_refuse rfl ml_Mo_354 d_Mo_readSource_80 (by decide) h102 rfl rfl (Nat.le_of_ble_eq_true rfl) (by decide) ?_
        rintro _ f115 ⟨rfl, F118, h119, h120, k121, k122⟩
        refine G_cast (st' := []) ?_ rfl rfl rfl rfl
        exact F_vret hX hE d_Mo_readSource_83 ⟨rfl, F118, h119, h120, (FrF.tr (FrF.tr (FrF.tr (FrF.tr (FrF.tr (FrF.tr FrF.rf k67 (by decide)) k73 (by decide)) k79 (by decide)) k93 (by decide)) k104 (by decide)) k121 (by decide)), (Fr.tr (Fr.tr (Fr.tr (Fr.tr (Fr.tr (Fr.tr Fr.rf k68 (by decide)) k74 (by decide)) k80 (by decide)) k94 (by decide)) k105 (by decide)) k122 (by decide))⟩
