/-! DeltaFerryModel: sums and digests; printed by wip/tools/m_mo3.py -/
theorem c_Mo_weakOf (E : EV) (f : Nat → va_E) (F : Nat → Value) (bg : Int) (n : Int) (b : Int → Int) (gF : Int → Int) (p : Int) (hMo : f 61 = mob F) (hmk : moK E F) (hc63 : f 63 = iz E 1600 b) (hG : isB gF) (hag : ∀ i, 0 ≤ i → i < n → b (bg + i) = gF (p + i)) (hb : 0 ≤ bg ∧ 0 ≤ n ∧ bg + n ≤ 1600 ∧ n ≤ 700) : CF yn_Mo_weakOf cd_Mo_weakOf 6 (some (.long)) 0 E [.ref (eA E 61), .int (zI bg), .int (zI n)] f (fun r f' => r = some (.long (zL (wkV gF p n))) ∧ f' = f) := by
  refine CF.of (by decide +kernel) (Nat.le_of_ble_eq_true rfl) fun X hX hE => ?_
  have hX : Ok E X "DeltaFerryModel" "weakOf" cd_Mo_weakOf 6 (some (.long)) (rl 0) := hX
  refine G_cast (lv' := [(0, .ref (eA E 61)), (1, .int (zI bg)), (2, .int (zI n))]) ?_ rfl rfl rfl rfl
  refine G_iconst hX d_Mo_weakOf_0 ?_
  refine G_istore_n hX (lv' := [(3, .int (zI 0)), (0, .ref (eA E 61)), (1, .int (zI bg)), (2, .int (zI n))]) rfl (by decide) rfl d_Mo_weakOf_1 ?_
  refine G_iconst hX d_Mo_weakOf_2 ?_
  refine G_istore hX (lv' := [(4, .int (zI 0)), (3, .int (zI 0)), (0, .ref (eA E 61)), (1, .int (zI bg)), (2, .int (zI n))]) (by decide) rfl d_Mo_weakOf_3 ?_
  refine G_iconst hX d_Mo_weakOf_5 ?_
  refine G_istore hX (lv' := [(5, .int (zI 0)), (4, .int (zI 0)), (3, .int (zI 0)), (0, .ref (eA E 61)), (1, .int (zI bg)), (2, .int (zI n))]) (by decide) rfl d_Mo_weakOf_6 ?_
  have loop1 : ∀ (q : Nat) (t : Int) (f2 : Nat → va_E), (n - t).toNat < q → (0 ≤ t ∧ t ≤ n) → Fr [] f f2 → G E X 0 0 8 [(0, .ref (eA E 61)), (1, .int (zI bg)), (2, .int (zI n)), (3, .int (zI (sP gF p t.toNat))), (4, .int (zI (sW gF p n t.toNat))), (5, .int (zI t))] [] (wl E f2) := by
    intro q
    induction q with
    | zero => intro t f2 hms4; exact absurd hms4 (Nat.not_lt_zero _)
    | succ q ih5 =>
      intro t f2 hms4 ht k3
      have hsp := sP_b hG p t.toNat
      have hsw := sW_b hG p n (by omega) t.toNat (by omega)
      refine G_iload hX 5 rfl d_Mo_weakOf_8 ?_
      refine G_iload_n hX 2 rfl rfl d_Mo_weakOf_10 ?_
      refine G_icmp_ge_z hX (tgt := 51) d_Mo_weakOf_11 rfl (by omega) (fun c6 => ?_) (fun c7 => ?_)
      · skip
        refine G_ldc2 hX kn_Mo_231 d_Mo_weakOf_51 ?_
        refine G_topl (show (65536 : Int64) = zL (65536) from by decide) ?_
        refine G_iload hX 4 rfl d_Mo_weakOf_54 ?_
        refine G_ldc hX kn_Mo_233 d_Mo_weakOf_56 ?_
        refine G_top (show (65536 : Int32) = zI (65536) from by decide) ?_
        refine G_irem_z hX (by omega) d_Mo_weakOf_58 ?_
        refine G_i2l hX (v := zL ((sW gF p n t.toNat) % 65536)) (zI_l (by omega)) d_Mo_weakOf_59 ?_
        refine G_lmul_z hX d_Mo_weakOf_60 ?_
        refine G_iload_n hX 3 rfl rfl d_Mo_weakOf_61 ?_
        refine G_ldc hX kn_Mo_233 d_Mo_weakOf_62 ?_
        refine G_top (show (65536 : Int32) = zI (65536) from by decide) ?_
        refine G_irem_z hX (by omega) d_Mo_weakOf_64 ?_
        refine G_i2l hX (v := zL ((sP gF p t.toNat) % 65536)) (zI_l (by omega)) d_Mo_weakOf_65 ?_
        refine G_ladd_z hX d_Mo_weakOf_66 ?_
        have et : n = t := by omega
        exact F_lret hX hE d_Mo_weakOf_67 ⟨by unfold wkV; rw [et], Fr_nil (Fr.tr Fr.rf k3 (by decide))⟩
      · skip
        refine G_iload_n hX 3 rfl rfl d_Mo_weakOf_14 ?_
        refine G_aload_n hX 0 rfl rfl d_Mo_weakOf_15 ?_
        have h8 : f2 61 = mob F := (k3 61 (List.not_mem_nil)).trans hMo
        refine M_get hX fg_Mo_77 d_Mo_weakOf_16 h8 (by decide) (hmk 1 63 (by decide)) ?_
        refine G_iload_n hX 1 rfl rfl d_Mo_weakOf_19 ?_
        refine G_iload hX 5 rfl d_Mo_weakOf_20 ?_
        refine G_iadd_z hX d_Mo_weakOf_22 ?_
        have h9 : f2 63 = iz E 1600 b := (k3 63 (List.not_mem_nil)).trans hc63
        refine F_iald hX d_Mo_weakOf_23 63 (by decide) h9 (by omega) ?_
        refine G_top (show zI (b (bg + t)) = zI (gF (p + t)) from by rw [hag t (by omega) (by omega)]) ?_
        refine G_iadd_z hX d_Mo_weakOf_24 ?_
        refine G_istore_n hX (lv' := [(3, .int (zI ((sP gF p t.toNat) + (gF (p + t))))), (0, .ref (eA E 61)), (1, .int (zI bg)), (2, .int (zI n)), (4, .int (zI (sW gF p n t.toNat))), (5, .int (zI t))]) rfl (by decide) rfl d_Mo_weakOf_25 ?_
        refine G_iload hX 4 rfl d_Mo_weakOf_26 ?_
        refine G_iload_n hX 3 rfl rfl d_Mo_weakOf_28 ?_
        refine G_iload hX 5 rfl d_Mo_weakOf_29 ?_
        refine G_isub_z hX d_Mo_weakOf_31 ?_
        refine G_aload_n hX 1 rfl rfl d_Mo_weakOf_32 ?_
        refine M_get hX fg_Mo_77 d_Mo_weakOf_33 h8 (by decide) (hmk 1 63 (by decide)) ?_
        refine G_iload_n hX 2 rfl rfl d_Mo_weakOf_36 ?_
        refine G_iload hX 5 rfl d_Mo_weakOf_37 ?_
        refine G_iadd_z hX d_Mo_weakOf_39 ?_
        refine F_iald hX d_Mo_weakOf_40 63 (by decide) h9 (by omega) ?_
        refine G_top (show zI (b (bg + t)) = zI (gF (p + t)) from by rw [hag t (by omega) (by omega)]) ?_
        refine G_imul_z hX d_Mo_weakOf_41 ?_
        refine G_iadd_z hX d_Mo_weakOf_42 ?_
        refine G_istore hX (lv' := [(4, .int (zI ((sW gF p n t.toNat) + ((n - t) * (gF (p + t)))))), (3, .int (zI ((sP gF p t.toNat) + (gF (p + t))))), (0, .ref (eA E 61)), (1, .int (zI bg)), (2, .int (zI n)), (5, .int (zI t))]) (by decide) rfl d_Mo_weakOf_43 ?_
        refine G_iinc_z hX (lv' := [(5, .int (zI (t + 1))), (4, .int (zI ((sW gF p n t.toNat) + ((n - t) * (gF (p + t)))))), (3, .int (zI ((sP gF p t.toNat) + (gF (p + t))))), (0, .ref (eA E 61)), (1, .int (zI bg)), (2, .int (zI n))]) 5 rfl (by decide) rfl d_Mo_weakOf_45 ?_
        refine G_goto hX (tgt := 8) d_Mo_weakOf_48 rfl ?_
        refine G_loc (lv' := [(0, .ref (eA E 61)), (1, .int (zI bg)), (2, .int (zI n)), (3, .int (zI ((sP gF p t.toNat) + (gF (p + t))))), (4, .int (zI ((sW gF p n t.toNat) + ((n - t) * (gF (p + t)))))), (5, .int (zI (t + 1)))]) [3, 4, 5, 2, 1, 0] rfl ?_
        refine G_cast (ih5 (t + 1) f2 (by omega) (by omega)  (Fr.tr Fr.rf k3 (by decide))) rfl (by rw [sP_s ht.1, sW_s ht.1]) rfl rfl
  refine G_loc (lv' := [(0, .ref (eA E 61)), (1, .int (zI bg)), (2, .int (zI n)), (3, .int (zI 0)), (4, .int (zI 0)), (5, .int (zI 0))]) [3, 4, 5, 2, 1, 0] rfl ?_
  exact loop1 (_ + 1) 0 f (Nat.lt_succ_self _) (by omega)  Fr.rf
theorem c_Mo_padded (E : EV) (f : Nat → va_E) (F : Nat → Value) (bg : Int) (n : Int) (al : Int) (i : Int) (b : Int → Int) (gF : Int → Int) (p : Int) (hMo : f 61 = mob F) (hmk : moK E F) (hc63 : f 63 = iz E 1600 b) (hG : isB gF) (hag : ∀ i, 0 ≤ i → i < n → b (bg + i) = gF (p + i)) (hb : 0 ≤ bg ∧ 0 ≤ n ∧ bg + n ≤ 1600 ∧ n ≤ 700) (hal : al = pdF n) (hi : 0 ≤ i ∧ i < al ∧ al ≤ 1000) : CF yn_Mo_padded cd_Mo_padded 5 (some (.int)) 0 E [.ref (eA E 61), .int (zI bg), .int (zI n), .int (zI al), .int (zI i)] f (fun r f' => r = some (.int (zI (pdB gF p n i))) ∧ f' = f) := by
  refine CF.of (by decide +kernel) (Nat.le_of_ble_eq_true rfl) fun X hX hE => ?_
  have hX : Ok E X "DeltaFerryModel" "padded" cd_Mo_padded 5 (some (.int)) (rl 0) := hX
  refine G_cast (lv' := [(0, .ref (eA E 61)), (1, .int (zI bg)), (2, .int (zI n)), (3, .int (zI al)), (4, .int (zI i))]) ?_ rfl rfl rfl rfl
  refine G_iload hX 4 rfl d_Mo_padded_0 ?_
  refine G_iload_n hX 2 rfl rfl d_Mo_padded_2 ?_
  refine G_icmp_ge_z hX (tgt := 16) d_Mo_padded_3 rfl (by omega) (fun c1 => ?_) (fun c2 => ?_)
  · skip
    refine G_iload hX 4 rfl d_Mo_padded_16 ?_
    refine G_iload_n hX 3 rfl rfl d_Mo_padded_18 ?_
    refine G_bipush hX (by decide) d_Mo_padded_19 ?_
    refine G_isub_z hX d_Mo_padded_21 ?_
    refine G_icmp_ge_z hX (tgt := 39) d_Mo_padded_22 rfl (by omega) (fun c3 => ?_) (fun c4 => ?_)
    · skip
      refine G_ldc2 hX kn_Mo_174 d_Mo_padded_39 ?_
      refine G_topl (show (8 : Int64) = zL (8) from by decide) ?_
      refine G_iload_n hX 2 rfl rfl d_Mo_padded_42 ?_
      refine G_i2l hX (v := zL n) (zI_l (by omega)) d_Mo_padded_43 ?_
      refine G_lmul_z hX d_Mo_padded_44 ?_
      refine G_bipush hX (by decide) d_Mo_padded_45 ?_
      refine G_iload hX 4 rfl d_Mo_padded_47 ?_
      refine G_iload_n hX 3 rfl rfl d_Mo_padded_49 ?_
      refine G_isub_z hX d_Mo_padded_50 ?_
      refine G_bipush hX (by decide) d_Mo_padded_51 ?_
      refine G_iadd_z hX d_Mo_padded_53 ?_
      refine G_imul_z hX d_Mo_padded_54 ?_
      refine G_lshr hX (v := (zL (8 * n)) >>> ((zI (8 * ((i - al) + 8))).toInt64 &&& 63)) rfl d_Mo_padded_55 ?_
      refine G_ldc2 hX kn_Mo_164 d_Mo_padded_56 ?_
      refine G_topl (show (255 : Int64) = zL (255) from by decide) ?_
      refine G_land hX d_Mo_padded_59 ?_
      refine G_l2i hX (v := ((((zL (8 * n)) >>> ((zI (8 * ((i - al) + 8))).toInt64 &&& 63)) &&& (zL 255))).toInt32) rfl d_Mo_padded_60 ?_
      refine G_top (show (((((zL (8 * n)) >>> ((zI (8 * ((i - al) + 8))).toInt64 &&& 63)) &&& (zL 255))).toInt32) = zI (pbF (zL (8 * n)) (i - al + 8)) from pb_m (by omega)) ?_
      exact F_iret hX hE d_Mo_padded_61 ⟨by unfold pdB; rw [← hal]; rw [if_neg (by omega), if_neg (by omega)], rfl⟩
    · skip
      refine G_iload hX 4 rfl d_Mo_padded_25 ?_
      refine G_iload_n hX 2 rfl rfl d_Mo_padded_27 ?_
      refine G_icmp_ne_z hX (tgt := 37) d_Mo_padded_28 rfl (by omega) (fun c5 => ?_) (fun c6 => ?_)
      · skip
        refine G_iconst hX d_Mo_padded_37 ?_
        exact F_iret hX hE d_Mo_padded_38 ⟨by unfold pdB; rw [← hal]; rw [if_neg (by omega), if_pos (by omega), if_neg (by omega)], rfl⟩
      · skip
        refine G_sipush hX (by decide) d_Mo_padded_31 ?_
        refine G_goto hX (tgt := 38) d_Mo_padded_34 rfl ?_
        exact F_iret hX hE d_Mo_padded_38 ⟨by unfold pdB; rw [← hal]; rw [if_neg (by omega), if_pos (by omega), if_pos (by omega)], rfl⟩
  · skip
    refine G_aload_n hX 0 rfl rfl d_Mo_padded_6 ?_
    refine M_get hX fg_Mo_77 d_Mo_padded_7 hMo (by decide) (hmk 1 63 (by decide)) ?_
    refine G_iload_n hX 1 rfl rfl d_Mo_padded_10 ?_
    refine G_iload hX 4 rfl d_Mo_padded_11 ?_
    refine G_iadd_z hX d_Mo_padded_13 ?_
    refine F_iald hX d_Mo_padded_14 63 (by decide) hc63 (by omega) ?_
    refine G_top (show zI (b (bg + i)) = zI (gF (p + i)) from by rw [hag i (by omega) (by omega)]) ?_
    exact F_iret hX hE d_Mo_padded_15 ⟨by unfold pdB; rw [← hal]; rw [if_pos (by omega)], rfl⟩
theorem c_Mo_turned (E : EV) (f : Nat → va_E) (x : Int32) (t : Int) (ht : 1 ≤ t ∧ t ≤ 31) : CF yn_Mo_turned cd_Mo_turned 3 (some (.long)) 0 E [.long (zx x), .int (zI t)] f (fun r f' => r = some (.long (zx (rtF x (zI t)))) ∧ f' = f) := by
  refine CF.of (by decide +kernel) (Nat.le_of_ble_eq_true rfl) fun X hX hE => ?_
  have hX : Ok E X "DeltaFerryModel" "turned" cd_Mo_turned 3 (some (.long)) (rl 0) := hX
  refine G_cast (lv' := [(0, .long (zx x)), (2, .int (zI t))]) ?_ rfl rfl rfl rfl
  refine G_lload_n hX 0 rfl rfl d_Mo_turned_0 ?_
  refine G_iload_n hX 1 rfl rfl d_Mo_turned_1 ?_
  refine G_lshl hX (v := (zx x) <<< ((zI t).toInt64 &&& 63)) rfl d_Mo_turned_2 ?_
  refine G_lload_n hX 0 rfl rfl d_Mo_turned_3 ?_
  refine G_bipush hX (by decide) d_Mo_turned_4 ?_
  refine G_iload_n hX 1 rfl rfl d_Mo_turned_6 ?_
  refine G_isub_z hX d_Mo_turned_7 ?_
  refine G_lshr hX (v := (zx x) >>> ((zI (32 - t)).toInt64 &&& 63)) rfl d_Mo_turned_8 ?_
  refine G_lor hX d_Mo_turned_9 ?_
  refine G_ldc2 hX kn_Mo_176 d_Mo_turned_10 ?_
  refine G_topl (show (4294967295 : Int64) = zL (4294967295) from by decide) ?_
  refine G_land hX d_Mo_turned_13 ?_
  exact F_lret hX hE d_Mo_turned_14 ⟨by rw [rt_eq x ht], rfl⟩
theorem c_Mo_turnOf (E : EV) (f : Nat → va_E) (i : Int) (hi : 0 ≤ i ∧ i < 64) : CF yn_Mo_turnOf cd_Mo_turnOf 2 (some (.int)) 0 E [.int (zI i)] f (fun r f' => r = some (.int (zI (tnF i))) ∧ f' = f) := by
  refine CF.of (by decide +kernel) (Nat.le_of_ble_eq_true rfl) fun X hX hE => ?_
  have hX : Ok E X "DeltaFerryModel" "turnOf" cd_Mo_turnOf 2 (some (.int)) (rl 0) := hX
  refine G_cast (lv' := [(0, .int (zI i))]) ?_ rfl rfl rfl rfl
  refine G_iload_n hX 0 rfl rfl d_Mo_turnOf_0 ?_
  refine G_iconst hX d_Mo_turnOf_1 ?_
  refine G_irem_z hX (by omega) d_Mo_turnOf_2 ?_
  refine G_istore_n hX (lv' := [(1, .int (zI (i % 4))), (0, .int (zI i))]) rfl (by decide) rfl d_Mo_turnOf_3 ?_
  refine G_iload_n hX 1 rfl rfl d_Mo_turnOf_4 ?_
  refine G_bipush hX (by decide) d_Mo_turnOf_5 ?_
  refine G_idiv_z hX (by omega) d_Mo_turnOf_7 ?_
  by_cases c1_0 : i / 16 = 0
  · skip
    rw [c1_0]
    refine G_tblIn hX (tgt := 36) d_Mo_turnOf_8 (by decide) (by decide) (off := 28) (by decide) rfl ?_
    refine G_bipush hX (by decide) d_Mo_turnOf_36 ?_
    refine G_iconst hX d_Mo_turnOf_38 ?_
    refine G_iload_n hX 0 rfl rfl d_Mo_turnOf_39 ?_
    refine G_imul_z hX d_Mo_turnOf_40 ?_
    refine G_iadd_z hX d_Mo_turnOf_41 ?_
    rcases (show i % 4 = 0 ∨ i % 4 = 1 ∨ i % 4 = 2 ∨ i % 4 = 3 by omega) with q | q | q | q
    · rw [q]
      exact F_iret hX hE d_Mo_turnOf_42 ⟨(by rw [tn_at (c := 0) (q := 0) (by omega) (by omega)]; exact congrArg (fun z => some (Value.int (zI z))) (show (7 + 5 * 0 : Int) = (kt_T.getD ((0 : Int) * 4 + 0).toNat 0).toInt by decide)), rfl⟩
    · rw [q]
      exact F_iret hX hE d_Mo_turnOf_42 ⟨(by rw [tn_at (c := 0) (q := 1) (by omega) (by omega)]; exact congrArg (fun z => some (Value.int (zI z))) (show (7 + 5 * 1 : Int) = (kt_T.getD ((0 : Int) * 4 + 1).toNat 0).toInt by decide)), rfl⟩
    · rw [q]
      exact F_iret hX hE d_Mo_turnOf_42 ⟨(by rw [tn_at (c := 0) (q := 2) (by omega) (by omega)]; exact congrArg (fun z => some (Value.int (zI z))) (show (7 + 5 * 2 : Int) = (kt_T.getD ((0 : Int) * 4 + 2).toNat 0).toInt by decide)), rfl⟩
    · rw [q]
      exact F_iret hX hE d_Mo_turnOf_42 ⟨(by rw [tn_at (c := 0) (q := 3) (by omega) (by omega)]; exact congrArg (fun z => some (Value.int (zI z))) (show (7 + 5 * 3 : Int) = (kt_T.getD ((0 : Int) * 4 + 3).toNat 0).toInt by decide)), rfl⟩
  by_cases c1_1 : i / 16 = 1
  · skip
    rw [c1_1]
    refine G_tblIn hX (tgt := 43) d_Mo_turnOf_8 (by decide) (by decide) (off := 35) (by decide) rfl ?_
    refine G_iload_n hX 0 rfl rfl d_Mo_turnOf_43 ?_
    refine G_if_ne_z hX (tgt := 51) d_Mo_turnOf_44 rfl (by omega) (fun c2 => ?_) (fun c3 => ?_)
    · skip
      refine G_iload_n hX 0 rfl rfl d_Mo_turnOf_51 ?_
      refine G_iconst hX d_Mo_turnOf_52 ?_
      refine G_icmp_ne_z hX (tgt := 61) d_Mo_turnOf_53 rfl (by omega) (fun c4 => ?_) (fun c5 => ?_)
      · skip
        refine G_iload_n hX 0 rfl rfl d_Mo_turnOf_61 ?_
        refine G_iconst hX d_Mo_turnOf_62 ?_
        refine G_icmp_ne_z hX (tgt := 71) d_Mo_turnOf_63 rfl (by omega) (fun c6 => ?_) (fun c7 => ?_)
        · skip
          refine G_bipush hX (by decide) d_Mo_turnOf_71 ?_
          exact F_iret hX hE d_Mo_turnOf_73 ⟨(by rw [tn_at (c := 1) (q := 3) (by omega) (by omega)]; exact congrArg (fun z => some (Value.int (zI z))) (show (20 : Int) = (kt_T.getD ((1 : Int) * 4 + 3).toNat 0).toInt by decide)), rfl⟩
        · skip
          refine G_bipush hX (by decide) d_Mo_turnOf_66 ?_
          refine G_goto hX (tgt := 73) d_Mo_turnOf_68 rfl ?_
          exact F_iret hX hE d_Mo_turnOf_73 ⟨(by rw [tn_at (c := 1) (q := 2) (by omega) (by omega)]; exact congrArg (fun z => some (Value.int (zI z))) (show (14 : Int) = (kt_T.getD ((1 : Int) * 4 + 2).toNat 0).toInt by decide)), rfl⟩
      · skip
        refine G_bipush hX (by decide) d_Mo_turnOf_56 ?_
        refine G_goto hX (tgt := 73) d_Mo_turnOf_58 rfl ?_
        exact F_iret hX hE d_Mo_turnOf_73 ⟨(by rw [tn_at (c := 1) (q := 1) (by omega) (by omega)]; exact congrArg (fun z => some (Value.int (zI z))) (show (9 : Int) = (kt_T.getD ((1 : Int) * 4 + 1).toNat 0).toInt by decide)), rfl⟩
    · skip
      refine G_iconst hX d_Mo_turnOf_47 ?_
      refine G_goto hX (tgt := 73) d_Mo_turnOf_48 rfl ?_
      exact F_iret hX hE d_Mo_turnOf_73 ⟨(by rw [tn_at (c := 1) (q := 0) (by omega) (by omega)]; exact congrArg (fun z => some (Value.int (zI z))) (show (5 : Int) = (kt_T.getD ((1 : Int) * 4 + 0).toNat 0).toInt by decide)), rfl⟩
  by_cases c1_2 : i / 16 = 2
  · skip
    rw [c1_2]
    refine G_tblIn hX (tgt := 74) d_Mo_turnOf_8 (by decide) (by decide) (off := 66) (by decide) rfl ?_
    refine G_iload_n hX 0 rfl rfl d_Mo_turnOf_74 ?_
    refine G_if_ne_z hX (tgt := 82) d_Mo_turnOf_75 rfl (by omega) (fun c8 => ?_) (fun c9 => ?_)
    · skip
      refine G_iload_n hX 0 rfl rfl d_Mo_turnOf_82 ?_
      refine G_iconst hX d_Mo_turnOf_83 ?_
      refine G_icmp_ne_z hX (tgt := 92) d_Mo_turnOf_84 rfl (by omega) (fun c10 => ?_) (fun c11 => ?_)
      · skip
        refine G_iload_n hX 0 rfl rfl d_Mo_turnOf_92 ?_
        refine G_iconst hX d_Mo_turnOf_93 ?_
        refine G_icmp_ne_z hX (tgt := 102) d_Mo_turnOf_94 rfl (by omega) (fun c12 => ?_) (fun c13 => ?_)
        · skip
          refine G_bipush hX (by decide) d_Mo_turnOf_102 ?_
          exact F_iret hX hE d_Mo_turnOf_104 ⟨(by rw [tn_at (c := 2) (q := 3) (by omega) (by omega)]; exact congrArg (fun z => some (Value.int (zI z))) (show (23 : Int) = (kt_T.getD ((2 : Int) * 4 + 3).toNat 0).toInt by decide)), rfl⟩
        · skip
          refine G_bipush hX (by decide) d_Mo_turnOf_97 ?_
          refine G_goto hX (tgt := 104) d_Mo_turnOf_99 rfl ?_
          exact F_iret hX hE d_Mo_turnOf_104 ⟨(by rw [tn_at (c := 2) (q := 2) (by omega) (by omega)]; exact congrArg (fun z => some (Value.int (zI z))) (show (16 : Int) = (kt_T.getD ((2 : Int) * 4 + 2).toNat 0).toInt by decide)), rfl⟩
      · skip
        refine G_bipush hX (by decide) d_Mo_turnOf_87 ?_
        refine G_goto hX (tgt := 104) d_Mo_turnOf_89 rfl ?_
        exact F_iret hX hE d_Mo_turnOf_104 ⟨(by rw [tn_at (c := 2) (q := 1) (by omega) (by omega)]; exact congrArg (fun z => some (Value.int (zI z))) (show (11 : Int) = (kt_T.getD ((2 : Int) * 4 + 1).toNat 0).toInt by decide)), rfl⟩
    · skip
      refine G_iconst hX d_Mo_turnOf_78 ?_
      refine G_goto hX (tgt := 104) d_Mo_turnOf_79 rfl ?_
      exact F_iret hX hE d_Mo_turnOf_104 ⟨(by rw [tn_at (c := 2) (q := 0) (by omega) (by omega)]; exact congrArg (fun z => some (Value.int (zI z))) (show (4 : Int) = (kt_T.getD ((2 : Int) * 4 + 0).toNat 0).toInt by decide)), rfl⟩
  refine G_tblOut hX (tgt := 105) d_Mo_turnOf_8 (by rw [zI_t (by omega)]; omega) rfl ?_
  refine G_iload_n hX 0 rfl rfl d_Mo_turnOf_105 ?_
  refine G_if_ne_z hX (tgt := 114) d_Mo_turnOf_106 rfl (by omega) (fun c14 => ?_) (fun c15 => ?_)
  · skip
    refine G_iload_n hX 0 rfl rfl d_Mo_turnOf_114 ?_
    refine G_iconst hX d_Mo_turnOf_115 ?_
    refine G_icmp_ne_z hX (tgt := 124) d_Mo_turnOf_116 rfl (by omega) (fun c16 => ?_) (fun c17 => ?_)
    · skip
      refine G_iload_n hX 0 rfl rfl d_Mo_turnOf_124 ?_
      refine G_iconst hX d_Mo_turnOf_125 ?_
      refine G_icmp_ne_z hX (tgt := 134) d_Mo_turnOf_126 rfl (by omega) (fun c18 => ?_) (fun c19 => ?_)
      · skip
        refine G_bipush hX (by decide) d_Mo_turnOf_134 ?_
        exact F_iret hX hE d_Mo_turnOf_136 ⟨(by rw [tn_at (c := 3) (q := 3) (by omega) (by omega)]; exact congrArg (fun z => some (Value.int (zI z))) (show (21 : Int) = (kt_T.getD ((3 : Int) * 4 + 3).toNat 0).toInt by decide)), rfl⟩
      · skip
        refine G_bipush hX (by decide) d_Mo_turnOf_129 ?_
        refine G_goto hX (tgt := 136) d_Mo_turnOf_131 rfl ?_
        exact F_iret hX hE d_Mo_turnOf_136 ⟨(by rw [tn_at (c := 3) (q := 2) (by omega) (by omega)]; exact congrArg (fun z => some (Value.int (zI z))) (show (15 : Int) = (kt_T.getD ((3 : Int) * 4 + 2).toNat 0).toInt by decide)), rfl⟩
    · skip
      refine G_bipush hX (by decide) d_Mo_turnOf_119 ?_
      refine G_goto hX (tgt := 136) d_Mo_turnOf_121 rfl ?_
      exact F_iret hX hE d_Mo_turnOf_136 ⟨(by rw [tn_at (c := 3) (q := 1) (by omega) (by omega)]; exact congrArg (fun z => some (Value.int (zI z))) (show (10 : Int) = (kt_T.getD ((3 : Int) * 4 + 1).toNat 0).toInt by decide)), rfl⟩
  · skip
    refine G_bipush hX (by decide) d_Mo_turnOf_109 ?_
    refine G_goto hX (tgt := 136) d_Mo_turnOf_111 rfl ?_
    exact F_iret hX hE d_Mo_turnOf_136 ⟨(by rw [tn_at (c := 3) (q := 0) (by omega) (by omega)]; exact congrArg (fun z => some (Value.int (zI z))) (show (6 : Int) = (kt_T.getD ((3 : Int) * 4 + 0).toNat 0).toInt by decide)), rfl⟩
theorem c_Mo_wordOf (E : EV) (f : Nat → va_E) (i : Int) (hi : 0 ≤ i ∧ i < 64) : CF yn_Mo_wordOf cd_Mo_wordOf 1 (some (.int)) 0 E [.int (zI i)] f (fun r f' => r = some (.int (zI (wdF i))) ∧ f' = f) := by
  refine CF.of (by decide +kernel) (Nat.le_of_ble_eq_true rfl) fun X hX hE => ?_
  have hX : Ok E X "DeltaFerryModel" "wordOf" cd_Mo_wordOf 1 (some (.int)) (rl 0) := hX
  refine G_cast (lv' := [(0, .int (zI i))]) ?_ rfl rfl rfl rfl
  refine G_iload_n hX 0 rfl rfl d_Mo_wordOf_0 ?_
  refine G_bipush hX (by decide) d_Mo_wordOf_1 ?_
  refine G_icmp_ge_z hX (tgt := 10) d_Mo_wordOf_3 rfl (by omega) (fun c1 => ?_) (fun c2 => ?_)
  · skip
    refine G_iload_n hX 0 rfl rfl d_Mo_wordOf_10 ?_
    refine G_bipush hX (by decide) d_Mo_wordOf_11 ?_
    refine G_icmp_ge_z hX (tgt := 27) d_Mo_wordOf_13 rfl (by omega) (fun c3 => ?_) (fun c4 => ?_)
    · skip
      refine G_iload_n hX 0 rfl rfl d_Mo_wordOf_27 ?_
      refine G_bipush hX (by decide) d_Mo_wordOf_28 ?_
      refine G_icmp_ge_z hX (tgt := 44) d_Mo_wordOf_30 rfl (by omega) (fun c5 => ?_) (fun c6 => ?_)
      · skip
        refine G_bipush hX (by decide) d_Mo_wordOf_44 ?_
        refine G_iload_n hX 0 rfl rfl d_Mo_wordOf_46 ?_
        refine G_imul_z hX d_Mo_wordOf_47 ?_
        refine G_bipush hX (by decide) d_Mo_wordOf_48 ?_
        refine G_irem_z hX (by omega) d_Mo_wordOf_50 ?_
        exact F_iret hX hE d_Mo_wordOf_51 ⟨by unfold wdF; rw [if_neg (by omega), if_neg (by omega), if_neg (by omega)], rfl⟩
      · skip
        refine G_iconst hX d_Mo_wordOf_33 ?_
        refine G_iload_n hX 0 rfl rfl d_Mo_wordOf_34 ?_
        refine G_imul_z hX d_Mo_wordOf_35 ?_
        refine G_iconst hX d_Mo_wordOf_36 ?_
        refine G_iadd_z hX d_Mo_wordOf_37 ?_
        refine G_bipush hX (by decide) d_Mo_wordOf_38 ?_
        refine G_irem_z hX (by omega) d_Mo_wordOf_40 ?_
        refine G_goto hX (tgt := 51) d_Mo_wordOf_41 rfl ?_
        exact F_iret hX hE d_Mo_wordOf_51 ⟨by unfold wdF; rw [if_neg (by omega), if_neg (by omega), if_pos (by omega)], rfl⟩
    · skip
      refine G_iconst hX d_Mo_wordOf_16 ?_
      refine G_iload_n hX 0 rfl rfl d_Mo_wordOf_17 ?_
      refine G_imul_z hX d_Mo_wordOf_18 ?_
      refine G_iconst hX d_Mo_wordOf_19 ?_
      refine G_iadd_z hX d_Mo_wordOf_20 ?_
      refine G_bipush hX (by decide) d_Mo_wordOf_21 ?_
      refine G_irem_z hX (by omega) d_Mo_wordOf_23 ?_
      refine G_goto hX (tgt := 51) d_Mo_wordOf_24 rfl ?_
      exact F_iret hX hE d_Mo_wordOf_51 ⟨by unfold wdF; rw [if_neg (by omega), if_pos (by omega)], rfl⟩
  · skip
    refine G_iload_n hX 0 rfl rfl d_Mo_wordOf_6 ?_
    refine G_goto hX (tgt := 51) d_Mo_wordOf_7 rfl ?_
    exact F_iret hX hE d_Mo_wordOf_51 ⟨by unfold wdF; rw [if_pos (by omega)], rfl⟩
theorem c_Mo_mixed (E : EV) (f : Nat → va_E) (i : Int) (b : Int32) (c : Int32) (d : Int32) (hi : 0 ≤ i ∧ i < 64) : CF yn_Mo_mixed cd_Mo_mixed 7 (some (.long)) 0 E [.int (zI i), .long (zx b), .long (zx c), .long (zx d)] f (fun r f' => r = some (.long (zx (mxF (i / 16) b c d))) ∧ f' = f) := by
  refine CF.of (by decide +kernel) (Nat.le_of_ble_eq_true rfl) fun X hX hE => ?_
  have hX : Ok E X "DeltaFerryModel" "mixed" cd_Mo_mixed 7 (some (.long)) (rl 0) := hX
  refine G_cast (lv' := [(0, .int (zI i)), (1, .long (zx b)), (3, .long (zx c)), (5, .long (zx d))]) ?_ rfl rfl rfl rfl
  refine G_iload_n hX 0 rfl rfl d_Mo_mixed_0 ?_
  refine G_bipush hX (by decide) d_Mo_mixed_1 ?_
  refine G_icmp_ge_z hX (tgt := 25) d_Mo_mixed_3 rfl (by omega) (fun c1 => ?_) (fun c2 => ?_)
  · skip
    refine G_iload_n hX 0 rfl rfl d_Mo_mixed_25 ?_
    refine G_bipush hX (by decide) d_Mo_mixed_26 ?_
    refine G_icmp_ge_z hX (tgt := 51) d_Mo_mixed_28 rfl (by omega) (fun c3 => ?_) (fun c4 => ?_)
    · skip
      refine G_iload_n hX 0 rfl rfl d_Mo_mixed_51 ?_
      refine G_bipush hX (by decide) d_Mo_mixed_52 ?_
      refine G_icmp_ge_z hX (tgt := 66) d_Mo_mixed_54 rfl (by omega) (fun c5 => ?_) (fun c6 => ?_)
      · skip
        refine G_lload_n hX 2 rfl rfl d_Mo_mixed_66 ?_
        refine G_lload_n hX 1 rfl rfl d_Mo_mixed_67 ?_
        refine G_lload hX 3 rfl d_Mo_mixed_68 ?_
        refine G_ldc2 hX kn_Mo_178 d_Mo_mixed_70 ?_
        refine G_topl (show (-1 : Int64) = zL (-1) from by decide) ?_
        refine G_lxor hX d_Mo_mixed_73 ?_
        refine G_ldc2 hX kn_Mo_176 d_Mo_mixed_74 ?_
        refine G_topl (show (4294967295 : Int64) = zL (4294967295) from by decide) ?_
        refine G_land hX d_Mo_mixed_77 ?_
        refine G_lor hX d_Mo_mixed_78 ?_
        refine G_lxor hX d_Mo_mixed_79 ?_
        exact F_lret hX hE d_Mo_mixed_80 ⟨by rw [mx_3]; unfold mxF; rw [if_neg (by omega), if_neg (by omega), if_neg (by omega)], rfl⟩
      · skip
        refine G_lload_n hX 1 rfl rfl d_Mo_mixed_57 ?_
        refine G_lload_n hX 2 rfl rfl d_Mo_mixed_58 ?_
        refine G_lxor hX d_Mo_mixed_59 ?_
        refine G_lload hX 3 rfl d_Mo_mixed_60 ?_
        refine G_lxor hX d_Mo_mixed_62 ?_
        refine G_goto hX (tgt := 80) d_Mo_mixed_63 rfl ?_
        exact F_lret hX hE d_Mo_mixed_80 ⟨by rw [mx_2]; unfold mxF; rw [if_neg (by omega), if_neg (by omega), if_pos (by omega)], rfl⟩
    · skip
      refine G_lload hX 3 rfl d_Mo_mixed_31 ?_
      refine G_lload_n hX 1 rfl rfl d_Mo_mixed_33 ?_
      refine G_land hX d_Mo_mixed_34 ?_
      refine G_lload hX 3 rfl d_Mo_mixed_35 ?_
      refine G_ldc2 hX kn_Mo_178 d_Mo_mixed_37 ?_
      refine G_topl (show (-1 : Int64) = zL (-1) from by decide) ?_
      refine G_lxor hX d_Mo_mixed_40 ?_
      refine G_lload_n hX 2 rfl rfl d_Mo_mixed_41 ?_
      refine G_land hX d_Mo_mixed_42 ?_
      refine G_ldc2 hX kn_Mo_176 d_Mo_mixed_43 ?_
      refine G_topl (show (4294967295 : Int64) = zL (4294967295) from by decide) ?_
      refine G_land hX d_Mo_mixed_46 ?_
      refine G_lor hX d_Mo_mixed_47 ?_
      refine G_goto hX (tgt := 80) d_Mo_mixed_48 rfl ?_
      exact F_lret hX hE d_Mo_mixed_80 ⟨by rw [mx_0]; unfold mxF; rw [if_neg (by omega), if_pos (by omega)], rfl⟩
  · skip
    refine G_lload_n hX 1 rfl rfl d_Mo_mixed_6 ?_
    refine G_lload_n hX 2 rfl rfl d_Mo_mixed_7 ?_
    refine G_land hX d_Mo_mixed_8 ?_
    refine G_lload_n hX 1 rfl rfl d_Mo_mixed_9 ?_
    refine G_ldc2 hX kn_Mo_178 d_Mo_mixed_10 ?_
    refine G_topl (show (-1 : Int64) = zL (-1) from by decide) ?_
    refine G_lxor hX d_Mo_mixed_13 ?_
    refine G_lload hX 3 rfl d_Mo_mixed_14 ?_
    refine G_land hX d_Mo_mixed_16 ?_
    refine G_ldc2 hX kn_Mo_176 d_Mo_mixed_17 ?_
    refine G_topl (show (4294967295 : Int64) = zL (4294967295) from by decide) ?_
    refine G_land hX d_Mo_mixed_20 ?_
    refine G_lor hX d_Mo_mixed_21 ?_
    refine G_goto hX (tgt := 80) d_Mo_mixed_22 rfl ?_
    exact F_lret hX hE d_Mo_mixed_80 ⟨by rw [mx_0]; unfold mxF; rw [if_pos (by omega)], rfl⟩
theorem c_Mo_constant (E : EV) (f : Nat → va_E) (F : Nat → Value) (i : Int) (hMo : f 61 = mob F) (hmk : moK E F) (hc62 : f 62 = la E 32 kkF) (hi : 0 ≤ i ∧ i < 64) : CF yn_Mo_constant cd_Mo_constant 2 (some (.long)) 0 E [.ref (eA E 61), .int (zI i)] f (fun r f' => r = some (.long (zx (kt_K.getD i.toNat 0))) ∧ f' = f) := by
  refine CF.of (by decide +kernel) (Nat.le_of_ble_eq_true rfl) fun X hX hE => ?_
  have hX : Ok E X "DeltaFerryModel" "constant" cd_Mo_constant 2 (some (.long)) (rl 0) := hX
  refine G_cast (lv' := [(0, .ref (eA E 61)), (1, .int (zI i))]) ?_ rfl rfl rfl rfl
  refine G_aload_n hX 0 rfl rfl d_Mo_constant_0 ?_
  refine M_get hX fg_Mo_71 d_Mo_constant_1 hMo (by decide) (hmk 0 62 (by decide)) ?_
  refine G_iload_n hX 1 rfl rfl d_Mo_constant_4 ?_
  refine G_iconst hX d_Mo_constant_5 ?_
  refine G_idiv_z hX (by omega) d_Mo_constant_6 ?_
  refine F_lald hX d_Mo_constant_7 62 (by decide) hc62 (by omega) ?_
  refine G_iload_n hX 1 rfl rfl d_Mo_constant_8 ?_
  refine G_iconst hX d_Mo_constant_9 ?_
  refine G_irem_z hX (by omega) d_Mo_constant_10 ?_
  refine G_if_ne_z hX (tgt := 19) d_Mo_constant_11 rfl (by omega) (fun c1 => ?_) (fun c2 => ?_)
  · skip
    refine G_iconst hX d_Mo_constant_19 ?_
    refine G_lshr hX (v := (kkF (i / 2 : Int).toNat) >>> ((zI 0).toInt64 &&& 63)) rfl d_Mo_constant_20 ?_
    refine G_ldc2 hX kn_Mo_176 d_Mo_constant_21 ?_
    refine G_topl (show (4294967295 : Int64) = zL (4294967295) from by decide) ?_
    refine G_land hX d_Mo_constant_24 ?_
    exact F_lret hX hE d_Mo_constant_25 ⟨by rw [kk_i hi (by rw [if_neg (by omega)])], rfl⟩
  · skip
    refine G_bipush hX (by decide) d_Mo_constant_14 ?_
    refine G_goto hX (tgt := 20) d_Mo_constant_16 rfl ?_
    refine G_lshr hX (v := (kkF (i / 2 : Int).toNat) >>> ((zI 32).toInt64 &&& 63)) rfl d_Mo_constant_20 ?_
    refine G_ldc2 hX kn_Mo_176 d_Mo_constant_21 ?_
    refine G_topl (show (4294967295 : Int64) = zL (4294967295) from by decide) ?_
    refine G_land hX d_Mo_constant_24 ?_
    exact F_lret hX hE d_Mo_constant_25 ⟨by rw [kk_i hi (by rw [if_pos (by omega)])], rfl⟩
theorem c_Mo_around (E : EV) (f : Nat → va_E) (x : Int32) : CF yn_Mo_around cd_Mo_around 2 (some (.long)) 0 E [.long (zx x)] f (fun r f' => r = some (.long (lwF x)) ∧ f' = f) := by
  refine CF.of (by decide +kernel) (Nat.le_of_ble_eq_true rfl) fun X hX hE => ?_
  have hX : Ok E X "DeltaFerryModel" "around" cd_Mo_around 2 (some (.long)) (rl 0) := hX
  refine G_cast (lv' := [(0, .long (zx x))]) ?_ rfl rfl rfl rfl
  refine G_lload_n hX 0 rfl rfl d_Mo_around_0 ?_
  refine G_ldc2 hX kn_Mo_164 d_Mo_around_1 ?_
  refine G_topl (show (255 : Int64) = zL (255) from by decide) ?_
  refine G_land hX d_Mo_around_4 ?_
  refine G_bipush hX (by decide) d_Mo_around_5 ?_
  refine G_lshl hX (v := ((zx x) &&& (zL 255)) <<< ((zI 24).toInt64 &&& 63)) rfl d_Mo_around_7 ?_
  refine G_lload_n hX 0 rfl rfl d_Mo_around_8 ?_
  refine G_bipush hX (by decide) d_Mo_around_9 ?_
  refine G_lshr hX (v := (zx x) >>> ((zI 8).toInt64 &&& 63)) rfl d_Mo_around_11 ?_
  refine G_ldc2 hX kn_Mo_164 d_Mo_around_12 ?_
  refine G_topl (show (255 : Int64) = zL (255) from by decide) ?_
  refine G_land hX d_Mo_around_15 ?_
  refine G_bipush hX (by decide) d_Mo_around_16 ?_
  refine G_lshl hX (v := (((zx x) >>> ((zI 8).toInt64 &&& 63)) &&& (zL 255)) <<< ((zI 16).toInt64 &&& 63)) rfl d_Mo_around_18 ?_
  refine G_lor hX d_Mo_around_19 ?_
  refine G_lload_n hX 0 rfl rfl d_Mo_around_20 ?_
  refine G_bipush hX (by decide) d_Mo_around_21 ?_
  refine G_lshr hX (v := (zx x) >>> ((zI 16).toInt64 &&& 63)) rfl d_Mo_around_23 ?_
  refine G_ldc2 hX kn_Mo_164 d_Mo_around_24 ?_
  refine G_topl (show (255 : Int64) = zL (255) from by decide) ?_
  refine G_land hX d_Mo_around_27 ?_
  refine G_bipush hX (by decide) d_Mo_around_28 ?_
  refine G_lshl hX (v := (((zx x) >>> ((zI 16).toInt64 &&& 63)) &&& (zL 255)) <<< ((zI 8).toInt64 &&& 63)) rfl d_Mo_around_30 ?_
  refine G_lor hX d_Mo_around_31 ?_
  refine G_lload_n hX 0 rfl rfl d_Mo_around_32 ?_
  refine G_bipush hX (by decide) d_Mo_around_33 ?_
  refine G_lshr hX (v := (zx x) >>> ((zI 24).toInt64 &&& 63)) rfl d_Mo_around_35 ?_
  refine G_lor hX d_Mo_around_36 ?_
  exact F_lret hX hE d_Mo_around_37 ⟨by rw [ar_eq x], rfl⟩
theorem m5_fin (s Y : S4) : ∀ q, q < 4 → vp_updL (vp_updL (vp_updL (vp_updL (fun k => zx (m4 s k)) (0 : Int).toNat (zx (s.1 + Y.1))) (1 : Int).toNat (zx (s.2.1 + Y.2.1))) (2 : Int).toNat (zx (s.2.2.1 + Y.2.2.1))) (3 : Int).toNat (zx (s.2.2.2 + Y.2.2.2)) q = zx (m4 (m5A s Y) q) := by
  intro q hq
  rcases (show q = 0 ∨ q = 1 ∨ q = 2 ∨ q = 3 by omega) with rfl | rfl | rfl | rfl <;> rfl
theorem m5_f2 (wd : Nat → Int32) (s : S4) : ∀ q, q < 4 → vp_updL (vp_updL (vp_updL (vp_updL (fun k => zx (m4 s k)) (0 : Int).toNat (zx (s.1 + (m5L wd s (64 : Int).toNat).1))) (1 : Int).toNat (zx (s.2.1 + (m5L wd s (64 : Int).toNat).2.1))) (2 : Int).toNat (zx (s.2.2.1 + (m5L wd s (64 : Int).toNat).2.2.1))) (3 : Int).toNat (zx (s.2.2.2 + (m5L wd s (64 : Int).toNat).2.2.2)) q = zx (m4 (m5B wd s) q) := by
  have e : (64 : Int).toNat = 64 := rfl
  rw [e]
  exact m5_fin s (m5L wd s 64)
theorem c_Mo_digestBlock (E : EV) (f : Nat → va_E) (F : Nat → Value) (bg : Int) (n : Int) (al : Int) (dn : Int) (b : Int → Int) (gF : Int → Int) (p : Int) (wd : Nat → Int32) (s : S4) (hMo : f 61 = mob F) (hmk : moK E F) (hc63 : f 63 = iz E 1600 b) (hc62 : f 62 = la E 32 kkF) (hc65 : f 65 = la E 4 (fun k => zx (m4 s k))) (hG : isB gF) (hag : ∀ i, 0 ≤ i → i < n → b (bg + i) = gF (p + i)) (hb : 0 ≤ bg ∧ 0 ≤ n ∧ bg + n ≤ 1600 ∧ n ≤ 700) (hal : al = pdF n) (hdn : 0 ≤ dn ∧ dn + 64 ≤ al ∧ al ≤ 1000) (hwd : ∀ k, 0 ≤ k → k < 16 → wd k.toNat = zI (wdB gF p n (dn + 4 * k))) : CF yn_Mo_digestBlock cd_Mo_digestBlock 18 none 1 E [.ref (eA E 61), .int (zI bg), .int (zI n), .int (zI al), .int (zI dn)] f (fun r f' => r = none ∧ f' 65 = la E 4 (fun k => zx (m4 (m5B wd s) k)) ∧ Fr [65] f f') := by
  refine CF.of (by decide +kernel) (Nat.le_of_ble_eq_true rfl) fun X hX hE => ?_
  have hX : Ok E X "DeltaFerryModel" "digestBlock" cd_Mo_digestBlock 18 none (rl 1) := hX
  refine G_cast (lv' := [(0, .ref (eA E 61)), (1, .int (zI bg)), (2, .int (zI n)), (3, .int (zI al)), (4, .int (zI dn))]) ?_ rfl rfl rfl rfl
  refine G_aload_n hX 0 rfl rfl d_Mo_digestBlock_0 ?_
  refine M_get hX fg_Mo_84 d_Mo_digestBlock_1 hMo (by decide) (hmk 3 65 (by decide)) ?_
  refine G_iconst hX d_Mo_digestBlock_4 ?_
  refine F_lald hX d_Mo_digestBlock_5 65 (by decide) hc65 (by omega) ?_
  refine G_topl (show ((fun k => zx (m4 s k)) (0 : Int).toNat) = (zx s.1) from rfl) ?_
  refine G_lstore hX (lv' := [(5, .long (zx s.1)), (0, .ref (eA E 61)), (1, .int (zI bg)), (2, .int (zI n)), (3, .int (zI al)), (4, .int (zI dn))]) (by decide) rfl d_Mo_digestBlock_6 ?_
  refine G_aload_n hX 1 rfl rfl d_Mo_digestBlock_8 ?_
  refine M_get hX fg_Mo_84 d_Mo_digestBlock_9 hMo (by decide) (hmk 3 65 (by decide)) ?_
  refine G_iconst hX d_Mo_digestBlock_12 ?_
  refine F_lald hX d_Mo_digestBlock_13 65 (by decide) hc65 (by omega) ?_
  refine G_topl (show ((fun k => zx (m4 s k)) (1 : Int).toNat) = (zx s.2.1) from rfl) ?_
  refine G_lstore hX (lv' := [(7, .long (zx s.2.1)), (5, .long (zx s.1)), (0, .ref (eA E 61)), (1, .int (zI bg)), (2, .int (zI n)), (3, .int (zI al)), (4, .int (zI dn))]) (by decide) rfl d_Mo_digestBlock_14 ?_
  refine G_aload_n hX 2 rfl rfl d_Mo_digestBlock_16 ?_
  refine M_get hX fg_Mo_84 d_Mo_digestBlock_17 hMo (by decide) (hmk 3 65 (by decide)) ?_
  refine G_iconst hX d_Mo_digestBlock_20 ?_
  refine F_lald hX d_Mo_digestBlock_21 65 (by decide) hc65 (by omega) ?_
  refine G_topl (show ((fun k => zx (m4 s k)) (2 : Int).toNat) = (zx s.2.2.1) from rfl) ?_
  refine G_lstore hX (lv' := [(9, .long (zx s.2.2.1)), (7, .long (zx s.2.1)), (5, .long (zx s.1)), (0, .ref (eA E 61)), (1, .int (zI bg)), (2, .int (zI n)), (3, .int (zI al)), (4, .int (zI dn))]) (by decide) rfl d_Mo_digestBlock_22 ?_
  refine G_aload_n hX 3 rfl rfl d_Mo_digestBlock_24 ?_
  refine M_get hX fg_Mo_84 d_Mo_digestBlock_25 hMo (by decide) (hmk 3 65 (by decide)) ?_
  refine G_iconst hX d_Mo_digestBlock_28 ?_
  refine F_lald hX d_Mo_digestBlock_29 65 (by decide) hc65 (by omega) ?_
  refine G_topl (show ((fun k => zx (m4 s k)) (3 : Int).toNat) = (zx s.2.2.2) from rfl) ?_
  refine G_lstore hX (lv' := [(11, .long (zx s.2.2.2)), (9, .long (zx s.2.2.1)), (7, .long (zx s.2.1)), (5, .long (zx s.1)), (0, .ref (eA E 61)), (1, .int (zI bg)), (2, .int (zI n)), (3, .int (zI al)), (4, .int (zI dn))]) (by decide) rfl d_Mo_digestBlock_30 ?_
  refine G_iconst hX d_Mo_digestBlock_32 ?_
  refine G_istore hX (lv' := [(13, .int (zI 0)), (11, .long (zx s.2.2.2)), (9, .long (zx s.2.2.1)), (7, .long (zx s.2.1)), (5, .long (zx s.1)), (0, .ref (eA E 61)), (1, .int (zI bg)), (2, .int (zI n)), (3, .int (zI al)), (4, .int (zI dn))]) (by decide) rfl d_Mo_digestBlock_33 ?_
  have loop1 : ∀ (q : Nat) (t : Int) (f2 : Nat → va_E), (64 - t).toNat < q → (0 ≤ t ∧ t ≤ 64) → Fr [] f f2 → G E X 0 0 35 [(0, .ref (eA E 61)), (1, .int (zI bg)), (2, .int (zI n)), (3, .int (zI al)), (4, .int (zI dn)), (5, .long (zx (m5L wd s t.toNat).1)), (7, .long (zx (m5L wd s t.toNat).2.1)), (9, .long (zx (m5L wd s t.toNat).2.2.1)), (11, .long (zx (m5L wd s t.toNat).2.2.2)), (13, .int (zI t))] [] (wl E f2) := by
    intro q
    induction q with
    | zero => intro t f2 hms4; exact absurd hms4 (Nat.not_lt_zero _)
    | succ q ih5 =>
      intro t f2 hms4 ht k3
      refine G_iload hX 9 rfl d_Mo_digestBlock_35 ?_
      refine G_bipush hX (by decide) d_Mo_digestBlock_37 ?_
      refine G_icmp_ge_z hX (tgt := 156) d_Mo_digestBlock_39 rfl (by omega) (fun c6 => ?_) (fun c7 => ?_)
      · skip
        refine G_aload_n hX 0 rfl rfl d_Mo_digestBlock_156 ?_
        have h8 : f2 61 = mob F := (k3 61 (List.not_mem_nil)).trans hMo
        refine M_get hX fg_Mo_84 d_Mo_digestBlock_157 h8 (by decide) (hmk 3 65 (by decide)) ?_
        refine G_iconst hX d_Mo_digestBlock_160 ?_
        refine G_aload_n hX 0 rfl rfl d_Mo_digestBlock_161 ?_
        refine M_get hX fg_Mo_84 d_Mo_digestBlock_162 h8 (by decide) (hmk 3 65 (by decide)) ?_
        refine G_iconst hX d_Mo_digestBlock_165 ?_
        have h9 : f2 65 = la E 4 (fun k => zx (m4 s k)) := (k3 65 (List.not_mem_nil)).trans hc65
        refine F_lald hX d_Mo_digestBlock_166 65 (by decide) h9 (by omega) ?_
        refine G_topl (show ((fun k => zx (m4 s k)) (0 : Int).toNat) = (zx s.1) from rfl) ?_
        refine G_lload hX 5 rfl d_Mo_digestBlock_167 ?_
        refine G_ladd hX d_Mo_digestBlock_169 ?_
        refine G_ldc2 hX kn_Mo_176 d_Mo_digestBlock_170 ?_
        refine G_topl (show (4294967295 : Int64) = zL (4294967295) from by decide) ?_
        refine G_land hX d_Mo_digestBlock_173 ?_
        refine G_topl (show (((zx s.1) + (zx (m5L wd s t.toNat).1)) &&& (zL 4294967295)) = (zx (s.1 + (m5L wd s t.toNat).1)) from by rw [zx_mask, Int64.toInt32_add, zx_i, zx_i]) ?_
        refine F_last hX d_Mo_digestBlock_174 65 (by decide) h9 (by omega) (fun f10 h11 k12 => ?_)
        refine G_aload_n hX 0 rfl rfl d_Mo_digestBlock_175 ?_
        have h13 : f10 61 = mob F := (k12 61 (by decide)).trans h8
        refine M_get hX fg_Mo_84 d_Mo_digestBlock_176 h13 (by decide) (hmk 3 65 (by decide)) ?_
        refine G_iconst hX d_Mo_digestBlock_179 ?_
        refine G_aload_n hX 0 rfl rfl d_Mo_digestBlock_180 ?_
        refine M_get hX fg_Mo_84 d_Mo_digestBlock_181 h13 (by decide) (hmk 3 65 (by decide)) ?_
        refine G_iconst hX d_Mo_digestBlock_184 ?_
        refine F_lald hX d_Mo_digestBlock_185 65 (by decide) h11 (by omega) ?_
        refine G_topl (show ((vp_updL (fun k => zx (m4 s k)) (0 : Int).toNat (zx (s.1 + (m5L wd s t.toNat).1))) (1 : Int).toNat) = (zx s.2.1) from rfl) ?_
        refine G_lload hX 6 rfl d_Mo_digestBlock_186 ?_
        refine G_ladd hX d_Mo_digestBlock_188 ?_
        refine G_ldc2 hX kn_Mo_176 d_Mo_digestBlock_189 ?_
        refine G_topl (show (4294967295 : Int64) = zL (4294967295) from by decide) ?_
        refine G_land hX d_Mo_digestBlock_192 ?_
        refine G_topl (show (((zx s.2.1) + (zx (m5L wd s t.toNat).2.1)) &&& (zL 4294967295)) = (zx (s.2.1 + (m5L wd s t.toNat).2.1)) from by rw [zx_mask, Int64.toInt32_add, zx_i, zx_i]) ?_
        refine F_last hX d_Mo_digestBlock_193 65 (by decide) h11 (by omega) (fun f14 h15 k16 => ?_)
        refine G_aload_n hX 0 rfl rfl d_Mo_digestBlock_194 ?_
        have h17 : f14 61 = mob F := (k16 61 (by decide)).trans h13
        refine M_get hX fg_Mo_84 d_Mo_digestBlock_195 h17 (by decide) (hmk 3 65 (by decide)) ?_
        refine G_iconst hX d_Mo_digestBlock_198 ?_
        refine G_aload_n hX 0 rfl rfl d_Mo_digestBlock_199 ?_
        refine M_get hX fg_Mo_84 d_Mo_digestBlock_200 h17 (by decide) (hmk 3 65 (by decide)) ?_
        refine G_iconst hX d_Mo_digestBlock_203 ?_
        refine F_lald hX d_Mo_digestBlock_204 65 (by decide) h15 (by omega) ?_
        refine G_topl (show ((vp_updL (vp_updL (fun k => zx (m4 s k)) (0 : Int).toNat (zx (s.1 + (m5L wd s t.toNat).1))) (1 : Int).toNat (zx (s.2.1 + (m5L wd s t.toNat).2.1))) (2 : Int).toNat) = (zx s.2.2.1) from rfl) ?_
        refine G_lload hX 7 rfl d_Mo_digestBlock_205 ?_
        refine G_ladd hX d_Mo_digestBlock_207 ?_
        refine G_ldc2 hX kn_Mo_176 d_Mo_digestBlock_208 ?_
        refine G_topl (show (4294967295 : Int64) = zL (4294967295) from by decide) ?_
        refine G_land hX d_Mo_digestBlock_211 ?_
        refine G_topl (show (((zx s.2.2.1) + (zx (m5L wd s t.toNat).2.2.1)) &&& (zL 4294967295)) = (zx (s.2.2.1 + (m5L wd s t.toNat).2.2.1)) from by rw [zx_mask, Int64.toInt32_add, zx_i, zx_i]) ?_
        refine F_last hX d_Mo_digestBlock_212 65 (by decide) h15 (by omega) (fun f18 h19 k20 => ?_)
        refine G_aload_n hX 0 rfl rfl d_Mo_digestBlock_213 ?_
        have h21 : f18 61 = mob F := (k20 61 (by decide)).trans h17
        refine M_get hX fg_Mo_84 d_Mo_digestBlock_214 h21 (by decide) (hmk 3 65 (by decide)) ?_
        refine G_iconst hX d_Mo_digestBlock_217 ?_
        refine G_aload_n hX 0 rfl rfl d_Mo_digestBlock_218 ?_
        refine M_get hX fg_Mo_84 d_Mo_digestBlock_219 h21 (by decide) (hmk 3 65 (by decide)) ?_
        refine G_iconst hX d_Mo_digestBlock_222 ?_
        refine F_lald hX d_Mo_digestBlock_223 65 (by decide) h19 (by omega) ?_
        refine G_topl (show ((vp_updL (vp_updL (vp_updL (fun k => zx (m4 s k)) (0 : Int).toNat (zx (s.1 + (m5L wd s t.toNat).1))) (1 : Int).toNat (zx (s.2.1 + (m5L wd s t.toNat).2.1))) (2 : Int).toNat (zx (s.2.2.1 + (m5L wd s t.toNat).2.2.1))) (3 : Int).toNat) = (zx s.2.2.2) from rfl) ?_
        refine G_lload hX 8 rfl d_Mo_digestBlock_224 ?_
        refine G_ladd hX d_Mo_digestBlock_226 ?_
        refine G_ldc2 hX kn_Mo_176 d_Mo_digestBlock_227 ?_
        refine G_topl (show (4294967295 : Int64) = zL (4294967295) from by decide) ?_
        refine G_land hX d_Mo_digestBlock_230 ?_
        refine G_topl (show (((zx s.2.2.2) + (zx (m5L wd s t.toNat).2.2.2)) &&& (zL 4294967295)) = (zx (s.2.2.2 + (m5L wd s t.toNat).2.2.2)) from by rw [zx_mask, Int64.toInt32_add, zx_i, zx_i]) ?_
        refine F_last hX d_Mo_digestBlock_231 65 (by decide) h19 (by omega) (fun f22 h23 k24 => ?_)
        obtain rfl : t = 64 := by omega
        refine F_nrml 65 (fun k => zx (m4 (m5B wd s) k)) (by decide) h23 (m5_f2 wd s) (fun f25 h26 k27 => ?_)
        exact F_vret hX hE d_Mo_digestBlock_232 ⟨rfl, h26, (Fr.tr (Fr.tr (Fr.tr (Fr.tr (Fr.tr (Fr.tr Fr.rf k3 (by decide)) k12 (by decide)) k16 (by decide)) k20 (by decide)) k24 (by decide)) k27 (by decide))⟩
      · skip
        have hwf := wdF_b (i := t) (by omega)
        have htn := tnF_b (i := t) (by omega)
        refine G_lconst hX (v := zL 0) (by decide) d_Mo_digestBlock_42 ?_
        refine G_lstore hX (lv' := [(14, .long (zL 0)), (0, .ref (eA E 61)), (1, .int (zI bg)), (2, .int (zI n)), (3, .int (zI al)), (4, .int (zI dn)), (5, .long (zx (m5L wd s t.toNat).1)), (7, .long (zx (m5L wd s t.toNat).2.1)), (9, .long (zx (m5L wd s t.toNat).2.2.1)), (11, .long (zx (m5L wd s t.toNat).2.2.2)), (13, .int (zI t))]) (by decide) rfl d_Mo_digestBlock_43 ?_
        refine G_iconst hX d_Mo_digestBlock_45 ?_
        refine G_istore hX (lv' := [(16, .int (zI 3)), (14, .long (zL 0)), (0, .ref (eA E 61)), (1, .int (zI bg)), (2, .int (zI n)), (3, .int (zI al)), (4, .int (zI dn)), (5, .long (zx (m5L wd s t.toNat).1)), (7, .long (zx (m5L wd s t.toNat).2.1)), (9, .long (zx (m5L wd s t.toNat).2.2.1)), (11, .long (zx (m5L wd s t.toNat).2.2.2)), (13, .int (zI t))]) (by decide) rfl d_Mo_digestBlock_46 ?_
        refine G_iload hX 0 rfl d_Mo_digestBlock_48 ?_
        refine G_top (show zI 3 = zI 3 from rfl) ?_
        refine G_if_lt_z hX (tgt := 89) d_Mo_digestBlock_50 rfl (by omega) (fun c28 => by exfalso; omega) (fun c29 => ?_)
        refine G_ldc2 hX kn_Mo_180 d_Mo_digestBlock_53 ?_
        refine G_topl (show (256 : Int64) = zL (256) from by decide) ?_
        refine G_lload hX 1 rfl d_Mo_digestBlock_56 ?_
        refine G_lmul_z hX d_Mo_digestBlock_58 ?_
        refine G_aload_n hX 2 rfl rfl d_Mo_digestBlock_59 ?_
        refine G_iload_n hX 3 rfl rfl d_Mo_digestBlock_60 ?_
        refine G_iload_n hX 4 rfl rfl d_Mo_digestBlock_61 ?_
        refine G_iload_n hX 5 rfl rfl d_Mo_digestBlock_62 ?_
        refine G_iload hX 6 rfl d_Mo_digestBlock_63 ?_
        refine G_iconst hX d_Mo_digestBlock_65 ?_
        refine G_iload hX 11 rfl d_Mo_digestBlock_66 ?_
        refine F_callS hX (st := [.int (zI 4), .int (zI dn), .int (zI al), .int (zI n), .int (zI bg), .ref (eA E 61), .long (zL (256 * 0))]) (c_Mo_wordOf E f2 t (by omega)) cm_Mo_wordOf sm_Mo_wordOf ml_Mo_182 d_Mo_digestBlock_68 rfl rfl (Nat.le_of_ble_eq_true rfl) (by decide) ?_
        rintro _ f30 ⟨rfl, e33⟩
        obtain rfl := e33.symm
        refine G_cast (st' := [.int (zI (wdF t)), .int (zI 4), .int (zI dn), .int (zI al), .int (zI n), .int (zI bg), .ref (eA E 61), .long (zL (256 * 0))]) ?_ rfl rfl rfl rfl
        refine G_imul_z hX d_Mo_digestBlock_71 ?_
        refine G_iadd_z hX d_Mo_digestBlock_72 ?_
        refine G_iload hX 0 rfl d_Mo_digestBlock_73 ?_
        refine G_iadd_z hX d_Mo_digestBlock_75 ?_
        have h34 : f2 61 = mob F := (k3 61 (List.not_mem_nil)).trans hMo
        have h35 : f2 63 = iz E 1600 b := (k3 63 (List.not_mem_nil)).trans hc63
        refine F_callV hX (st := [.long (zL (256 * 0))]) (c_Mo_padded E f2 F bg n al ((dn + (4 * (wdF t))) + 3) b gF p h34 hmk h35 hG hag (by omega) hal (by omega)) cm_Mo_padded im_Mo_padded se_Mo_padded rfl ml_Mo_185 d_Mo_digestBlock_76 (by decide) h34 rfl rfl (Nat.le_of_ble_eq_true rfl) (by decide) ?_
        rintro _ f36 ⟨rfl, e39⟩
        obtain rfl := e39.symm
        refine G_cast (st' := [.int (zI (pdB gF p n ((dn + (4 * (wdF t))) + 3))), .long (zL (256 * 0))]) ?_ rfl rfl rfl rfl
        have b40 : 0 ≤ pdB gF p n ((dn + (4 * (wdF t))) + 3) ∧ pdB gF p n ((dn + (4 * (wdF t))) + 3) < 256 := pdB_b hG
        refine G_i2l hX (v := zL (pdB gF p n ((dn + (4 * (wdF t))) + 3))) (zI_l (by omega)) d_Mo_digestBlock_79 ?_
        refine G_ladd_z hX d_Mo_digestBlock_80 ?_
        refine G_lstore hX (lv' := [(14, .long (zL ((256 * 0) + (pdB gF p n ((dn + (4 * (wdF t))) + 3))))), (16, .int (zI 3)), (0, .ref (eA E 61)), (1, .int (zI bg)), (2, .int (zI n)), (3, .int (zI al)), (4, .int (zI dn)), (5, .long (zx (m5L wd s t.toNat).1)), (7, .long (zx (m5L wd s t.toNat).2.1)), (9, .long (zx (m5L wd s t.toNat).2.2.1)), (11, .long (zx (m5L wd s t.toNat).2.2.2)), (13, .int (zI t))]) (by decide) rfl d_Mo_digestBlock_81 ?_
        refine G_iinc_z hX (lv' := [(16, .int (zI (3 + (-1)))), (14, .long (zL ((256 * 0) + (pdB gF p n ((dn + (4 * (wdF t))) + 3))))), (0, .ref (eA E 61)), (1, .int (zI bg)), (2, .int (zI n)), (3, .int (zI al)), (4, .int (zI dn)), (5, .long (zx (m5L wd s t.toNat).1)), (7, .long (zx (m5L wd s t.toNat).2.1)), (9, .long (zx (m5L wd s t.toNat).2.2.1)), (11, .long (zx (m5L wd s t.toNat).2.2.2)), (13, .int (zI t))]) 1 rfl (by decide) rfl d_Mo_digestBlock_83 ?_
        refine G_cast (lv' := [(16, .int (zI 2)), (14, .long (zL ((256 * 0) + (pdB gF p n ((dn + (4 * (wdF t))) + 3))))), (0, .ref (eA E 61)), (1, .int (zI bg)), (2, .int (zI n)), (3, .int (zI al)), (4, .int (zI dn)), (5, .long (zx (m5L wd s t.toNat).1)), (7, .long (zx (m5L wd s t.toNat).2.1)), (9, .long (zx (m5L wd s t.toNat).2.2.1)), (11, .long (zx (m5L wd s t.toNat).2.2.2)), (13, .int (zI t))]) ?_ rfl rfl rfl rfl
        refine G_goto hX (tgt := 48) d_Mo_digestBlock_86 rfl ?_
        refine G_iload hX 0 rfl d_Mo_digestBlock_48 ?_
        refine G_top (show zI 2 = zI 2 from rfl) ?_
        refine G_if_lt_z hX (tgt := 89) d_Mo_digestBlock_50 rfl (by omega) (fun c41 => by exfalso; omega) (fun c42 => ?_)
        refine G_ldc2 hX kn_Mo_180 d_Mo_digestBlock_53 ?_
        refine G_topl (show (256 : Int64) = zL (256) from by decide) ?_
        refine G_lload hX 1 rfl d_Mo_digestBlock_56 ?_
        refine G_lmul_z hX d_Mo_digestBlock_58 ?_
        refine G_aload_n hX 2 rfl rfl d_Mo_digestBlock_59 ?_
        refine G_iload_n hX 3 rfl rfl d_Mo_digestBlock_60 ?_
        refine G_iload_n hX 4 rfl rfl d_Mo_digestBlock_61 ?_
        refine G_iload_n hX 5 rfl rfl d_Mo_digestBlock_62 ?_
        refine G_iload hX 6 rfl d_Mo_digestBlock_63 ?_
        refine G_iconst hX d_Mo_digestBlock_65 ?_
        refine G_iload hX 11 rfl d_Mo_digestBlock_66 ?_
        refine F_callS hX (st := [.int (zI 4), .int (zI dn), .int (zI al), .int (zI n), .int (zI bg), .ref (eA E 61), .long (zL (256 * ((256 * 0) + (pdB gF p n ((dn + (4 * (wdF t))) + 3)))))]) (c_Mo_wordOf E f2 t (by omega)) cm_Mo_wordOf sm_Mo_wordOf ml_Mo_182 d_Mo_digestBlock_68 rfl rfl (Nat.le_of_ble_eq_true rfl) (by decide) ?_
        rintro _ f43 ⟨rfl, e46⟩
        obtain rfl := e46.symm
        refine G_cast (st' := [.int (zI (wdF t)), .int (zI 4), .int (zI dn), .int (zI al), .int (zI n), .int (zI bg), .ref (eA E 61), .long (zL (256 * ((256 * 0) + (pdB gF p n ((dn + (4 * (wdF t))) + 3)))))]) ?_ rfl rfl rfl rfl
        refine G_imul_z hX d_Mo_digestBlock_71 ?_
        refine G_iadd_z hX d_Mo_digestBlock_72 ?_
        refine G_iload hX 0 rfl d_Mo_digestBlock_73 ?_
        refine G_iadd_z hX d_Mo_digestBlock_75 ?_
        refine F_callV hX (st := [.long (zL (256 * ((256 * 0) + (pdB gF p n ((dn + (4 * (wdF t))) + 3)))))]) (c_Mo_padded E f2 F bg n al ((dn + (4 * (wdF t))) + 2) b gF p h34 hmk h35 hG hag (by omega) hal (by omega)) cm_Mo_padded im_Mo_padded se_Mo_padded rfl ml_Mo_185 d_Mo_digestBlock_76 (by decide) h34 rfl rfl (Nat.le_of_ble_eq_true rfl) (by decide) ?_
        rintro _ f47 ⟨rfl, e50⟩
        obtain rfl := e50.symm
        refine G_cast (st' := [.int (zI (pdB gF p n ((dn + (4 * (wdF t))) + 2))), .long (zL (256 * ((256 * 0) + (pdB gF p n ((dn + (4 * (wdF t))) + 3)))))]) ?_ rfl rfl rfl rfl
        have b51 : 0 ≤ pdB gF p n ((dn + (4 * (wdF t))) + 2) ∧ pdB gF p n ((dn + (4 * (wdF t))) + 2) < 256 := pdB_b hG
        refine G_i2l hX (v := zL (pdB gF p n ((dn + (4 * (wdF t))) + 2))) (zI_l (by omega)) d_Mo_digestBlock_79 ?_
        refine G_ladd_z hX d_Mo_digestBlock_80 ?_
        refine G_lstore hX (lv' := [(14, .long (zL ((256 * ((256 * 0) + (pdB gF p n ((dn + (4 * (wdF t))) + 3)))) + (pdB gF p n ((dn + (4 * (wdF t))) + 2))))), (16, .int (zI 2)), (0, .ref (eA E 61)), (1, .int (zI bg)), (2, .int (zI n)), (3, .int (zI al)), (4, .int (zI dn)), (5, .long (zx (m5L wd s t.toNat).1)), (7, .long (zx (m5L wd s t.toNat).2.1)), (9, .long (zx (m5L wd s t.toNat).2.2.1)), (11, .long (zx (m5L wd s t.toNat).2.2.2)), (13, .int (zI t))]) (by decide) rfl d_Mo_digestBlock_81 ?_
        refine G_iinc_z hX (lv' := [(16, .int (zI (2 + (-1)))), (14, .long (zL ((256 * ((256 * 0) + (pdB gF p n ((dn + (4 * (wdF t))) + 3)))) + (pdB gF p n ((dn + (4 * (wdF t))) + 2))))), (0, .ref (eA E 61)), (1, .int (zI bg)), (2, .int (zI n)), (3, .int (zI al)), (4, .int (zI dn)), (5, .long (zx (m5L wd s t.toNat).1)), (7, .long (zx (m5L wd s t.toNat).2.1)), (9, .long (zx (m5L wd s t.toNat).2.2.1)), (11, .long (zx (m5L wd s t.toNat).2.2.2)), (13, .int (zI t))]) 1 rfl (by decide) rfl d_Mo_digestBlock_83 ?_
        refine G_cast (lv' := [(16, .int (zI 1)), (14, .long (zL ((256 * ((256 * 0) + (pdB gF p n ((dn + (4 * (wdF t))) + 3)))) + (pdB gF p n ((dn + (4 * (wdF t))) + 2))))), (0, .ref (eA E 61)), (1, .int (zI bg)), (2, .int (zI n)), (3, .int (zI al)), (4, .int (zI dn)), (5, .long (zx (m5L wd s t.toNat).1)), (7, .long (zx (m5L wd s t.toNat).2.1)), (9, .long (zx (m5L wd s t.toNat).2.2.1)), (11, .long (zx (m5L wd s t.toNat).2.2.2)), (13, .int (zI t))]) ?_ rfl rfl rfl rfl
        refine G_goto hX (tgt := 48) d_Mo_digestBlock_86 rfl ?_
        refine G_iload hX 0 rfl d_Mo_digestBlock_48 ?_
        refine G_top (show zI 1 = zI 1 from rfl) ?_
        refine G_if_lt_z hX (tgt := 89) d_Mo_digestBlock_50 rfl (by omega) (fun c52 => by exfalso; omega) (fun c53 => ?_)
        refine G_ldc2 hX kn_Mo_180 d_Mo_digestBlock_53 ?_
        refine G_topl (show (256 : Int64) = zL (256) from by decide) ?_
        refine G_lload hX 1 rfl d_Mo_digestBlock_56 ?_
        refine G_lmul_z hX d_Mo_digestBlock_58 ?_
        refine G_aload_n hX 2 rfl rfl d_Mo_digestBlock_59 ?_
        refine G_iload_n hX 3 rfl rfl d_Mo_digestBlock_60 ?_
        refine G_iload_n hX 4 rfl rfl d_Mo_digestBlock_61 ?_
        refine G_iload_n hX 5 rfl rfl d_Mo_digestBlock_62 ?_
        refine G_iload hX 6 rfl d_Mo_digestBlock_63 ?_
        refine G_iconst hX d_Mo_digestBlock_65 ?_
        refine G_iload hX 11 rfl d_Mo_digestBlock_66 ?_
        refine F_callS hX (st := [.int (zI 4), .int (zI dn), .int (zI al), .int (zI n), .int (zI bg), .ref (eA E 61), .long (zL (256 * ((256 * ((256 * 0) + (pdB gF p n ((dn + (4 * (wdF t))) + 3)))) + (pdB gF p n ((dn + (4 * (wdF t))) + 2)))))]) (c_Mo_wordOf E f2 t (by omega)) cm_Mo_wordOf sm_Mo_wordOf ml_Mo_182 d_Mo_digestBlock_68 rfl rfl (Nat.le_of_ble_eq_true rfl) (by decide) ?_
        rintro _ f54 ⟨rfl, e57⟩
        obtain rfl := e57.symm
        refine G_cast (st' := [.int (zI (wdF t)), .int (zI 4), .int (zI dn), .int (zI al), .int (zI n), .int (zI bg), .ref (eA E 61), .long (zL (256 * ((256 * ((256 * 0) + (pdB gF p n ((dn + (4 * (wdF t))) + 3)))) + (pdB gF p n ((dn + (4 * (wdF t))) + 2)))))]) ?_ rfl rfl rfl rfl
        refine G_imul_z hX d_Mo_digestBlock_71 ?_
        refine G_iadd_z hX d_Mo_digestBlock_72 ?_
        refine G_iload hX 0 rfl d_Mo_digestBlock_73 ?_
        refine G_iadd_z hX d_Mo_digestBlock_75 ?_
        refine F_callV hX (st := [.long (zL (256 * ((256 * ((256 * 0) + (pdB gF p n ((dn + (4 * (wdF t))) + 3)))) + (pdB gF p n ((dn + (4 * (wdF t))) + 2)))))]) (c_Mo_padded E f2 F bg n al ((dn + (4 * (wdF t))) + 1) b gF p h34 hmk h35 hG hag (by omega) hal (by omega)) cm_Mo_padded im_Mo_padded se_Mo_padded rfl ml_Mo_185 d_Mo_digestBlock_76 (by decide) h34 rfl rfl (Nat.le_of_ble_eq_true rfl) (by decide) ?_
        rintro _ f58 ⟨rfl, e61⟩
        obtain rfl := e61.symm
        refine G_cast (st' := [.int (zI (pdB gF p n ((dn + (4 * (wdF t))) + 1))), .long (zL (256 * ((256 * ((256 * 0) + (pdB gF p n ((dn + (4 * (wdF t))) + 3)))) + (pdB gF p n ((dn + (4 * (wdF t))) + 2)))))]) ?_ rfl rfl rfl rfl
        have b62 : 0 ≤ pdB gF p n ((dn + (4 * (wdF t))) + 1) ∧ pdB gF p n ((dn + (4 * (wdF t))) + 1) < 256 := pdB_b hG
        refine G_i2l hX (v := zL (pdB gF p n ((dn + (4 * (wdF t))) + 1))) (zI_l (by omega)) d_Mo_digestBlock_79 ?_
        refine G_ladd_z hX d_Mo_digestBlock_80 ?_
        refine G_lstore hX (lv' := [(14, .long (zL ((256 * ((256 * ((256 * 0) + (pdB gF p n ((dn + (4 * (wdF t))) + 3)))) + (pdB gF p n ((dn + (4 * (wdF t))) + 2)))) + (pdB gF p n ((dn + (4 * (wdF t))) + 1))))), (16, .int (zI 1)), (0, .ref (eA E 61)), (1, .int (zI bg)), (2, .int (zI n)), (3, .int (zI al)), (4, .int (zI dn)), (5, .long (zx (m5L wd s t.toNat).1)), (7, .long (zx (m5L wd s t.toNat).2.1)), (9, .long (zx (m5L wd s t.toNat).2.2.1)), (11, .long (zx (m5L wd s t.toNat).2.2.2)), (13, .int (zI t))]) (by decide) rfl d_Mo_digestBlock_81 ?_
        refine G_iinc_z hX (lv' := [(16, .int (zI (1 + (-1)))), (14, .long (zL ((256 * ((256 * ((256 * 0) + (pdB gF p n ((dn + (4 * (wdF t))) + 3)))) + (pdB gF p n ((dn + (4 * (wdF t))) + 2)))) + (pdB gF p n ((dn + (4 * (wdF t))) + 1))))), (0, .ref (eA E 61)), (1, .int (zI bg)), (2, .int (zI n)), (3, .int (zI al)), (4, .int (zI dn)), (5, .long (zx (m5L wd s t.toNat).1)), (7, .long (zx (m5L wd s t.toNat).2.1)), (9, .long (zx (m5L wd s t.toNat).2.2.1)), (11, .long (zx (m5L wd s t.toNat).2.2.2)), (13, .int (zI t))]) 1 rfl (by decide) rfl d_Mo_digestBlock_83 ?_
        refine G_cast (lv' := [(16, .int (zI 0)), (14, .long (zL ((256 * ((256 * ((256 * 0) + (pdB gF p n ((dn + (4 * (wdF t))) + 3)))) + (pdB gF p n ((dn + (4 * (wdF t))) + 2)))) + (pdB gF p n ((dn + (4 * (wdF t))) + 1))))), (0, .ref (eA E 61)), (1, .int (zI bg)), (2, .int (zI n)), (3, .int (zI al)), (4, .int (zI dn)), (5, .long (zx (m5L wd s t.toNat).1)), (7, .long (zx (m5L wd s t.toNat).2.1)), (9, .long (zx (m5L wd s t.toNat).2.2.1)), (11, .long (zx (m5L wd s t.toNat).2.2.2)), (13, .int (zI t))]) ?_ rfl rfl rfl rfl
        refine G_goto hX (tgt := 48) d_Mo_digestBlock_86 rfl ?_
        refine G_iload hX 0 rfl d_Mo_digestBlock_48 ?_
        refine G_top (show zI 0 = zI 0 from rfl) ?_
        refine G_if_lt_z hX (tgt := 89) d_Mo_digestBlock_50 rfl (by omega) (fun c63 => by exfalso; omega) (fun c64 => ?_)
        refine G_ldc2 hX kn_Mo_180 d_Mo_digestBlock_53 ?_
        refine G_topl (show (256 : Int64) = zL (256) from by decide) ?_
        refine G_lload hX 1 rfl d_Mo_digestBlock_56 ?_
        refine G_lmul_z hX d_Mo_digestBlock_58 ?_
        refine G_aload_n hX 2 rfl rfl d_Mo_digestBlock_59 ?_
        refine G_iload_n hX 3 rfl rfl d_Mo_digestBlock_60 ?_
        refine G_iload_n hX 4 rfl rfl d_Mo_digestBlock_61 ?_
        refine G_iload_n hX 5 rfl rfl d_Mo_digestBlock_62 ?_
        refine G_iload hX 6 rfl d_Mo_digestBlock_63 ?_
        refine G_iconst hX d_Mo_digestBlock_65 ?_
        refine G_iload hX 11 rfl d_Mo_digestBlock_66 ?_
        refine F_callS hX (st := [.int (zI 4), .int (zI dn), .int (zI al), .int (zI n), .int (zI bg), .ref (eA E 61), .long (zL (256 * ((256 * ((256 * ((256 * 0) + (pdB gF p n ((dn + (4 * (wdF t))) + 3)))) + (pdB gF p n ((dn + (4 * (wdF t))) + 2)))) + (pdB gF p n ((dn + (4 * (wdF t))) + 1)))))]) (c_Mo_wordOf E f2 t (by omega)) cm_Mo_wordOf sm_Mo_wordOf ml_Mo_182 d_Mo_digestBlock_68 rfl rfl (Nat.le_of_ble_eq_true rfl) (by decide) ?_
        rintro _ f65 ⟨rfl, e68⟩
        obtain rfl := e68.symm
        refine G_cast (st' := [.int (zI (wdF t)), .int (zI 4), .int (zI dn), .int (zI al), .int (zI n), .int (zI bg), .ref (eA E 61), .long (zL (256 * ((256 * ((256 * ((256 * 0) + (pdB gF p n ((dn + (4 * (wdF t))) + 3)))) + (pdB gF p n ((dn + (4 * (wdF t))) + 2)))) + (pdB gF p n ((dn + (4 * (wdF t))) + 1)))))]) ?_ rfl rfl rfl rfl
        refine G_imul_z hX d_Mo_digestBlock_71 ?_
        refine G_iadd_z hX d_Mo_digestBlock_72 ?_
        refine G_iload hX 0 rfl d_Mo_digestBlock_73 ?_
        refine G_iadd_z hX d_Mo_digestBlock_75 ?_
        refine F_callV hX (st := [.long (zL (256 * ((256 * ((256 * ((256 * 0) + (pdB gF p n ((dn + (4 * (wdF t))) + 3)))) + (pdB gF p n ((dn + (4 * (wdF t))) + 2)))) + (pdB gF p n ((dn + (4 * (wdF t))) + 1)))))]) (c_Mo_padded E f2 F bg n al ((dn + (4 * (wdF t))) + 0) b gF p h34 hmk h35 hG hag (by omega) hal (by omega)) cm_Mo_padded im_Mo_padded se_Mo_padded rfl ml_Mo_185 d_Mo_digestBlock_76 (by decide) h34 rfl rfl (Nat.le_of_ble_eq_true rfl) (by decide) ?_
        rintro _ f69 ⟨rfl, e72⟩
        obtain rfl := e72.symm
        refine G_cast (st' := [.int (zI (pdB gF p n ((dn + (4 * (wdF t))) + 0))), .long (zL (256 * ((256 * ((256 * ((256 * 0) + (pdB gF p n ((dn + (4 * (wdF t))) + 3)))) + (pdB gF p n ((dn + (4 * (wdF t))) + 2)))) + (pdB gF p n ((dn + (4 * (wdF t))) + 1)))))]) ?_ rfl rfl rfl rfl
        have b73 : 0 ≤ pdB gF p n ((dn + (4 * (wdF t))) + 0) ∧ pdB gF p n ((dn + (4 * (wdF t))) + 0) < 256 := pdB_b hG
        refine G_i2l hX (v := zL (pdB gF p n ((dn + (4 * (wdF t))) + 0))) (zI_l (by omega)) d_Mo_digestBlock_79 ?_
        refine G_ladd_z hX d_Mo_digestBlock_80 ?_
        refine G_lstore hX (lv' := [(14, .long (zL ((256 * ((256 * ((256 * ((256 * 0) + (pdB gF p n ((dn + (4 * (wdF t))) + 3)))) + (pdB gF p n ((dn + (4 * (wdF t))) + 2)))) + (pdB gF p n ((dn + (4 * (wdF t))) + 1)))) + (pdB gF p n ((dn + (4 * (wdF t))) + 0))))), (16, .int (zI 0)), (0, .ref (eA E 61)), (1, .int (zI bg)), (2, .int (zI n)), (3, .int (zI al)), (4, .int (zI dn)), (5, .long (zx (m5L wd s t.toNat).1)), (7, .long (zx (m5L wd s t.toNat).2.1)), (9, .long (zx (m5L wd s t.toNat).2.2.1)), (11, .long (zx (m5L wd s t.toNat).2.2.2)), (13, .int (zI t))]) (by decide) rfl d_Mo_digestBlock_81 ?_
        refine G_iinc_z hX (lv' := [(16, .int (zI (0 + (-1)))), (14, .long (zL ((256 * ((256 * ((256 * ((256 * 0) + (pdB gF p n ((dn + (4 * (wdF t))) + 3)))) + (pdB gF p n ((dn + (4 * (wdF t))) + 2)))) + (pdB gF p n ((dn + (4 * (wdF t))) + 1)))) + (pdB gF p n ((dn + (4 * (wdF t))) + 0))))), (0, .ref (eA E 61)), (1, .int (zI bg)), (2, .int (zI n)), (3, .int (zI al)), (4, .int (zI dn)), (5, .long (zx (m5L wd s t.toNat).1)), (7, .long (zx (m5L wd s t.toNat).2.1)), (9, .long (zx (m5L wd s t.toNat).2.2.1)), (11, .long (zx (m5L wd s t.toNat).2.2.2)), (13, .int (zI t))]) 1 rfl (by decide) rfl d_Mo_digestBlock_83 ?_
        refine G_cast (lv' := [(16, .int (zI (-1))), (14, .long (zL ((256 * ((256 * ((256 * ((256 * 0) + (pdB gF p n ((dn + (4 * (wdF t))) + 3)))) + (pdB gF p n ((dn + (4 * (wdF t))) + 2)))) + (pdB gF p n ((dn + (4 * (wdF t))) + 1)))) + (pdB gF p n ((dn + (4 * (wdF t))) + 0))))), (0, .ref (eA E 61)), (1, .int (zI bg)), (2, .int (zI n)), (3, .int (zI al)), (4, .int (zI dn)), (5, .long (zx (m5L wd s t.toNat).1)), (7, .long (zx (m5L wd s t.toNat).2.1)), (9, .long (zx (m5L wd s t.toNat).2.2.1)), (11, .long (zx (m5L wd s t.toNat).2.2.2)), (13, .int (zI t))]) ?_ rfl rfl rfl rfl
        refine G_goto hX (tgt := 48) d_Mo_digestBlock_86 rfl ?_
        refine G_iload hX 0 rfl d_Mo_digestBlock_48 ?_
        refine G_top (show zI (-1) = zI (-1) from rfl) ?_
        refine G_if_lt_z hX (tgt := 89) d_Mo_digestBlock_50 rfl (by omega) (fun c74 => ?_) (fun c75 => by exfalso; omega)
        refine G_lload hX 7 rfl d_Mo_digestBlock_89 ?_
        refine G_iload hX 11 rfl d_Mo_digestBlock_91 ?_
        refine G_lload hX 8 rfl d_Mo_digestBlock_93 ?_
        refine G_lload hX 9 rfl d_Mo_digestBlock_95 ?_
        refine G_lload hX 10 rfl d_Mo_digestBlock_97 ?_
        refine F_callS hX (st := [.long (zx (m5L wd s t.toNat).1)]) (c_Mo_mixed E f2 t ((m5L wd s t.toNat).2.1) ((m5L wd s t.toNat).2.2.1) ((m5L wd s t.toNat).2.2.2) (by omega)) cm_Mo_mixed sm_Mo_mixed ml_Mo_189 d_Mo_digestBlock_99 rfl rfl (Nat.le_of_ble_eq_true rfl) (by decide) ?_
        rintro _ f76 ⟨rfl, e79⟩
        obtain rfl := e79.symm
        refine G_cast (st' := [.long (zx (mxF (t / 16) ((m5L wd s t.toNat).2.1) ((m5L wd s t.toNat).2.2.1) ((m5L wd s t.toNat).2.2.2))), .long (zx (m5L wd s t.toNat).1)]) ?_ rfl rfl rfl rfl
        refine G_ladd hX d_Mo_digestBlock_102 ?_
        refine G_aload_n hX 2 rfl rfl d_Mo_digestBlock_103 ?_
        refine G_iload hX 11 rfl d_Mo_digestBlock_104 ?_
        have h80 : f2 62 = la E 32 kkF := (k3 62 (List.not_mem_nil)).trans hc62
        refine F_callV hX (st := [.long ((zx (m5L wd s t.toNat).1) + (zx (mxF (t / 16) ((m5L wd s t.toNat).2.1) ((m5L wd s t.toNat).2.2.1) ((m5L wd s t.toNat).2.2.2))))]) (c_Mo_constant E f2 F t h34 hmk h80 (by omega)) cm_Mo_constant im_Mo_constant se_Mo_constant rfl ml_Mo_193 d_Mo_digestBlock_106 (by decide) h34 rfl rfl (Nat.le_of_ble_eq_true rfl) (by decide) ?_
        rintro _ f81 ⟨rfl, e84⟩
        obtain rfl := e84.symm
        refine G_cast (st' := [.long (zx (kt_K.getD t.toNat 0)), .long ((zx (m5L wd s t.toNat).1) + (zx (mxF (t / 16) ((m5L wd s t.toNat).2.1) ((m5L wd s t.toNat).2.2.1) ((m5L wd s t.toNat).2.2.2))))]) ?_ rfl rfl rfl rfl
        refine G_ladd hX d_Mo_digestBlock_109 ?_
        refine G_lload hX 1 rfl d_Mo_digestBlock_110 ?_
        refine G_topl (show zL ((256 * ((256 * ((256 * ((256 * 0) + (pdB gF p n ((dn + (4 * (wdF t))) + 3)))) + (pdB gF p n ((dn + (4 * (wdF t))) + 2)))) + (pdB gF p n ((dn + (4 * (wdF t))) + 1)))) + (pdB gF p n ((dn + (4 * (wdF t))) + 0))) = zL (wdB gF p n (dn + 4 * wdF t)) from rfl) ?_
        refine G_ladd hX d_Mo_digestBlock_112 ?_
        refine G_ldc2 hX kn_Mo_176 d_Mo_digestBlock_113 ?_
        refine G_topl (show (4294967295 : Int64) = zL (4294967295) from by decide) ?_
        refine G_land hX d_Mo_digestBlock_116 ?_
        refine G_topl (show (((((zx (m5L wd s t.toNat).1) + (zx (mxF (t / 16) ((m5L wd s t.toNat).2.1) ((m5L wd s t.toNat).2.2.1) ((m5L wd s t.toNat).2.2.2)))) + (zx (kt_K.getD t.toNat 0))) + zL (wdB gF p n (dn + 4 * wdF t))) &&& (zL 4294967295)) = (zx ((m5L wd s t.toNat).1 + mxF (t / 16) (m5L wd s t.toNat).2.1 (m5L wd s t.toNat).2.2.1 (m5L wd s t.toNat).2.2.2 + kt_K.getD t.toNat 0 + wd (wdF t).toNat)) from by rw [zx_mask, Int64.toInt32_add, Int64.toInt32_add, Int64.toInt32_add, zx_i, zx_i, zx_i, zL_i, ← hwd _ hwf.1 hwf.2]) ?_
        refine G_lstore hX (lv' := [(16, .long (zx ((m5L wd s t.toNat).1 + mxF (t / 16) (m5L wd s t.toNat).2.1 (m5L wd s t.toNat).2.2.1 (m5L wd s t.toNat).2.2.2 + kt_K.getD t.toNat 0 + wd (wdF t).toNat))), (14, .long (zL ((256 * ((256 * ((256 * ((256 * 0) + (pdB gF p n ((dn + (4 * (wdF t))) + 3)))) + (pdB gF p n ((dn + (4 * (wdF t))) + 2)))) + (pdB gF p n ((dn + (4 * (wdF t))) + 1)))) + (pdB gF p n ((dn + (4 * (wdF t))) + 0))))), (0, .ref (eA E 61)), (1, .int (zI bg)), (2, .int (zI n)), (3, .int (zI al)), (4, .int (zI dn)), (5, .long (zx (m5L wd s t.toNat).1)), (7, .long (zx (m5L wd s t.toNat).2.1)), (9, .long (zx (m5L wd s t.toNat).2.2.1)), (11, .long (zx (m5L wd s t.toNat).2.2.2)), (13, .int (zI t))]) (by decide) rfl d_Mo_digestBlock_117 ?_
        refine G_lload hX 10 rfl d_Mo_digestBlock_119 ?_
        refine G_lstore hX (lv' := [(5, .long (zx (m5L wd s t.toNat).2.2.2)), (16, .long (zx ((m5L wd s t.toNat).1 + mxF (t / 16) (m5L wd s t.toNat).2.1 (m5L wd s t.toNat).2.2.1 (m5L wd s t.toNat).2.2.2 + kt_K.getD t.toNat 0 + wd (wdF t).toNat))), (14, .long (zL ((256 * ((256 * ((256 * ((256 * 0) + (pdB gF p n ((dn + (4 * (wdF t))) + 3)))) + (pdB gF p n ((dn + (4 * (wdF t))) + 2)))) + (pdB gF p n ((dn + (4 * (wdF t))) + 1)))) + (pdB gF p n ((dn + (4 * (wdF t))) + 0))))), (0, .ref (eA E 61)), (1, .int (zI bg)), (2, .int (zI n)), (3, .int (zI al)), (4, .int (zI dn)), (7, .long (zx (m5L wd s t.toNat).2.1)), (9, .long (zx (m5L wd s t.toNat).2.2.1)), (11, .long (zx (m5L wd s t.toNat).2.2.2)), (13, .int (zI t))]) (by decide) rfl d_Mo_digestBlock_121 ?_
        refine G_lload hX 9 rfl d_Mo_digestBlock_123 ?_
        refine G_lstore hX (lv' := [(11, .long (zx (m5L wd s t.toNat).2.2.1)), (5, .long (zx (m5L wd s t.toNat).2.2.2)), (16, .long (zx ((m5L wd s t.toNat).1 + mxF (t / 16) (m5L wd s t.toNat).2.1 (m5L wd s t.toNat).2.2.1 (m5L wd s t.toNat).2.2.2 + kt_K.getD t.toNat 0 + wd (wdF t).toNat))), (14, .long (zL ((256 * ((256 * ((256 * ((256 * 0) + (pdB gF p n ((dn + (4 * (wdF t))) + 3)))) + (pdB gF p n ((dn + (4 * (wdF t))) + 2)))) + (pdB gF p n ((dn + (4 * (wdF t))) + 1)))) + (pdB gF p n ((dn + (4 * (wdF t))) + 0))))), (0, .ref (eA E 61)), (1, .int (zI bg)), (2, .int (zI n)), (3, .int (zI al)), (4, .int (zI dn)), (7, .long (zx (m5L wd s t.toNat).2.1)), (9, .long (zx (m5L wd s t.toNat).2.2.1)), (13, .int (zI t))]) (by decide) rfl d_Mo_digestBlock_125 ?_
        refine G_lload hX 9 rfl d_Mo_digestBlock_127 ?_
        refine G_lstore hX (lv' := [(9, .long (zx (m5L wd s t.toNat).2.1)), (11, .long (zx (m5L wd s t.toNat).2.2.1)), (5, .long (zx (m5L wd s t.toNat).2.2.2)), (16, .long (zx ((m5L wd s t.toNat).1 + mxF (t / 16) (m5L wd s t.toNat).2.1 (m5L wd s t.toNat).2.2.1 (m5L wd s t.toNat).2.2.2 + kt_K.getD t.toNat 0 + wd (wdF t).toNat))), (14, .long (zL ((256 * ((256 * ((256 * ((256 * 0) + (pdB gF p n ((dn + (4 * (wdF t))) + 3)))) + (pdB gF p n ((dn + (4 * (wdF t))) + 2)))) + (pdB gF p n ((dn + (4 * (wdF t))) + 1)))) + (pdB gF p n ((dn + (4 * (wdF t))) + 0))))), (0, .ref (eA E 61)), (1, .int (zI bg)), (2, .int (zI n)), (3, .int (zI al)), (4, .int (zI dn)), (7, .long (zx (m5L wd s t.toNat).2.1)), (13, .int (zI t))]) (by decide) rfl d_Mo_digestBlock_129 ?_
        refine G_lload hX 10 rfl d_Mo_digestBlock_131 ?_
        refine G_lload hX 3 rfl d_Mo_digestBlock_133 ?_
        refine G_iload hX 11 rfl d_Mo_digestBlock_135 ?_
        refine F_callS hX (st := [.long (zx ((m5L wd s t.toNat).1 + mxF (t / 16) (m5L wd s t.toNat).2.1 (m5L wd s t.toNat).2.2.1 (m5L wd s t.toNat).2.2.2 + kt_K.getD t.toNat 0 + wd (wdF t).toNat)), .long (zx (m5L wd s t.toNat).2.1)]) (c_Mo_turnOf E f2 t (by omega)) cm_Mo_turnOf sm_Mo_turnOf ml_Mo_197 d_Mo_digestBlock_137 rfl rfl (Nat.le_of_ble_eq_true rfl) (by decide) ?_
        rintro _ f85 ⟨rfl, e88⟩
        obtain rfl := e88.symm
        refine G_cast (st' := [.int (zI (tnF t)), .long (zx ((m5L wd s t.toNat).1 + mxF (t / 16) (m5L wd s t.toNat).2.1 (m5L wd s t.toNat).2.2.1 (m5L wd s t.toNat).2.2.2 + kt_K.getD t.toNat 0 + wd (wdF t).toNat)), .long (zx (m5L wd s t.toNat).2.1)]) ?_ rfl rfl rfl rfl
        refine F_callS hX (st := [.long (zx (m5L wd s t.toNat).2.1)]) (c_Mo_turned E f2 ((m5L wd s t.toNat).1 + mxF (t / 16) (m5L wd s t.toNat).2.1 (m5L wd s t.toNat).2.2.1 (m5L wd s t.toNat).2.2.2 + kt_K.getD t.toNat 0 + wd (wdF t).toNat) (tnF t) htn) cm_Mo_turned sm_Mo_turned ml_Mo_200 d_Mo_digestBlock_140 rfl rfl (Nat.le_of_ble_eq_true rfl) (by decide) ?_
        rintro _ f89 ⟨rfl, e92⟩
        obtain rfl := e92.symm
        refine G_cast (st' := [.long (zx (rtF ((m5L wd s t.toNat).1 + mxF (t / 16) (m5L wd s t.toNat).2.1 (m5L wd s t.toNat).2.2.1 (m5L wd s t.toNat).2.2.2 + kt_K.getD t.toNat 0 + wd (wdF t).toNat) (zI (tnF t)))), .long (zx (m5L wd s t.toNat).2.1)]) ?_ rfl rfl rfl rfl
        refine G_ladd hX d_Mo_digestBlock_143 ?_
        refine G_ldc2 hX kn_Mo_176 d_Mo_digestBlock_144 ?_
        refine G_topl (show (4294967295 : Int64) = zL (4294967295) from by decide) ?_
        refine G_land hX d_Mo_digestBlock_147 ?_
        refine G_topl (show (((zx (m5L wd s t.toNat).2.1) + (zx (rtF ((m5L wd s t.toNat).1 + mxF (t / 16) (m5L wd s t.toNat).2.1 (m5L wd s t.toNat).2.2.1 (m5L wd s t.toNat).2.2.2 + kt_K.getD t.toNat 0 + wd (wdF t).toNat) (zI (tnF t))))) &&& (zL 4294967295)) = (zx ((m5L wd s t.toNat).2.1 + rtF ((m5L wd s t.toNat).1 + mxF (t / 16) (m5L wd s t.toNat).2.1 (m5L wd s t.toNat).2.2.1 (m5L wd s t.toNat).2.2.2 + kt_K.getD t.toNat 0 + wd (wdF t).toNat) (kt_T.getD (t / 16 * 4 + t % 4).toNat 0))) from by rw [zx_mask, Int64.toInt32_add, zx_i, zx_i, tn_z]) ?_
        refine G_lstore hX (lv' := [(7, .long (zx ((m5L wd s t.toNat).2.1 + rtF ((m5L wd s t.toNat).1 + mxF (t / 16) (m5L wd s t.toNat).2.1 (m5L wd s t.toNat).2.2.1 (m5L wd s t.toNat).2.2.2 + kt_K.getD t.toNat 0 + wd (wdF t).toNat) (kt_T.getD (t / 16 * 4 + t % 4).toNat 0)))), (9, .long (zx (m5L wd s t.toNat).2.1)), (11, .long (zx (m5L wd s t.toNat).2.2.1)), (5, .long (zx (m5L wd s t.toNat).2.2.2)), (16, .long (zx ((m5L wd s t.toNat).1 + mxF (t / 16) (m5L wd s t.toNat).2.1 (m5L wd s t.toNat).2.2.1 (m5L wd s t.toNat).2.2.2 + kt_K.getD t.toNat 0 + wd (wdF t).toNat))), (14, .long (zL ((256 * ((256 * ((256 * ((256 * 0) + (pdB gF p n ((dn + (4 * (wdF t))) + 3)))) + (pdB gF p n ((dn + (4 * (wdF t))) + 2)))) + (pdB gF p n ((dn + (4 * (wdF t))) + 1)))) + (pdB gF p n ((dn + (4 * (wdF t))) + 0))))), (0, .ref (eA E 61)), (1, .int (zI bg)), (2, .int (zI n)), (3, .int (zI al)), (4, .int (zI dn)), (13, .int (zI t))]) (by decide) rfl d_Mo_digestBlock_148 ?_
        refine G_iinc_z hX (lv' := [(13, .int (zI (t + 1))), (7, .long (zx ((m5L wd s t.toNat).2.1 + rtF ((m5L wd s t.toNat).1 + mxF (t / 16) (m5L wd s t.toNat).2.1 (m5L wd s t.toNat).2.2.1 (m5L wd s t.toNat).2.2.2 + kt_K.getD t.toNat 0 + wd (wdF t).toNat) (kt_T.getD (t / 16 * 4 + t % 4).toNat 0)))), (9, .long (zx (m5L wd s t.toNat).2.1)), (11, .long (zx (m5L wd s t.toNat).2.2.1)), (5, .long (zx (m5L wd s t.toNat).2.2.2)), (16, .long (zx ((m5L wd s t.toNat).1 + mxF (t / 16) (m5L wd s t.toNat).2.1 (m5L wd s t.toNat).2.2.1 (m5L wd s t.toNat).2.2.2 + kt_K.getD t.toNat 0 + wd (wdF t).toNat))), (14, .long (zL ((256 * ((256 * ((256 * ((256 * 0) + (pdB gF p n ((dn + (4 * (wdF t))) + 3)))) + (pdB gF p n ((dn + (4 * (wdF t))) + 2)))) + (pdB gF p n ((dn + (4 * (wdF t))) + 1)))) + (pdB gF p n ((dn + (4 * (wdF t))) + 0))))), (0, .ref (eA E 61)), (1, .int (zI bg)), (2, .int (zI n)), (3, .int (zI al)), (4, .int (zI dn))]) 11 rfl (by decide) rfl d_Mo_digestBlock_150 ?_
        refine G_goto hX (tgt := 35) d_Mo_digestBlock_153 rfl ?_
        refine G_loc (lv' := [(0, .ref (eA E 61)), (1, .int (zI bg)), (2, .int (zI n)), (3, .int (zI al)), (4, .int (zI dn)), (5, .long (zx (m5L wd s t.toNat).2.2.2)), (7, .long (zx ((m5L wd s t.toNat).2.1 + rtF ((m5L wd s t.toNat).1 + mxF (t / 16) (m5L wd s t.toNat).2.1 (m5L wd s t.toNat).2.2.1 (m5L wd s t.toNat).2.2.2 + kt_K.getD t.toNat 0 + wd (wdF t).toNat) (kt_T.getD (t / 16 * 4 + t % 4).toNat 0)))), (9, .long (zx (m5L wd s t.toNat).2.1)), (11, .long (zx (m5L wd s t.toNat).2.2.1)), (13, .int (zI (t + 1)))]) [7, 8, 9, 10, 11, 4, 1, 2, 3, 0] rfl ?_
        refine G_cast (ih5 (t + 1) f2 (by omega) (by omega)  (Fr.tr Fr.rf k3 (by decide))) rfl (by rw [m5L_s ht.1]; generalize m5L wd s t.toNat = Y; rfl) rfl rfl
  refine G_loc (lv' := [(0, .ref (eA E 61)), (1, .int (zI bg)), (2, .int (zI n)), (3, .int (zI al)), (4, .int (zI dn)), (5, .long (zx s.1)), (7, .long (zx s.2.1)), (9, .long (zx s.2.2.1)), (11, .long (zx s.2.2.2)), (13, .int (zI 0))]) [5, 6, 7, 8, 9, 4, 3, 2, 1, 0] rfl ?_
  refine G_cast (loop1 (_ + 1) 0 f (Nat.lt_succ_self _) (by omega)  Fr.rf) rfl (by rfl) rfl rfl
