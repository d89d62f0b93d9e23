/-! DeltaFerryModel: numbers, parts, rows of addresses; printed by wip/tools/m_mo7.py -/
theorem zI_shr {x : Int} (k : Nat) {y : Int32} (h : 0 ≤ x ∧ x < 2147483648) (hs : ((y &&& 31).toBitVec.smod 32#32).toNat = k) : zI x >>> (y &&& 31) = zI (x / 2 ^ k) := by
  have hd : 0 ≤ x / 2 ^ k ∧ x / 2 ^ k ≤ x := ⟨Int.ediv_nonneg h.1 (Int.le_of_lt (Int.pow_pos (by decide))), Int.ediv_le_self _ h.1⟩
  apply Int32.toInt_inj.mp
  rw [zI_t (by omega), ← Int32.toInt_toBitVec, Int32.toBitVec_shiftRight]
  show ((zI x).toBitVec.sshiftRight ((y &&& 31).toBitVec.smod 32#32).toNat).toInt = _
  rw [hs, BitVec.toInt_sshiftRight, Int32.toInt_toBitVec, zI_t (by omega), Int.shiftRight_eq_div_pow]
  rfl
theorem zL_shr {x : Int} (k : Nat) {y : Int32} (h : 0 ≤ x ∧ x < 4611686018427387904) (hs : ((y.toInt64 &&& 63).toBitVec.smod 64#64).toNat = k) : zL x >>> (y.toInt64 &&& 63) = zL (x / 2 ^ k) := by
  have hd : 0 ≤ x / 2 ^ k ∧ x / 2 ^ k ≤ x := ⟨Int.ediv_nonneg h.1 (Int.le_of_lt (Int.pow_pos (by decide))), Int.ediv_le_self _ h.1⟩
  apply Int64.toInt_inj.mp
  rw [zL_t (by omega), ← Int64.toInt_toBitVec, Int64.toBitVec_shiftRight]
  show ((zL x).toBitVec.sshiftRight ((y.toInt64 &&& 63).toBitVec.smod 64#64).toNat).toInt = _
  rw [hs, BitVec.toInt_sshiftRight, Int64.toInt_toBitVec, zL_t (by omega), Int.shiftRight_eq_div_pow]
  rfl
theorem zL_by {x : Int} : (zL x &&& zL 255).toInt32 = zI (x % 256) := by
  rw [Int64.toInt32_and, zL_i, zL_i, zI_and255]
theorem nb_10 {v : Int} (hw : wid v = 1) (h : 0 ≤ v ∧ v < 128) : v % 128 + 0 = nby v 0 := by
  unfold nby; rw [if_pos hw]; omega
theorem nb_20 {v : Int} (hw : wid v = 2) (h : 0 ≤ v ∧ v < 16384) : v / 128 % 128 + 128 = nby v 0 := by
  unfold nby; rw [if_neg (by omega), if_pos hw, if_pos rfl]; omega
theorem nb_21 {v : Int} (hw : wid v = 2) : v % 128 + 0 = nby v 1 := by
  unfold nby; rw [if_neg (by omega), if_pos hw, if_neg (by decide)]; omega
theorem nb_30 {v : Int} (hw : wid v = 3) (h : 0 ≤ v ∧ v < 2097152) : v / 16384 % 128 + 128 = nby v 0 := by
  unfold nby; rw [if_neg (by omega), if_neg (by omega), if_pos hw, if_pos rfl]; omega
theorem nb_31 {v : Int} (hw : wid v = 3) : v / 128 % 128 + 128 = nby v 1 := by
  unfold nby; rw [if_neg (by omega), if_neg (by omega), if_pos hw, if_neg (by decide), if_pos rfl]; omega
theorem nb_32 {v : Int} (hw : wid v = 3) : v % 128 + 0 = nby v 2 := by
  unfold nby; rw [if_neg (by omega), if_neg (by omega), if_pos hw, if_neg (by decide), if_neg (by decide)]; omega
theorem nb_40 {v : Int} (hw : wid v = 4) (h : 0 ≤ v ∧ v < 268435456) : v / 2097152 % 128 + 128 = nby v 0 := by
  unfold nby; rw [if_neg (by omega), if_neg (by omega), if_neg (by omega), if_pos rfl]; omega
theorem nb_41 {v : Int} (hw : wid v = 4) : v / 16384 % 128 + 128 = nby v 1 := by
  unfold nby; rw [if_neg (by omega), if_neg (by omega), if_neg (by omega), if_neg (by decide), if_pos rfl]; omega
theorem nb_42 {v : Int} (hw : wid v = 4) : v / 128 % 128 + 128 = nby v 2 := by
  unfold nby; rw [if_neg (by omega), if_neg (by omega), if_neg (by omega), if_neg (by decide), if_neg (by decide), if_pos rfl]; omega
theorem nb_43 {v : Int} (hw : wid v = 4) : v % 128 + 0 = nby v 3 := by
  unfold nby; rw [if_neg (by omega), if_neg (by omega), if_neg (by omega), if_neg (by decide), if_neg (by decide), if_neg (by decide)]; omega
theorem nbL_1 {v : Int} (hw : wid v = 1) : nbL v = [nby v 0] := by unfold nbL; rw [hw]; rfl
theorem nbL_2 {v : Int} (hw : wid v = 2) : nbL v = [nby v 0, nby v 1] := by unfold nbL; rw [hw]; rfl
theorem nbL_3 {v : Int} (hw : wid v = 3) : nbL v = [nby v 0, nby v 1, nby v 2] := by unfold nbL; rw [hw]; rfl
theorem nbL_4 {v : Int} (hw : wid v = 4) : nbL v = [nby v 0, nby v 1, nby v 2, nby v 3] := by unfold nbL; rw [hw]; rfl
theorem nbL_b (v : Int) : 1 ≤ (nbL v).length ∧ (nbL v).length ≤ 4 := by
  have h := nbL_len v
  have h2 := wid_b v
  omega
theorem sl_s (g : Int → Int) (p : Int) {t : Int} (h : 0 ≤ t) : sl g p (t + 1).toNat = sl g p t.toNat ++ [g (p + t)] := by
  rw [show (t + 1).toNat = t.toNat + 1 by omega]
  unfold sl lst
  rw [List.range_succ, List.map_append]
  show _ ++ [g (p + (t.toNat : Int))] = _
  rw [Int.toNat_of_nonneg h]
/-- the model's three parts: data, codes, addresses -/
def prt (pt ps : Int → Int) (D C A : List Int) : Prop := rep (fun k => pt (0 + k)) (ps 0) D ∧ rep (fun k => pt (1000 + k)) (ps 1) C ∧ rep (fun k => pt (2000 + k)) (ps 2) A
theorem rep_at {pt : Int → Int} {o c v j : Int} {L : List Int} (h : rep (fun k => pt (o + k)) c L) (hj : j = o + c) : rep (fun k => uz pt j v (o + k)) (c + 1) (L ++ [v]) := by
  have h1 := rep_uz (v := v) h
  refine ⟨h1.1, fun k hk => ?_⟩
  rw [← h1.2 k hk]
  show (if o + (k : Int) = j then v else pt (o + k)) = (if (k : Int) = c then v else pt (o + k))
  by_cases e : (k : Int) = c
  · rw [if_pos e, if_pos (by omega)]
  · rw [if_neg e, if_neg (by omega)]
theorem rep_off {pt : Int → Int} {o c v j : Int} {L : List Int} (h : rep (fun k => pt (o + k)) c L) (hj : j < o ∨ o + c ≤ j) : rep (fun k => uz pt j v (o + k)) c L := by
  refine ⟨h.1, fun k hk => ?_⟩
  rw [← h.2 k hk]
  have := h.1
  show (if o + (k : Int) = j then v else pt (o + k)) = pt (o + k)
  rw [if_neg (by omega)]
theorem prt_0 {pt ps : Int → Int} {D C A : List Int} {v j x y : Int} (h : prt pt ps D C A) (hD : (D.length : Int) < 1000) (hj : j = 0 + ps 0) (hx : x = 0) (hy : y = ps 0 + 1) : prt (uz pt j v) (uz ps x y) (D ++ [v]) C A := by
  subst hx hy
  have h1 := h.1.1
  have a0 := rep_at (v := v) h.1 hj
  have a1 := rep_off (v := v) (j := j) h.2.1 (by omega)
  have a2 := rep_off (v := v) (j := j) h.2.2 (by omega)
  exact ⟨a0, a1, a2⟩
theorem prt_1 {pt ps : Int → Int} {D C A : List Int} {v j x y : Int} (h : prt pt ps D C A) (hD : (D.length : Int) < 1000) (hC : (C.length : Int) < 1000) (hj : j = 1000 + ps 1) (hx : x = 1) (hy : y = ps 1 + 1) : prt (uz pt j v) (uz ps x y) D (C ++ [v]) A := by
  subst hx hy
  have h0 := h.1.1
  have h1 := h.2.1.1
  have a0 := rep_off (v := v) (j := j) h.1 (by omega)
  have a1 := rep_at (v := v) h.2.1 hj
  have a2 := rep_off (v := v) (j := j) h.2.2 (by omega)
  exact ⟨a0, a1, a2⟩
theorem prt_2 {pt ps : Int → Int} {D C A : List Int} {v j x y : Int} (h : prt pt ps D C A) (hD : (D.length : Int) < 1000) (hC : (C.length : Int) < 1000) (hA : (A.length : Int) < 1000) (hj : j = 2000 + ps 2) (hx : x = 2) (hy : y = ps 2 + 1) : prt (uz pt j v) (uz ps x y) D C (A ++ [v]) := by
  subst hx hy
  have h0 := h.1.1
  have h1 := h.2.1.1
  have h2 := h.2.2.1
  have a0 := rep_off (v := v) (j := j) h.1 (by omega)
  have a1 := rep_off (v := v) (j := j) h.2.1 (by omega)
  have a2 := rep_at (v := v) h.2.2 hj
  exact ⟨a0, a1, a2⟩
def pcF (ad co md : Int) : Int := if md ≤ 5 ∧ 4 ≤ co ∧ co ≤ 6 ∧ ad ≤ 4 then 163 + 12 * md + 3 * (ad - 1) + co - 4 else if 6 ≤ md ∧ co = 4 ∧ ad ≤ 4 then 235 + 4 * (md - 6) + ad - 1 else -1
theorem tl_hi {nr sm : Int → Int} {N S a here : Int} (h : 2 + N ≤ mdF nr sm N S a here) : lst (tlB nr sm N S a here) (tlW nr sm N S a here).toNat = [a % 256] := by
  unfold tlB tlW
  rw [if_pos h, if_pos h]; rfl
theorem tl_lo {nr sm : Int → Int} {N S a here : Int} (h : ¬ 2 + N ≤ mdF nr sm N S a here) : lst (tlB nr sm N S a here) (tlW nr sm N S a here).toNat = nbL (nbF nr (mdF nr sm N S a here) a here) := by
  unfold tlB tlW
  rw [if_neg h, if_neg h]; rfl
theorem c_Mo_widthOf (E : EV) (f : Nat → va_E) (v : Int) (hv : -2147483648 ≤ v ∧ v < 2147483648) : CF yn_Mo_widthOf cd_Mo_widthOf 1 (some (.int)) 0 E [.int (zI v)] f (fun r f' => r = some (.int (zI (wid v))) ∧ f' = f) := by
  refine CF.of (by decide +kernel) (Nat.le_of_ble_eq_true rfl) fun X hX hE => ?_
  have hX : Ok E X "DeltaFerryModel" "widthOf" cd_Mo_widthOf 1 (some (.int)) (rl 0) := hX
  refine G_cast (lv' := [(0, .int (zI v))]) ?_ rfl rfl rfl rfl
  refine G_iload_n hX 0 rfl rfl d_Mo_widthOf_0 ?_
  refine G_sipush hX (by decide) d_Mo_widthOf_1 ?_
  refine G_icmp_ge_z hX (tgt := 11) d_Mo_widthOf_4 rfl (by omega) (fun c1 => ?_) (fun c2 => ?_)
  · skip
    refine G_iload_n hX 0 rfl rfl d_Mo_widthOf_11 ?_
    refine G_sipush hX (by decide) d_Mo_widthOf_12 ?_
    refine G_icmp_ge_z hX (tgt := 22) d_Mo_widthOf_15 rfl (by omega) (fun c3 => ?_) (fun c4 => ?_)
    · skip
      refine G_iload_n hX 0 rfl rfl d_Mo_widthOf_22 ?_
      refine G_ldcw hX kn_Mo_291 d_Mo_widthOf_23 ?_
      refine G_top (show (2097152 : Int32) = zI (2097152) from by decide) ?_
      refine G_icmp_ge_z hX (tgt := 33) d_Mo_widthOf_26 rfl (by omega) (fun c5 => ?_) (fun c6 => ?_)
      · skip
        refine G_iconst hX d_Mo_widthOf_33 ?_
        exact F_iret hX hE d_Mo_widthOf_34 ⟨by unfold wid; rw [if_neg (by omega), if_neg (by omega), if_neg (by omega)], rfl⟩
      · skip
        refine G_iconst hX d_Mo_widthOf_29 ?_
        refine G_goto hX (tgt := 34) d_Mo_widthOf_30 rfl ?_
        exact F_iret hX hE d_Mo_widthOf_34 ⟨by unfold wid; rw [if_neg (by omega), if_neg (by omega), if_pos (by omega)], rfl⟩
    · skip
      refine G_iconst hX d_Mo_widthOf_18 ?_
      refine G_goto hX (tgt := 34) d_Mo_widthOf_19 rfl ?_
      exact F_iret hX hE d_Mo_widthOf_34 ⟨by unfold wid; rw [if_neg (by omega), if_pos (by omega)], rfl⟩
  · skip
    refine G_iconst hX d_Mo_widthOf_7 ?_
    refine G_goto hX (tgt := 34) d_Mo_widthOf_8 rfl ?_
    exact F_iret hX hE d_Mo_widthOf_34 ⟨by unfold wid; rw [if_pos (by omega)], rfl⟩
theorem c_Mo_write (E : EV) (f : Nat → va_E) (F : Nat → Value) (v : Int) (nd : Int) (dr : Int → Int) (L : List Int) (hMo : f 61 = mob F) (hmk : moK E F) (hF21 : F 21 = .int (zI nd)) (hc75 : f 75 = iz E 3000 dr) (hr : rep dr nd L) (hn : L.length < 3000) : CF yn_Mo_write cd_Mo_write 2 none 0 E [.ref (eA E 61), .int (zI v)] f (fun r f' => r = none ∧ ∃ (F' : Nat → Value) (nd' : Int) (dr' : Int → Int), f' 61 = mob F' ∧ F' 21 = .int (zI nd') ∧ FrF [21] F F' ∧ f' 75 = iz E 3000 dr' ∧ (rep dr' nd' (L ++ [v])) ∧ Fr [75, 61] f f') := by
  refine CF.of (by decide +kernel) (Nat.le_of_ble_eq_true rfl) fun X hX hE => ?_
  have hX : Ok E X "DeltaFerryModel" "write" cd_Mo_write 2 none (rl 0) := hX
  refine G_cast (lv' := [(0, .ref (eA E 61)), (1, .int (zI v))]) ?_ rfl rfl rfl rfl
  have hr1 := hr.1
  refine G_aload_n hX 0 rfl rfl d_Mo_write_0 ?_
  refine M_get hX fg_Mo_121 d_Mo_write_1 hMo (by decide) (hmk 22 75 (by decide)) ?_
  refine G_aload_n hX 0 rfl rfl d_Mo_write_4 ?_
  refine M_get hX fg_Mo_292 d_Mo_write_5 hMo (by decide) hF21 ?_
  refine G_iload_n hX 1 rfl rfl d_Mo_write_8 ?_
  refine F_iast hX d_Mo_write_9 75 (by decide) hc75 (by omega) (fun f1 h2 k3 => ?_)
  refine G_aload_n hX 0 rfl rfl d_Mo_write_10 ?_
  refine G_dup hX rfl d_Mo_write_11 ?_
  have h4 : f1 61 = mob F := (k3 61 (by decide)).trans hMo
  refine M_get hX fg_Mo_292 d_Mo_write_12 h4 (by decide) hF21 ?_
  refine G_iconst hX d_Mo_write_15 ?_
  refine G_iadd_z hX d_Mo_write_16 ?_
  refine M_put hX fg_Mo_292 fp_Mo_21 d_Mo_write_17 h4 rfl rfl (by decide) (fun f5 F6 h7 h8 k9 k10 => ?_)
  have h11 : f5 75 = iz E 3000 (uz dr nd v) := (k10 75 (by decide)).trans h2
  exact F_vret hX hE d_Mo_write_20 ⟨rfl, F6, _, _, h7, h8, (FrF.tr FrF.rf k9 (by decide)), h11, rep_uz hr, (Fr.tr (Fr.tr Fr.rf k3 (by decide)) k10 (by decide))⟩
theorem c_Mo_writeNumber (E : EV) (f : Nat → va_E) (F : Nat → Value) (v : Int) (nd : Int) (dr : Int → Int) (L : List Int) (hMo : f 61 = mob F) (hmk : moK E F) (hF21 : F 21 = .int (zI nd)) (hc75 : f 75 = iz E 3000 dr) (hr : rep dr nd L) (hn : L.length < 2990) (hv : 0 ≤ v ∧ v < 268435456) : CF yn_Mo_writeNumber cd_Mo_writeNumber 3 none 1 E [.ref (eA E 61), .int (zI v)] f (fun r f' => r = none ∧ ∃ (F' : Nat → Value) (nd' : Int) (dr' : Int → Int), f' 61 = mob F' ∧ F' 21 = .int (zI nd') ∧ FrF [21] F F' ∧ f' 75 = iz E 3000 dr' ∧ (rep dr' nd' (L ++ nbL v)) ∧ Fr [75, 61] f f') := by
  refine CF.of (by decide +kernel) (Nat.le_of_ble_eq_true rfl) fun X hX hE => ?_
  have hX : Ok E X "DeltaFerryModel" "writeNumber" cd_Mo_writeNumber 3 none (rl 1) := hX
  refine G_cast (lv' := [(0, .ref (eA E 61)), (1, .int (zI v))]) ?_ rfl rfl rfl rfl
  rcases wid_cases hv with ⟨h0, hw9⟩ | ⟨h0, hw9⟩ | ⟨h0, hw9⟩ | ⟨h0, hw9⟩
  · skip
    refine G_iload_n hX 1 rfl rfl d_Mo_writeNumber_0 ?_
    refine F_callS hX (st := []) (c_Mo_widthOf E f v (by omega)) cm_Mo_widthOf sm_Mo_widthOf ml_Mo_295 d_Mo_writeNumber_1 rfl rfl (Nat.le_of_ble_eq_true rfl) (by decide) ?_
    rintro _ f1 ⟨rfl, e4⟩
    obtain rfl := e4.symm
    refine G_cast (st' := [.int (zI (wid v))]) ?_ rfl rfl rfl rfl
    refine G_top (show zI (wid v) = zI 1 from by rw [hw9]) ?_
    refine G_iconst hX d_Mo_writeNumber_4 ?_
    refine G_isub_z hX d_Mo_writeNumber_5 ?_
    refine G_istore_n hX (lv' := [(2, .int (zI (1 - 1))), (0, .ref (eA E 61)), (1, .int (zI v))]) rfl (by decide) rfl d_Mo_writeNumber_6 ?_
    refine G_iload_n hX 0 rfl rfl d_Mo_writeNumber_7 ?_
    refine G_if_lt_z hX (tgt := 42) d_Mo_writeNumber_8 rfl (by omega) (fun c5 => by exfalso; omega) (fun c6 => ?_)
    refine G_aload_n hX 1 rfl rfl d_Mo_writeNumber_11 ?_
    refine G_iload_n hX 2 rfl rfl d_Mo_writeNumber_12 ?_
    refine G_bipush hX (by decide) d_Mo_writeNumber_13 ?_
    refine G_iload_n hX 0 rfl rfl d_Mo_writeNumber_15 ?_
    refine G_imul_z hX d_Mo_writeNumber_16 ?_
    refine G_ishr hX d_Mo_writeNumber_17 ?_
    refine G_top (show (zI v >>> (zI (7 * (1 - 1)) &&& 31)) = zI v from (zI_shr 0 (by omega) (by decide)).trans (congrArg zI (by omega))) ?_
    refine G_bipush hX (by decide) d_Mo_writeNumber_18 ?_
    refine G_iand hX d_Mo_writeNumber_20 ?_
    refine G_top (show (zI v &&& zI 127) = zI (v % 128) from zI_and127 _) ?_
    refine G_iload_n hX 0 rfl rfl d_Mo_writeNumber_21 ?_
    refine G_if_le_z hX (tgt := 31) d_Mo_writeNumber_22 rfl (by omega) (fun c7 => ?_) (fun c8 => by exfalso; omega)
    refine G_iconst hX d_Mo_writeNumber_31 ?_
    refine G_iadd_z hX d_Mo_writeNumber_32 ?_
    refine G_top (show zI ((v % 128) + 0) = zI (nby v 0) from congrArg zI (nb_10 hw9 (by omega))) ?_
    refine F_callV hX (st := []) (c_Mo_write E f F (nby v 0) nd dr L hMo hmk hF21 hc75 hr (by first | omega | (simp only [List.length_append, List.length_cons, List.length_nil]; omega))) cm_Mo_write im_Mo_write se_Mo_write rfl ml_Mo_298 d_Mo_writeNumber_33 (by decide) hMo rfl rfl (Nat.le_of_ble_eq_true rfl) (by decide) ?_
    rintro _ f9 ⟨rfl, F12, nd'_13, dr'_14, h15, h16, k17, h18, p19, k20⟩
    refine G_cast (st' := []) ?_ rfl rfl rfl rfl
    refine G_iinc_z hX (lv' := [(2, .int (zI ((1 - 1) + (-1)))), (0, .ref (eA E 61)), (1, .int (zI v))]) 0 rfl (by decide) rfl d_Mo_writeNumber_36 ?_
    refine G_goto hX (tgt := 7) d_Mo_writeNumber_39 rfl ?_
    refine G_iload_n hX 0 rfl rfl d_Mo_writeNumber_7 ?_
    refine G_if_lt_z hX (tgt := 42) d_Mo_writeNumber_8 rfl (by omega) (fun c21 => ?_) (fun c22 => by exfalso; omega)
    exact F_vret hX hE d_Mo_writeNumber_42 ⟨rfl, F12, _, _, h15, h16, (FrF.tr FrF.rf k17 (by decide)), h18, (by rw [nbL_1 hw9]; simpa only [List.append_assoc, List.cons_append, List.nil_append] using p19), (Fr.tr Fr.rf k20 (by decide))⟩
  · skip
    refine G_iload_n hX 1 rfl rfl d_Mo_writeNumber_0 ?_
    refine F_callS hX (st := []) (c_Mo_widthOf E f v (by omega)) cm_Mo_widthOf sm_Mo_widthOf ml_Mo_295 d_Mo_writeNumber_1 rfl rfl (Nat.le_of_ble_eq_true rfl) (by decide) ?_
    rintro _ f23 ⟨rfl, e26⟩
    obtain rfl := e26.symm
    refine G_cast (st' := [.int (zI (wid v))]) ?_ rfl rfl rfl rfl
    refine G_top (show zI (wid v) = zI 2 from by rw [hw9]) ?_
    refine G_iconst hX d_Mo_writeNumber_4 ?_
    refine G_isub_z hX d_Mo_writeNumber_5 ?_
    refine G_istore_n hX (lv' := [(2, .int (zI (2 - 1))), (0, .ref (eA E 61)), (1, .int (zI v))]) rfl (by decide) rfl d_Mo_writeNumber_6 ?_
    refine G_iload_n hX 0 rfl rfl d_Mo_writeNumber_7 ?_
    refine G_if_lt_z hX (tgt := 42) d_Mo_writeNumber_8 rfl (by omega) (fun c27 => by exfalso; omega) (fun c28 => ?_)
    refine G_aload_n hX 1 rfl rfl d_Mo_writeNumber_11 ?_
    refine G_iload_n hX 2 rfl rfl d_Mo_writeNumber_12 ?_
    refine G_bipush hX (by decide) d_Mo_writeNumber_13 ?_
    refine G_iload_n hX 0 rfl rfl d_Mo_writeNumber_15 ?_
    refine G_imul_z hX d_Mo_writeNumber_16 ?_
    refine G_ishr hX d_Mo_writeNumber_17 ?_
    refine G_top (show (zI v >>> (zI (7 * (2 - 1)) &&& 31)) = zI (v / 128) from zI_shr 7 (by omega) (by decide)) ?_
    refine G_bipush hX (by decide) d_Mo_writeNumber_18 ?_
    refine G_iand hX d_Mo_writeNumber_20 ?_
    refine G_top (show (zI (v / 128) &&& zI 127) = zI (v / 128 % 128) from zI_and127 _) ?_
    refine G_iload_n hX 0 rfl rfl d_Mo_writeNumber_21 ?_
    refine G_if_le_z hX (tgt := 31) d_Mo_writeNumber_22 rfl (by omega) (fun c29 => by exfalso; omega) (fun c30 => ?_)
    refine G_sipush hX (by decide) d_Mo_writeNumber_25 ?_
    refine G_goto hX (tgt := 32) d_Mo_writeNumber_28 rfl ?_
    refine G_iadd_z hX d_Mo_writeNumber_32 ?_
    refine G_top (show zI ((v / 128 % 128) + 128) = zI (nby v 0) from congrArg zI (nb_20 hw9 (by omega))) ?_
    refine F_callV hX (st := []) (c_Mo_write E f F (nby v 0) nd dr L hMo hmk hF21 hc75 hr (by first | omega | (simp only [List.length_append, List.length_cons, List.length_nil]; omega))) cm_Mo_write im_Mo_write se_Mo_write rfl ml_Mo_298 d_Mo_writeNumber_33 (by decide) hMo rfl rfl (Nat.le_of_ble_eq_true rfl) (by decide) ?_
    rintro _ f31 ⟨rfl, F34, nd'_35, dr'_36, h37, h38, k39, h40, p41, k42⟩
    refine G_cast (st' := []) ?_ rfl rfl rfl rfl
    refine G_iinc_z hX (lv' := [(2, .int (zI ((2 - 1) + (-1)))), (0, .ref (eA E 61)), (1, .int (zI v))]) 0 rfl (by decide) rfl d_Mo_writeNumber_36 ?_
    refine G_goto hX (tgt := 7) d_Mo_writeNumber_39 rfl ?_
    refine G_iload_n hX 0 rfl rfl d_Mo_writeNumber_7 ?_
    refine G_if_lt_z hX (tgt := 42) d_Mo_writeNumber_8 rfl (by omega) (fun c43 => by exfalso; omega) (fun c44 => ?_)
    refine G_aload_n hX 1 rfl rfl d_Mo_writeNumber_11 ?_
    refine G_iload_n hX 2 rfl rfl d_Mo_writeNumber_12 ?_
    refine G_bipush hX (by decide) d_Mo_writeNumber_13 ?_
    refine G_iload_n hX 0 rfl rfl d_Mo_writeNumber_15 ?_
    refine G_imul_z hX d_Mo_writeNumber_16 ?_
    refine G_ishr hX d_Mo_writeNumber_17 ?_
    refine G_top (show (zI v >>> (zI (7 * ((2 - 1) + (-1))) &&& 31)) = zI v from (zI_shr 0 (by omega) (by decide)).trans (congrArg zI (by omega))) ?_
    refine G_bipush hX (by decide) d_Mo_writeNumber_18 ?_
    refine G_iand hX d_Mo_writeNumber_20 ?_
    refine G_top (show (zI v &&& zI 127) = zI (v % 128) from zI_and127 _) ?_
    refine G_iload_n hX 0 rfl rfl d_Mo_writeNumber_21 ?_
    refine G_if_le_z hX (tgt := 31) d_Mo_writeNumber_22 rfl (by omega) (fun c45 => ?_) (fun c46 => by exfalso; omega)
    refine G_iconst hX d_Mo_writeNumber_31 ?_
    refine G_iadd_z hX d_Mo_writeNumber_32 ?_
    refine G_top (show zI ((v % 128) + 0) = zI (nby v 1) from congrArg zI (nb_21 hw9)) ?_
    refine F_callV hX (st := []) (c_Mo_write E f31 F34 (nby v 1) nd'_35 dr'_36 (L ++ [nby v 0]) h37 (moK_fr hmk (FrF.tr (FrF.rf (S := [21])) k39 (by decide)) (by decide)) h38 h40 p41 (by first | omega | (simp only [List.length_append, List.length_cons, List.length_nil]; omega))) cm_Mo_write im_Mo_write se_Mo_write rfl ml_Mo_298 d_Mo_writeNumber_33 (by decide) h37 rfl rfl (Nat.le_of_ble_eq_true rfl) (by decide) ?_
    rintro _ f47 ⟨rfl, F50, nd'_51, dr'_52, h53, h54, k55, h56, p57, k58⟩
    refine G_cast (st' := []) ?_ rfl rfl rfl rfl
    refine G_iinc_z hX (lv' := [(2, .int (zI (((2 - 1) + (-1)) + (-1)))), (0, .ref (eA E 61)), (1, .int (zI v))]) 0 rfl (by decide) rfl d_Mo_writeNumber_36 ?_
    refine G_goto hX (tgt := 7) d_Mo_writeNumber_39 rfl ?_
    refine G_iload_n hX 0 rfl rfl d_Mo_writeNumber_7 ?_
    refine G_if_lt_z hX (tgt := 42) d_Mo_writeNumber_8 rfl (by omega) (fun c59 => ?_) (fun c60 => by exfalso; omega)
    exact F_vret hX hE d_Mo_writeNumber_42 ⟨rfl, F50, _, _, h53, h54, (FrF.tr (FrF.tr FrF.rf k39 (by decide)) k55 (by decide)), h56, (by rw [nbL_2 hw9]; simpa only [List.append_assoc, List.cons_append, List.nil_append] using p57), (Fr.tr (Fr.tr Fr.rf k42 (by decide)) k58 (by decide))⟩
  · skip
    refine G_iload_n hX 1 rfl rfl d_Mo_writeNumber_0 ?_
    refine F_callS hX (st := []) (c_Mo_widthOf E f v (by omega)) cm_Mo_widthOf sm_Mo_widthOf ml_Mo_295 d_Mo_writeNumber_1 rfl rfl (Nat.le_of_ble_eq_true rfl) (by decide) ?_
    rintro _ f61 ⟨rfl, e64⟩
    obtain rfl := e64.symm
    refine G_cast (st' := [.int (zI (wid v))]) ?_ rfl rfl rfl rfl
    refine G_top (show zI (wid v) = zI 3 from by rw [hw9]) ?_
    refine G_iconst hX d_Mo_writeNumber_4 ?_
    refine G_isub_z hX d_Mo_writeNumber_5 ?_
    refine G_istore_n hX (lv' := [(2, .int (zI (3 - 1))), (0, .ref (eA E 61)), (1, .int (zI v))]) rfl (by decide) rfl d_Mo_writeNumber_6 ?_
    refine G_iload_n hX 0 rfl rfl d_Mo_writeNumber_7 ?_
    refine G_if_lt_z hX (tgt := 42) d_Mo_writeNumber_8 rfl (by omega) (fun c65 => by exfalso; omega) (fun c66 => ?_)
    refine G_aload_n hX 1 rfl rfl d_Mo_writeNumber_11 ?_
    refine G_iload_n hX 2 rfl rfl d_Mo_writeNumber_12 ?_
    refine G_bipush hX (by decide) d_Mo_writeNumber_13 ?_
    refine G_iload_n hX 0 rfl rfl d_Mo_writeNumber_15 ?_
    refine G_imul_z hX d_Mo_writeNumber_16 ?_
    refine G_ishr hX d_Mo_writeNumber_17 ?_
    refine G_top (show (zI v >>> (zI (7 * (3 - 1)) &&& 31)) = zI (v / 16384) from zI_shr 14 (by omega) (by decide)) ?_
    refine G_bipush hX (by decide) d_Mo_writeNumber_18 ?_
    refine G_iand hX d_Mo_writeNumber_20 ?_
    refine G_top (show (zI (v / 16384) &&& zI 127) = zI (v / 16384 % 128) from zI_and127 _) ?_
    refine G_iload_n hX 0 rfl rfl d_Mo_writeNumber_21 ?_
    refine G_if_le_z hX (tgt := 31) d_Mo_writeNumber_22 rfl (by omega) (fun c67 => by exfalso; omega) (fun c68 => ?_)
    refine G_sipush hX (by decide) d_Mo_writeNumber_25 ?_
    refine G_goto hX (tgt := 32) d_Mo_writeNumber_28 rfl ?_
    refine G_iadd_z hX d_Mo_writeNumber_32 ?_
    refine G_top (show zI ((v / 16384 % 128) + 128) = zI (nby v 0) from congrArg zI (nb_30 hw9 (by omega))) ?_
    refine F_callV hX (st := []) (c_Mo_write E f F (nby v 0) nd dr L hMo hmk hF21 hc75 hr (by first | omega | (simp only [List.length_append, List.length_cons, List.length_nil]; omega))) cm_Mo_write im_Mo_write se_Mo_write rfl ml_Mo_298 d_Mo_writeNumber_33 (by decide) hMo rfl rfl (Nat.le_of_ble_eq_true rfl) (by decide) ?_
    rintro _ f69 ⟨rfl, F72, nd'_73, dr'_74, h75, h76, k77, h78, p79, k80⟩
    refine G_cast (st' := []) ?_ rfl rfl rfl rfl
    refine G_iinc_z hX (lv' := [(2, .int (zI ((3 - 1) + (-1)))), (0, .ref (eA E 61)), (1, .int (zI v))]) 0 rfl (by decide) rfl d_Mo_writeNumber_36 ?_
    refine G_goto hX (tgt := 7) d_Mo_writeNumber_39 rfl ?_
    refine G_iload_n hX 0 rfl rfl d_Mo_writeNumber_7 ?_
    refine G_if_lt_z hX (tgt := 42) d_Mo_writeNumber_8 rfl (by omega) (fun c81 => by exfalso; omega) (fun c82 => ?_)
    refine G_aload_n hX 1 rfl rfl d_Mo_writeNumber_11 ?_
    refine G_iload_n hX 2 rfl rfl d_Mo_writeNumber_12 ?_
    refine G_bipush hX (by decide) d_Mo_writeNumber_13 ?_
    refine G_iload_n hX 0 rfl rfl d_Mo_writeNumber_15 ?_
    refine G_imul_z hX d_Mo_writeNumber_16 ?_
    refine G_ishr hX d_Mo_writeNumber_17 ?_
    refine G_top (show (zI v >>> (zI (7 * ((3 - 1) + (-1))) &&& 31)) = zI (v / 128) from zI_shr 7 (by omega) (by decide)) ?_
    refine G_bipush hX (by decide) d_Mo_writeNumber_18 ?_
    refine G_iand hX d_Mo_writeNumber_20 ?_
    refine G_top (show (zI (v / 128) &&& zI 127) = zI (v / 128 % 128) from zI_and127 _) ?_
    refine G_iload_n hX 0 rfl rfl d_Mo_writeNumber_21 ?_
    refine G_if_le_z hX (tgt := 31) d_Mo_writeNumber_22 rfl (by omega) (fun c83 => by exfalso; omega) (fun c84 => ?_)
    refine G_sipush hX (by decide) d_Mo_writeNumber_25 ?_
    refine G_goto hX (tgt := 32) d_Mo_writeNumber_28 rfl ?_
    refine G_iadd_z hX d_Mo_writeNumber_32 ?_
    refine G_top (show zI ((v / 128 % 128) + 128) = zI (nby v 1) from congrArg zI (nb_31 hw9)) ?_
    refine F_callV hX (st := []) (c_Mo_write E f69 F72 (nby v 1) nd'_73 dr'_74 (L ++ [nby v 0]) h75 (moK_fr hmk (FrF.tr (FrF.rf (S := [21])) k77 (by decide)) (by decide)) h76 h78 p79 (by first | omega | (simp only [List.length_append, List.length_cons, List.length_nil]; omega))) cm_Mo_write im_Mo_write se_Mo_write rfl ml_Mo_298 d_Mo_writeNumber_33 (by decide) h75 rfl rfl (Nat.le_of_ble_eq_true rfl) (by decide) ?_
    rintro _ f85 ⟨rfl, F88, nd'_89, dr'_90, h91, h92, k93, h94, p95, k96⟩
    refine G_cast (st' := []) ?_ rfl rfl rfl rfl
    refine G_iinc_z hX (lv' := [(2, .int (zI (((3 - 1) + (-1)) + (-1)))), (0, .ref (eA E 61)), (1, .int (zI v))]) 0 rfl (by decide) rfl d_Mo_writeNumber_36 ?_
    refine G_goto hX (tgt := 7) d_Mo_writeNumber_39 rfl ?_
    refine G_iload_n hX 0 rfl rfl d_Mo_writeNumber_7 ?_
    refine G_if_lt_z hX (tgt := 42) d_Mo_writeNumber_8 rfl (by omega) (fun c97 => by exfalso; omega) (fun c98 => ?_)
    refine G_aload_n hX 1 rfl rfl d_Mo_writeNumber_11 ?_
    refine G_iload_n hX 2 rfl rfl d_Mo_writeNumber_12 ?_
    refine G_bipush hX (by decide) d_Mo_writeNumber_13 ?_
    refine G_iload_n hX 0 rfl rfl d_Mo_writeNumber_15 ?_
    refine G_imul_z hX d_Mo_writeNumber_16 ?_
    refine G_ishr hX d_Mo_writeNumber_17 ?_
    refine G_top (show (zI v >>> (zI (7 * (((3 - 1) + (-1)) + (-1))) &&& 31)) = zI v from (zI_shr 0 (by omega) (by decide)).trans (congrArg zI (by omega))) ?_
    refine G_bipush hX (by decide) d_Mo_writeNumber_18 ?_
    refine G_iand hX d_Mo_writeNumber_20 ?_
    refine G_top (show (zI v &&& zI 127) = zI (v % 128) from zI_and127 _) ?_
    refine G_iload_n hX 0 rfl rfl d_Mo_writeNumber_21 ?_
    refine G_if_le_z hX (tgt := 31) d_Mo_writeNumber_22 rfl (by omega) (fun c99 => ?_) (fun c100 => by exfalso; omega)
    refine G_iconst hX d_Mo_writeNumber_31 ?_
    refine G_iadd_z hX d_Mo_writeNumber_32 ?_
    refine G_top (show zI ((v % 128) + 0) = zI (nby v 2) from congrArg zI (nb_32 hw9)) ?_
    refine F_callV hX (st := []) (c_Mo_write E f85 F88 (nby v 2) nd'_89 dr'_90 ((L ++ [nby v 0]) ++ [nby v 1]) h91 (moK_fr hmk (FrF.tr (FrF.tr (FrF.rf (S := [21])) k77 (by decide)) k93 (by decide)) (by decide)) h92 h94 p95 (by first | omega | (simp only [List.length_append, List.length_cons, List.length_nil]; omega))) cm_Mo_write im_Mo_write se_Mo_write rfl ml_Mo_298 d_Mo_writeNumber_33 (by decide) h91 rfl rfl (Nat.le_of_ble_eq_true rfl) (by decide) ?_
    rintro _ f101 ⟨rfl, F104, nd'_105, dr'_106, h107, h108, k109, h110, p111, k112⟩
    refine G_cast (st' := []) ?_ rfl rfl rfl rfl
    refine G_iinc_z hX (lv' := [(2, .int (zI ((((3 - 1) + (-1)) + (-1)) + (-1)))), (0, .ref (eA E 61)), (1, .int (zI v))]) 0 rfl (by decide) rfl d_Mo_writeNumber_36 ?_
    refine G_goto hX (tgt := 7) d_Mo_writeNumber_39 rfl ?_
    refine G_iload_n hX 0 rfl rfl d_Mo_writeNumber_7 ?_
    refine G_if_lt_z hX (tgt := 42) d_Mo_writeNumber_8 rfl (by omega) (fun c113 => ?_) (fun c114 => by exfalso; omega)
    exact F_vret hX hE d_Mo_writeNumber_42 ⟨rfl, F104, _, _, h107, h108, (FrF.tr (FrF.tr (FrF.tr FrF.rf k77 (by decide)) k93 (by decide)) k109 (by decide)), h110, (by rw [nbL_3 hw9]; simpa only [List.append_assoc, List.cons_append, List.nil_append] using p111), (Fr.tr (Fr.tr (Fr.tr Fr.rf k80 (by decide)) k96 (by decide)) k112 (by decide))⟩
  · skip
    refine G_iload_n hX 1 rfl rfl d_Mo_writeNumber_0 ?_
    refine F_callS hX (st := []) (c_Mo_widthOf E f v (by omega)) cm_Mo_widthOf sm_Mo_widthOf ml_Mo_295 d_Mo_writeNumber_1 rfl rfl (Nat.le_of_ble_eq_true rfl) (by decide) ?_
    rintro _ f115 ⟨rfl, e118⟩
    obtain rfl := e118.symm
    refine G_cast (st' := [.int (zI (wid v))]) ?_ rfl rfl rfl rfl
    refine G_top (show zI (wid v) = zI 4 from by rw [hw9]) ?_
    refine G_iconst hX d_Mo_writeNumber_4 ?_
    refine G_isub_z hX d_Mo_writeNumber_5 ?_
    refine G_istore_n hX (lv' := [(2, .int (zI (4 - 1))), (0, .ref (eA E 61)), (1, .int (zI v))]) rfl (by decide) rfl d_Mo_writeNumber_6 ?_
    refine G_iload_n hX 0 rfl rfl d_Mo_writeNumber_7 ?_
    refine G_if_lt_z hX (tgt := 42) d_Mo_writeNumber_8 rfl (by omega) (fun c119 => by exfalso; omega) (fun c120 => ?_)
    refine G_aload_n hX 1 rfl rfl d_Mo_writeNumber_11 ?_
    refine G_iload_n hX 2 rfl rfl d_Mo_writeNumber_12 ?_
    refine G_bipush hX (by decide) d_Mo_writeNumber_13 ?_
    refine G_iload_n hX 0 rfl rfl d_Mo_writeNumber_15 ?_
    refine G_imul_z hX d_Mo_writeNumber_16 ?_
    refine G_ishr hX d_Mo_writeNumber_17 ?_
    refine G_top (show (zI v >>> (zI (7 * (4 - 1)) &&& 31)) = zI (v / 2097152) from zI_shr 21 (by omega) (by decide)) ?_
    refine G_bipush hX (by decide) d_Mo_writeNumber_18 ?_
    refine G_iand hX d_Mo_writeNumber_20 ?_
    refine G_top (show (zI (v / 2097152) &&& zI 127) = zI (v / 2097152 % 128) from zI_and127 _) ?_
    refine G_iload_n hX 0 rfl rfl d_Mo_writeNumber_21 ?_
    refine G_if_le_z hX (tgt := 31) d_Mo_writeNumber_22 rfl (by omega) (fun c121 => by exfalso; omega) (fun c122 => ?_)
    refine G_sipush hX (by decide) d_Mo_writeNumber_25 ?_
    refine G_goto hX (tgt := 32) d_Mo_writeNumber_28 rfl ?_
    refine G_iadd_z hX d_Mo_writeNumber_32 ?_
    refine G_top (show zI ((v / 2097152 % 128) + 128) = zI (nby v 0) from congrArg zI (nb_40 hw9 (by omega))) ?_
    refine F_callV hX (st := []) (c_Mo_write E f F (nby v 0) nd dr L hMo hmk hF21 hc75 hr (by first | omega | (simp only [List.length_append, List.length_cons, List.length_nil]; omega))) cm_Mo_write im_Mo_write se_Mo_write rfl ml_Mo_298 d_Mo_writeNumber_33 (by decide) hMo rfl rfl (Nat.le_of_ble_eq_true rfl) (by decide) ?_
    rintro _ f123 ⟨rfl, F126, nd'_127, dr'_128, h129, h130, k131, h132, p133, k134⟩
    refine G_cast (st' := []) ?_ rfl rfl rfl rfl
    refine G_iinc_z hX (lv' := [(2, .int (zI ((4 - 1) + (-1)))), (0, .ref (eA E 61)), (1, .int (zI v))]) 0 rfl (by decide) rfl d_Mo_writeNumber_36 ?_
    refine G_goto hX (tgt := 7) d_Mo_writeNumber_39 rfl ?_
    refine G_iload_n hX 0 rfl rfl d_Mo_writeNumber_7 ?_
    refine G_if_lt_z hX (tgt := 42) d_Mo_writeNumber_8 rfl (by omega) (fun c135 => by exfalso; omega) (fun c136 => ?_)
    refine G_aload_n hX 1 rfl rfl d_Mo_writeNumber_11 ?_
    refine G_iload_n hX 2 rfl rfl d_Mo_writeNumber_12 ?_
    refine G_bipush hX (by decide) d_Mo_writeNumber_13 ?_
    refine G_iload_n hX 0 rfl rfl d_Mo_writeNumber_15 ?_
    refine G_imul_z hX d_Mo_writeNumber_16 ?_
    refine G_ishr hX d_Mo_writeNumber_17 ?_
    refine G_top (show (zI v >>> (zI (7 * ((4 - 1) + (-1))) &&& 31)) = zI (v / 16384) from zI_shr 14 (by omega) (by decide)) ?_
    refine G_bipush hX (by decide) d_Mo_writeNumber_18 ?_
    refine G_iand hX d_Mo_writeNumber_20 ?_
    refine G_top (show (zI (v / 16384) &&& zI 127) = zI (v / 16384 % 128) from zI_and127 _) ?_
    refine G_iload_n hX 0 rfl rfl d_Mo_writeNumber_21 ?_
    refine G_if_le_z hX (tgt := 31) d_Mo_writeNumber_22 rfl (by omega) (fun c137 => by exfalso; omega) (fun c138 => ?_)
    refine G_sipush hX (by decide) d_Mo_writeNumber_25 ?_
    refine G_goto hX (tgt := 32) d_Mo_writeNumber_28 rfl ?_
    refine G_iadd_z hX d_Mo_writeNumber_32 ?_
    refine G_top (show zI ((v / 16384 % 128) + 128) = zI (nby v 1) from congrArg zI (nb_41 hw9)) ?_
    refine F_callV hX (st := []) (c_Mo_write E f123 F126 (nby v 1) nd'_127 dr'_128 (L ++ [nby v 0]) h129 (moK_fr hmk (FrF.tr (FrF.rf (S := [21])) k131 (by decide)) (by decide)) h130 h132 p133 (by first | omega | (simp only [List.length_append, List.length_cons, List.length_nil]; omega))) cm_Mo_write im_Mo_write se_Mo_write rfl ml_Mo_298 d_Mo_writeNumber_33 (by decide) h129 rfl rfl (Nat.le_of_ble_eq_true rfl) (by decide) ?_
    rintro _ f139 ⟨rfl, F142, nd'_143, dr'_144, h145, h146, k147, h148, p149, k150⟩
    refine G_cast (st' := []) ?_ rfl rfl rfl rfl
    refine G_iinc_z hX (lv' := [(2, .int (zI (((4 - 1) + (-1)) + (-1)))), (0, .ref (eA E 61)), (1, .int (zI v))]) 0 rfl (by decide) rfl d_Mo_writeNumber_36 ?_
    refine G_goto hX (tgt := 7) d_Mo_writeNumber_39 rfl ?_
    refine G_iload_n hX 0 rfl rfl d_Mo_writeNumber_7 ?_
    refine G_if_lt_z hX (tgt := 42) d_Mo_writeNumber_8 rfl (by omega) (fun c151 => by exfalso; omega) (fun c152 => ?_)
    refine G_aload_n hX 1 rfl rfl d_Mo_writeNumber_11 ?_
    refine G_iload_n hX 2 rfl rfl d_Mo_writeNumber_12 ?_
    refine G_bipush hX (by decide) d_Mo_writeNumber_13 ?_
    refine G_iload_n hX 0 rfl rfl d_Mo_writeNumber_15 ?_
    refine G_imul_z hX d_Mo_writeNumber_16 ?_
    refine G_ishr hX d_Mo_writeNumber_17 ?_
    refine G_top (show (zI v >>> (zI (7 * (((4 - 1) + (-1)) + (-1))) &&& 31)) = zI (v / 128) from zI_shr 7 (by omega) (by decide)) ?_
    refine G_bipush hX (by decide) d_Mo_writeNumber_18 ?_
    refine G_iand hX d_Mo_writeNumber_20 ?_
    refine G_top (show (zI (v / 128) &&& zI 127) = zI (v / 128 % 128) from zI_and127 _) ?_
    refine G_iload_n hX 0 rfl rfl d_Mo_writeNumber_21 ?_
    refine G_if_le_z hX (tgt := 31) d_Mo_writeNumber_22 rfl (by omega) (fun c153 => by exfalso; omega) (fun c154 => ?_)
    refine G_sipush hX (by decide) d_Mo_writeNumber_25 ?_
    refine G_goto hX (tgt := 32) d_Mo_writeNumber_28 rfl ?_
    refine G_iadd_z hX d_Mo_writeNumber_32 ?_
    refine G_top (show zI ((v / 128 % 128) + 128) = zI (nby v 2) from congrArg zI (nb_42 hw9)) ?_
    refine F_callV hX (st := []) (c_Mo_write E f139 F142 (nby v 2) nd'_143 dr'_144 ((L ++ [nby v 0]) ++ [nby v 1]) h145 (moK_fr hmk (FrF.tr (FrF.tr (FrF.rf (S := [21])) k131 (by decide)) k147 (by decide)) (by decide)) h146 h148 p149 (by first | omega | (simp only [List.length_append, List.length_cons, List.length_nil]; omega))) cm_Mo_write im_Mo_write se_Mo_write rfl ml_Mo_298 d_Mo_writeNumber_33 (by decide) h145 rfl rfl (Nat.le_of_ble_eq_true rfl) (by decide) ?_
    rintro _ f155 ⟨rfl, F158, nd'_159, dr'_160, h161, h162, k163, h164, p165, k166⟩
    refine G_cast (st' := []) ?_ rfl rfl rfl rfl
    refine G_iinc_z hX (lv' := [(2, .int (zI ((((4 - 1) + (-1)) + (-1)) + (-1)))), (0, .ref (eA E 61)), (1, .int (zI v))]) 0 rfl (by decide) rfl d_Mo_writeNumber_36 ?_
    refine G_goto hX (tgt := 7) d_Mo_writeNumber_39 rfl ?_
    refine G_iload_n hX 0 rfl rfl d_Mo_writeNumber_7 ?_
    refine G_if_lt_z hX (tgt := 42) d_Mo_writeNumber_8 rfl (by omega) (fun c167 => by exfalso; omega) (fun c168 => ?_)
    refine G_aload_n hX 1 rfl rfl d_Mo_writeNumber_11 ?_
    refine G_iload_n hX 2 rfl rfl d_Mo_writeNumber_12 ?_
    refine G_bipush hX (by decide) d_Mo_writeNumber_13 ?_
    refine G_iload_n hX 0 rfl rfl d_Mo_writeNumber_15 ?_
    refine G_imul_z hX d_Mo_writeNumber_16 ?_
    refine G_ishr hX d_Mo_writeNumber_17 ?_
    refine G_top (show (zI v >>> (zI (7 * ((((4 - 1) + (-1)) + (-1)) + (-1))) &&& 31)) = zI v from (zI_shr 0 (by omega) (by decide)).trans (congrArg zI (by omega))) ?_
    refine G_bipush hX (by decide) d_Mo_writeNumber_18 ?_
    refine G_iand hX d_Mo_writeNumber_20 ?_
    refine G_top (show (zI v &&& zI 127) = zI (v % 128) from zI_and127 _) ?_
    refine G_iload_n hX 0 rfl rfl d_Mo_writeNumber_21 ?_
    refine G_if_le_z hX (tgt := 31) d_Mo_writeNumber_22 rfl (by omega) (fun c169 => ?_) (fun c170 => by exfalso; omega)
    refine G_iconst hX d_Mo_writeNumber_31 ?_
    refine G_iadd_z hX d_Mo_writeNumber_32 ?_
    refine G_top (show zI ((v % 128) + 0) = zI (nby v 3) from congrArg zI (nb_43 hw9)) ?_
    refine F_callV hX (st := []) (c_Mo_write E f155 F158 (nby v 3) nd'_159 dr'_160 (((L ++ [nby v 0]) ++ [nby v 1]) ++ [nby v 2]) h161 (moK_fr hmk (FrF.tr (FrF.tr (FrF.tr (FrF.rf (S := [21])) k131 (by decide)) k147 (by decide)) k163 (by decide)) (by decide)) h162 h164 p165 (by first | omega | (simp only [List.length_append, List.length_cons, List.length_nil]; omega))) cm_Mo_write im_Mo_write se_Mo_write rfl ml_Mo_298 d_Mo_writeNumber_33 (by decide) h161 rfl rfl (Nat.le_of_ble_eq_true rfl) (by decide) ?_
    rintro _ f171 ⟨rfl, F174, nd'_175, dr'_176, h177, h178, k179, h180, p181, k182⟩
    refine G_cast (st' := []) ?_ rfl rfl rfl rfl
    refine G_iinc_z hX (lv' := [(2, .int (zI (((((4 - 1) + (-1)) + (-1)) + (-1)) + (-1)))), (0, .ref (eA E 61)), (1, .int (zI v))]) 0 rfl (by decide) rfl d_Mo_writeNumber_36 ?_
    refine G_goto hX (tgt := 7) d_Mo_writeNumber_39 rfl ?_
    refine G_iload_n hX 0 rfl rfl d_Mo_writeNumber_7 ?_
    refine G_if_lt_z hX (tgt := 42) d_Mo_writeNumber_8 rfl (by omega) (fun c183 => ?_) (fun c184 => by exfalso; omega)
    exact F_vret hX hE d_Mo_writeNumber_42 ⟨rfl, F174, _, _, h177, h178, (FrF.tr (FrF.tr (FrF.tr (FrF.tr FrF.rf k131 (by decide)) k147 (by decide)) k163 (by decide)) k179 (by decide)), h180, (by rw [nbL_4 hw9]; simpa only [List.append_assoc, List.cons_append, List.nil_append] using p181), (Fr.tr (Fr.tr (Fr.tr (Fr.tr Fr.rf k134 (by decide)) k150 (by decide)) k166 (by decide)) k182 (by decide))⟩
theorem c_Mo_lay0 (E : EV) (f : Nat → va_E) (F : Nat → Value) (v : Int) (pt : Int → Int) (ps : Int → Int) (D : List Int) (C : List Int) (A : List Int) (hMo : f 61 = mob F) (hmk : moK E F) (hc76 : f 76 = iz E 3 ps) (hc77 : f 77 = iz E 3000 pt) (hr : prt pt ps D C A) (hn : (D.length : Int) < 999 ∧ (C.length : Int) < 999 ∧ (A.length : Int) < 999) : CF yn_Mo_lay cd_Mo_lay 3 none 0 E [.ref (eA E 61), .int (zI 0), .int (zI v)] f (fun r f' => r = none ∧ ∃ (pt' : Int → Int) (ps' : Int → Int), f' 76 = iz E 3 ps' ∧ f' 77 = iz E 3000 pt' ∧ (prt pt' ps' (D ++ [v]) C A) ∧ Fr [76, 77] f f') := by
  refine CF.of (by decide +kernel) (Nat.le_of_ble_eq_true rfl) fun X hX hE => ?_
  have hX : Ok E X "DeltaFerryModel" "lay" cd_Mo_lay 3 none (rl 0) := hX
  refine G_cast (lv' := [(0, .ref (eA E 61)), (1, .int (zI 0)), (2, .int (zI v))]) ?_ rfl rfl rfl rfl
  have hr0 := hr.1.1
  have hr1 := hr.2.1.1
  have hr2 := hr.2.2.1
  refine G_aload_n hX 0 rfl rfl d_Mo_lay_0 ?_
  refine M_get hX fg_Mo_127 d_Mo_lay_1 hMo (by decide) (hmk 24 77 (by decide)) ?_
  refine G_sipush hX (by decide) d_Mo_lay_4 ?_
  refine G_iload_n hX 1 rfl rfl d_Mo_lay_7 ?_
  refine G_imul_z hX d_Mo_lay_8 ?_
  refine G_aload_n hX 0 rfl rfl d_Mo_lay_9 ?_
  refine M_get hX fg_Mo_124 d_Mo_lay_10 hMo (by decide) (hmk 23 76 (by decide)) ?_
  refine G_iload_n hX 1 rfl rfl d_Mo_lay_13 ?_
  refine F_iald hX d_Mo_lay_14 76 (by decide) hc76 (by omega) ?_
  refine G_iadd_z hX d_Mo_lay_15 ?_
  refine G_iload_n hX 2 rfl rfl d_Mo_lay_16 ?_
  refine F_iast hX d_Mo_lay_17 77 (by decide) hc77 (by omega) (fun f1 h2 k3 => ?_)
  refine G_aload_n hX 0 rfl rfl d_Mo_lay_18 ?_
  have h4 : f1 61 = mob F := (k3 61 (by decide)).trans hMo
  refine M_get hX fg_Mo_124 d_Mo_lay_19 h4 (by decide) (hmk 23 76 (by decide)) ?_
  refine G_iload_n hX 1 rfl rfl d_Mo_lay_22 ?_
  refine G_dup2 hX rfl rfl d_Mo_lay_23 ?_
  have h5 : f1 76 = iz E 3 ps := (k3 76 (by decide)).trans hc76
  refine F_iald hX d_Mo_lay_24 76 (by decide) h5 (by omega) ?_
  refine G_iconst hX d_Mo_lay_25 ?_
  refine G_iadd_z hX d_Mo_lay_26 ?_
  refine F_iast hX d_Mo_lay_27 76 (by decide) h5 (by omega) (fun f6 h7 k8 => ?_)
  have h9 : f6 77 = iz E 3000 (uz pt ((1000 * 0) + (ps 0)) v) := (k8 77 (by decide)).trans h2
  exact F_vret hX hE d_Mo_lay_28 ⟨rfl, _, _, h7, h9, prt_0 hr (by omega) (by omega) rfl rfl, (Fr.tr (Fr.tr Fr.rf k3 (by decide)) k8 (by decide))⟩
theorem c_Mo_lay1 (E : EV) (f : Nat → va_E) (F : Nat → Value) (v : Int) (pt : Int → Int) (ps : Int → Int) (D : List Int) (C : List Int) (A : List Int) (hMo : f 61 = mob F) (hmk : moK E F) (hc76 : f 76 = iz E 3 ps) (hc77 : f 77 = iz E 3000 pt) (hr : prt pt ps D C A) (hn : (D.length : Int) < 999 ∧ (C.length : Int) < 999 ∧ (A.length : Int) < 999) : CF yn_Mo_lay cd_Mo_lay 3 none 0 E [.ref (eA E 61), .int (zI 1), .int (zI v)] f (fun r f' => r = none ∧ ∃ (pt' : Int → Int) (ps' : Int → Int), f' 76 = iz E 3 ps' ∧ f' 77 = iz E 3000 pt' ∧ (prt pt' ps' D (C ++ [v]) A) ∧ Fr [76, 77] f f') := by
  refine CF.of (by decide +kernel) (Nat.le_of_ble_eq_true rfl) fun X hX hE => ?_
  have hX : Ok E X "DeltaFerryModel" "lay" cd_Mo_lay 3 none (rl 0) := hX
  refine G_cast (lv' := [(0, .ref (eA E 61)), (1, .int (zI 1)), (2, .int (zI v))]) ?_ rfl rfl rfl rfl
  have hr0 := hr.1.1
  have hr1 := hr.2.1.1
  have hr2 := hr.2.2.1
  refine G_aload_n hX 0 rfl rfl d_Mo_lay_0 ?_
  refine M_get hX fg_Mo_127 d_Mo_lay_1 hMo (by decide) (hmk 24 77 (by decide)) ?_
  refine G_sipush hX (by decide) d_Mo_lay_4 ?_
  refine G_iload_n hX 1 rfl rfl d_Mo_lay_7 ?_
  refine G_imul_z hX d_Mo_lay_8 ?_
  refine G_aload_n hX 0 rfl rfl d_Mo_lay_9 ?_
  refine M_get hX fg_Mo_124 d_Mo_lay_10 hMo (by decide) (hmk 23 76 (by decide)) ?_
  refine G_iload_n hX 1 rfl rfl d_Mo_lay_13 ?_
  refine F_iald hX d_Mo_lay_14 76 (by decide) hc76 (by omega) ?_
  refine G_iadd_z hX d_Mo_lay_15 ?_
  refine G_iload_n hX 2 rfl rfl d_Mo_lay_16 ?_
  refine F_iast hX d_Mo_lay_17 77 (by decide) hc77 (by omega) (fun f1 h2 k3 => ?_)
  refine G_aload_n hX 0 rfl rfl d_Mo_lay_18 ?_
  have h4 : f1 61 = mob F := (k3 61 (by decide)).trans hMo
  refine M_get hX fg_Mo_124 d_Mo_lay_19 h4 (by decide) (hmk 23 76 (by decide)) ?_
  refine G_iload_n hX 1 rfl rfl d_Mo_lay_22 ?_
  refine G_dup2 hX rfl rfl d_Mo_lay_23 ?_
  have h5 : f1 76 = iz E 3 ps := (k3 76 (by decide)).trans hc76
  refine F_iald hX d_Mo_lay_24 76 (by decide) h5 (by omega) ?_
  refine G_iconst hX d_Mo_lay_25 ?_
  refine G_iadd_z hX d_Mo_lay_26 ?_
  refine F_iast hX d_Mo_lay_27 76 (by decide) h5 (by omega) (fun f6 h7 k8 => ?_)
  have h9 : f6 77 = iz E 3000 (uz pt ((1000 * 1) + (ps 1)) v) := (k8 77 (by decide)).trans h2
  exact F_vret hX hE d_Mo_lay_28 ⟨rfl, _, _, h7, h9, prt_1 hr (by omega) (by omega) (by omega) rfl rfl, (Fr.tr (Fr.tr Fr.rf k3 (by decide)) k8 (by decide))⟩
theorem c_Mo_lay2 (E : EV) (f : Nat → va_E) (F : Nat → Value) (v : Int) (pt : Int → Int) (ps : Int → Int) (D : List Int) (C : List Int) (A : List Int) (hMo : f 61 = mob F) (hmk : moK E F) (hc76 : f 76 = iz E 3 ps) (hc77 : f 77 = iz E 3000 pt) (hr : prt pt ps D C A) (hn : (D.length : Int) < 999 ∧ (C.length : Int) < 999 ∧ (A.length : Int) < 999) : CF yn_Mo_lay cd_Mo_lay 3 none 0 E [.ref (eA E 61), .int (zI 2), .int (zI v)] f (fun r f' => r = none ∧ ∃ (pt' : Int → Int) (ps' : Int → Int), f' 76 = iz E 3 ps' ∧ f' 77 = iz E 3000 pt' ∧ (prt pt' ps' D C (A ++ [v])) ∧ Fr [76, 77] f f') := by
  refine CF.of (by decide +kernel) (Nat.le_of_ble_eq_true rfl) fun X hX hE => ?_
  have hX : Ok E X "DeltaFerryModel" "lay" cd_Mo_lay 3 none (rl 0) := hX
  refine G_cast (lv' := [(0, .ref (eA E 61)), (1, .int (zI 2)), (2, .int (zI v))]) ?_ rfl rfl rfl rfl
  have hr0 := hr.1.1
  have hr1 := hr.2.1.1
  have hr2 := hr.2.2.1
  refine G_aload_n hX 0 rfl rfl d_Mo_lay_0 ?_
  refine M_get hX fg_Mo_127 d_Mo_lay_1 hMo (by decide) (hmk 24 77 (by decide)) ?_
  refine G_sipush hX (by decide) d_Mo_lay_4 ?_
  refine G_iload_n hX 1 rfl rfl d_Mo_lay_7 ?_
  refine G_imul_z hX d_Mo_lay_8 ?_
  refine G_aload_n hX 0 rfl rfl d_Mo_lay_9 ?_
  refine M_get hX fg_Mo_124 d_Mo_lay_10 hMo (by decide) (hmk 23 76 (by decide)) ?_
  refine G_iload_n hX 1 rfl rfl d_Mo_lay_13 ?_
  refine F_iald hX d_Mo_lay_14 76 (by decide) hc76 (by omega) ?_
  refine G_iadd_z hX d_Mo_lay_15 ?_
  refine G_iload_n hX 2 rfl rfl d_Mo_lay_16 ?_
  refine F_iast hX d_Mo_lay_17 77 (by decide) hc77 (by omega) (fun f1 h2 k3 => ?_)
  refine G_aload_n hX 0 rfl rfl d_Mo_lay_18 ?_
  have h4 : f1 61 = mob F := (k3 61 (by decide)).trans hMo
  refine M_get hX fg_Mo_124 d_Mo_lay_19 h4 (by decide) (hmk 23 76 (by decide)) ?_
  refine G_iload_n hX 1 rfl rfl d_Mo_lay_22 ?_
  refine G_dup2 hX rfl rfl d_Mo_lay_23 ?_
  have h5 : f1 76 = iz E 3 ps := (k3 76 (by decide)).trans hc76
  refine F_iald hX d_Mo_lay_24 76 (by decide) h5 (by omega) ?_
  refine G_iconst hX d_Mo_lay_25 ?_
  refine G_iadd_z hX d_Mo_lay_26 ?_
  refine F_iast hX d_Mo_lay_27 76 (by decide) h5 (by omega) (fun f6 h7 k8 => ?_)
  have h9 : f6 77 = iz E 3000 (uz pt ((1000 * 2) + (ps 2)) v) := (k8 77 (by decide)).trans h2
  exact F_vret hX hE d_Mo_lay_28 ⟨rfl, _, _, h7, h9, prt_2 hr (by omega) (by omega) (by omega) (by omega) rfl rfl, (Fr.tr (Fr.tr Fr.rf k3 (by decide)) k8 (by decide))⟩
theorem c_Mo_layNumber1 (E : EV) (f : Nat → va_E) (F : Nat → Value) (v : Int) (pt : Int → Int) (ps : Int → Int) (D : List Int) (C : List Int) (A : List Int) (hMo : f 61 = mob F) (hmk : moK E F) (hc76 : f 76 = iz E 3 ps) (hc77 : f 77 = iz E 3000 pt) (hr : prt pt ps D C A) (hn : (D.length : Int) < 990 ∧ (C.length : Int) < 990 ∧ (A.length : Int) < 990) (hv : 0 ≤ v ∧ v < 268435456) : CF yn_Mo_layNumber cd_Mo_layNumber 4 none 1 E [.ref (eA E 61), .int (zI 1), .int (zI v)] f (fun r f' => r = none ∧ ∃ (pt' : Int → Int) (ps' : Int → Int), f' 76 = iz E 3 ps' ∧ f' 77 = iz E 3000 pt' ∧ (prt pt' ps' D (C ++ nbL v) A) ∧ Fr [76, 77] f f') := by
  refine CF.of (by decide +kernel) (Nat.le_of_ble_eq_true rfl) fun X hX hE => ?_
  have hX : Ok E X "DeltaFerryModel" "layNumber" cd_Mo_layNumber 4 none (rl 1) := hX
  refine G_cast (lv' := [(0, .ref (eA E 61)), (1, .int (zI 1)), (2, .int (zI v))]) ?_ rfl rfl rfl rfl
  rcases wid_cases hv with ⟨h0, hw9⟩ | ⟨h0, hw9⟩ | ⟨h0, hw9⟩ | ⟨h0, hw9⟩
  · skip
    refine G_iload_n hX 2 rfl rfl d_Mo_layNumber_0 ?_
    refine F_callS hX (st := []) (c_Mo_widthOf E f v (by omega)) cm_Mo_widthOf sm_Mo_widthOf ml_Mo_295 d_Mo_layNumber_1 rfl rfl (Nat.le_of_ble_eq_true rfl) (by decide) ?_
    rintro _ f1 ⟨rfl, e4⟩
    obtain rfl := e4.symm
    refine G_cast (st' := [.int (zI (wid v))]) ?_ rfl rfl rfl rfl
    refine G_top (show zI (wid v) = zI 1 from by rw [hw9]) ?_
    refine G_iconst hX d_Mo_layNumber_4 ?_
    refine G_isub_z hX d_Mo_layNumber_5 ?_
    refine G_istore_n hX (lv' := [(3, .int (zI (1 - 1))), (0, .ref (eA E 61)), (1, .int (zI 1)), (2, .int (zI v))]) rfl (by decide) rfl d_Mo_layNumber_6 ?_
    refine G_iload_n hX 0 rfl rfl d_Mo_layNumber_7 ?_
    refine G_if_lt_z hX (tgt := 43) d_Mo_layNumber_8 rfl (by omega) (fun c5 => by exfalso; omega) (fun c6 => ?_)
    refine G_aload_n hX 1 rfl rfl d_Mo_layNumber_11 ?_
    refine G_iload_n hX 2 rfl rfl d_Mo_layNumber_12 ?_
    refine G_iload_n hX 3 rfl rfl d_Mo_layNumber_13 ?_
    refine G_bipush hX (by decide) d_Mo_layNumber_14 ?_
    refine G_iload_n hX 0 rfl rfl d_Mo_layNumber_16 ?_
    refine G_imul_z hX d_Mo_layNumber_17 ?_
    refine G_ishr hX d_Mo_layNumber_18 ?_
    refine G_top (show (zI v >>> (zI (7 * (1 - 1)) &&& 31)) = zI v from (zI_shr 0 (by omega) (by decide)).trans (congrArg zI (by omega))) ?_
    refine G_bipush hX (by decide) d_Mo_layNumber_19 ?_
    refine G_iand hX d_Mo_layNumber_21 ?_
    refine G_top (show (zI v &&& zI 127) = zI (v % 128) from zI_and127 _) ?_
    refine G_iload_n hX 0 rfl rfl d_Mo_layNumber_22 ?_
    refine G_if_le_z hX (tgt := 32) d_Mo_layNumber_23 rfl (by omega) (fun c7 => ?_) (fun c8 => by exfalso; omega)
    refine G_iconst hX d_Mo_layNumber_32 ?_
    refine G_iadd_z hX d_Mo_layNumber_33 ?_
    refine G_top (show zI ((v % 128) + 0) = zI (nby v 0) from congrArg zI (nb_10 hw9 (by omega))) ?_
    refine F_callV hX (st := []) (c_Mo_lay1 E f F (nby v 0) pt ps D C A hMo hmk hc76 hc77 hr (by first | omega | (simp only [List.length_append, List.length_cons, List.length_nil, Int.natCast_add, Int.natCast_one, Int.natCast_zero]; omega))) cm_Mo_lay im_Mo_lay se_Mo_lay rfl ml_Mo_301 d_Mo_layNumber_34 (by decide) hMo rfl rfl (Nat.le_of_ble_eq_true rfl) (by decide) ?_
    rintro _ f9 ⟨rfl, pt'_12, ps'_13, h14, h15, p16, k17⟩
    refine G_cast (st' := []) ?_ rfl rfl rfl rfl
    refine G_iinc_z hX (lv' := [(3, .int (zI ((1 - 1) + (-1)))), (0, .ref (eA E 61)), (1, .int (zI 1)), (2, .int (zI v))]) 0 rfl (by decide) rfl d_Mo_layNumber_37 ?_
    refine G_goto hX (tgt := 7) d_Mo_layNumber_40 rfl ?_
    refine G_iload_n hX 0 rfl rfl d_Mo_layNumber_7 ?_
    refine G_if_lt_z hX (tgt := 43) d_Mo_layNumber_8 rfl (by omega) (fun c18 => ?_) (fun c19 => by exfalso; omega)
    exact F_vret hX hE d_Mo_layNumber_43 ⟨rfl, _, _, h14, h15, (by rw [nbL_1 hw9]; simpa only [List.append_assoc, List.cons_append, List.nil_append] using p16), (Fr.tr Fr.rf k17 (by decide))⟩
  · skip
    refine G_iload_n hX 2 rfl rfl d_Mo_layNumber_0 ?_
    refine F_callS hX (st := []) (c_Mo_widthOf E f v (by omega)) cm_Mo_widthOf sm_Mo_widthOf ml_Mo_295 d_Mo_layNumber_1 rfl rfl (Nat.le_of_ble_eq_true rfl) (by decide) ?_
    rintro _ f20 ⟨rfl, e23⟩
    obtain rfl := e23.symm
    refine G_cast (st' := [.int (zI (wid v))]) ?_ rfl rfl rfl rfl
    refine G_top (show zI (wid v) = zI 2 from by rw [hw9]) ?_
    refine G_iconst hX d_Mo_layNumber_4 ?_
    refine G_isub_z hX d_Mo_layNumber_5 ?_
    refine G_istore_n hX (lv' := [(3, .int (zI (2 - 1))), (0, .ref (eA E 61)), (1, .int (zI 1)), (2, .int (zI v))]) rfl (by decide) rfl d_Mo_layNumber_6 ?_
    refine G_iload_n hX 0 rfl rfl d_Mo_layNumber_7 ?_
    refine G_if_lt_z hX (tgt := 43) d_Mo_layNumber_8 rfl (by omega) (fun c24 => by exfalso; omega) (fun c25 => ?_)
    refine G_aload_n hX 1 rfl rfl d_Mo_layNumber_11 ?_
    refine G_iload_n hX 2 rfl rfl d_Mo_layNumber_12 ?_
    refine G_iload_n hX 3 rfl rfl d_Mo_layNumber_13 ?_
    refine G_bipush hX (by decide) d_Mo_layNumber_14 ?_
    refine G_iload_n hX 0 rfl rfl d_Mo_layNumber_16 ?_
    refine G_imul_z hX d_Mo_layNumber_17 ?_
    refine G_ishr hX d_Mo_layNumber_18 ?_
    refine G_top (show (zI v >>> (zI (7 * (2 - 1)) &&& 31)) = zI (v / 128) from zI_shr 7 (by omega) (by decide)) ?_
    refine G_bipush hX (by decide) d_Mo_layNumber_19 ?_
    refine G_iand hX d_Mo_layNumber_21 ?_
    refine G_top (show (zI (v / 128) &&& zI 127) = zI (v / 128 % 128) from zI_and127 _) ?_
    refine G_iload_n hX 0 rfl rfl d_Mo_layNumber_22 ?_
    refine G_if_le_z hX (tgt := 32) d_Mo_layNumber_23 rfl (by omega) (fun c26 => by exfalso; omega) (fun c27 => ?_)
    refine G_sipush hX (by decide) d_Mo_layNumber_26 ?_
    refine G_goto hX (tgt := 33) d_Mo_layNumber_29 rfl ?_
    refine G_iadd_z hX d_Mo_layNumber_33 ?_
    refine G_top (show zI ((v / 128 % 128) + 128) = zI (nby v 0) from congrArg zI (nb_20 hw9 (by omega))) ?_
    refine F_callV hX (st := []) (c_Mo_lay1 E f F (nby v 0) pt ps D C A hMo hmk hc76 hc77 hr (by first | omega | (simp only [List.length_append, List.length_cons, List.length_nil, Int.natCast_add, Int.natCast_one, Int.natCast_zero]; omega))) cm_Mo_lay im_Mo_lay se_Mo_lay rfl ml_Mo_301 d_Mo_layNumber_34 (by decide) hMo rfl rfl (Nat.le_of_ble_eq_true rfl) (by decide) ?_
    rintro _ f28 ⟨rfl, pt'_31, ps'_32, h33, h34, p35, k36⟩
    refine G_cast (st' := []) ?_ rfl rfl rfl rfl
    refine G_iinc_z hX (lv' := [(3, .int (zI ((2 - 1) + (-1)))), (0, .ref (eA E 61)), (1, .int (zI 1)), (2, .int (zI v))]) 0 rfl (by decide) rfl d_Mo_layNumber_37 ?_
    refine G_goto hX (tgt := 7) d_Mo_layNumber_40 rfl ?_
    refine G_iload_n hX 0 rfl rfl d_Mo_layNumber_7 ?_
    refine G_if_lt_z hX (tgt := 43) d_Mo_layNumber_8 rfl (by omega) (fun c37 => by exfalso; omega) (fun c38 => ?_)
    refine G_aload_n hX 1 rfl rfl d_Mo_layNumber_11 ?_
    refine G_iload_n hX 2 rfl rfl d_Mo_layNumber_12 ?_
    refine G_iload_n hX 3 rfl rfl d_Mo_layNumber_13 ?_
    refine G_bipush hX (by decide) d_Mo_layNumber_14 ?_
    refine G_iload_n hX 0 rfl rfl d_Mo_layNumber_16 ?_
    refine G_imul_z hX d_Mo_layNumber_17 ?_
    refine G_ishr hX d_Mo_layNumber_18 ?_
    refine G_top (show (zI v >>> (zI (7 * ((2 - 1) + (-1))) &&& 31)) = zI v from (zI_shr 0 (by omega) (by decide)).trans (congrArg zI (by omega))) ?_
    refine G_bipush hX (by decide) d_Mo_layNumber_19 ?_
    refine G_iand hX d_Mo_layNumber_21 ?_
    refine G_top (show (zI v &&& zI 127) = zI (v % 128) from zI_and127 _) ?_
    refine G_iload_n hX 0 rfl rfl d_Mo_layNumber_22 ?_
    refine G_if_le_z hX (tgt := 32) d_Mo_layNumber_23 rfl (by omega) (fun c39 => ?_) (fun c40 => by exfalso; omega)
    refine G_iconst hX d_Mo_layNumber_32 ?_
    refine G_iadd_z hX d_Mo_layNumber_33 ?_
    refine G_top (show zI ((v % 128) + 0) = zI (nby v 1) from congrArg zI (nb_21 hw9)) ?_
    have h41 : f28 61 = mob F := (k36 61 (by decide)).trans hMo
    refine F_callV hX (st := []) (c_Mo_lay1 E f28 F (nby v 1) pt'_31 ps'_32 D (C ++ [nby v 0]) A h41 hmk h33 h34 p35 (by first | omega | (simp only [List.length_append, List.length_cons, List.length_nil, Int.natCast_add, Int.natCast_one, Int.natCast_zero]; omega))) cm_Mo_lay im_Mo_lay se_Mo_lay rfl ml_Mo_301 d_Mo_layNumber_34 (by decide) h41 rfl rfl (Nat.le_of_ble_eq_true rfl) (by decide) ?_
    rintro _ f42 ⟨rfl, pt'_45, ps'_46, h47, h48, p49, k50⟩
    refine G_cast (st' := []) ?_ rfl rfl rfl rfl
    refine G_iinc_z hX (lv' := [(3, .int (zI (((2 - 1) + (-1)) + (-1)))), (0, .ref (eA E 61)), (1, .int (zI 1)), (2, .int (zI v))]) 0 rfl (by decide) rfl d_Mo_layNumber_37 ?_
    refine G_goto hX (tgt := 7) d_Mo_layNumber_40 rfl ?_
    refine G_iload_n hX 0 rfl rfl d_Mo_layNumber_7 ?_
    refine G_if_lt_z hX (tgt := 43) d_Mo_layNumber_8 rfl (by omega) (fun c51 => ?_) (fun c52 => by exfalso; omega)
    exact F_vret hX hE d_Mo_layNumber_43 ⟨rfl, _, _, h47, h48, (by rw [nbL_2 hw9]; simpa only [List.append_assoc, List.cons_append, List.nil_append] using p49), (Fr.tr (Fr.tr Fr.rf k36 (by decide)) k50 (by decide))⟩
  · skip
    refine G_iload_n hX 2 rfl rfl d_Mo_layNumber_0 ?_
    refine F_callS hX (st := []) (c_Mo_widthOf E f v (by omega)) cm_Mo_widthOf sm_Mo_widthOf ml_Mo_295 d_Mo_layNumber_1 rfl rfl (Nat.le_of_ble_eq_true rfl) (by decide) ?_
    rintro _ f53 ⟨rfl, e56⟩
    obtain rfl := e56.symm
    refine G_cast (st' := [.int (zI (wid v))]) ?_ rfl rfl rfl rfl
    refine G_top (show zI (wid v) = zI 3 from by rw [hw9]) ?_
    refine G_iconst hX d_Mo_layNumber_4 ?_
    refine G_isub_z hX d_Mo_layNumber_5 ?_
    refine G_istore_n hX (lv' := [(3, .int (zI (3 - 1))), (0, .ref (eA E 61)), (1, .int (zI 1)), (2, .int (zI v))]) rfl (by decide) rfl d_Mo_layNumber_6 ?_
    refine G_iload_n hX 0 rfl rfl d_Mo_layNumber_7 ?_
    refine G_if_lt_z hX (tgt := 43) d_Mo_layNumber_8 rfl (by omega) (fun c57 => by exfalso; omega) (fun c58 => ?_)
    refine G_aload_n hX 1 rfl rfl d_Mo_layNumber_11 ?_
    refine G_iload_n hX 2 rfl rfl d_Mo_layNumber_12 ?_
    refine G_iload_n hX 3 rfl rfl d_Mo_layNumber_13 ?_
    refine G_bipush hX (by decide) d_Mo_layNumber_14 ?_
    refine G_iload_n hX 0 rfl rfl d_Mo_layNumber_16 ?_
    refine G_imul_z hX d_Mo_layNumber_17 ?_
    refine G_ishr hX d_Mo_layNumber_18 ?_
    refine G_top (show (zI v >>> (zI (7 * (3 - 1)) &&& 31)) = zI (v / 16384) from zI_shr 14 (by omega) (by decide)) ?_
    refine G_bipush hX (by decide) d_Mo_layNumber_19 ?_
    refine G_iand hX d_Mo_layNumber_21 ?_
    refine G_top (show (zI (v / 16384) &&& zI 127) = zI (v / 16384 % 128) from zI_and127 _) ?_
    refine G_iload_n hX 0 rfl rfl d_Mo_layNumber_22 ?_
    refine G_if_le_z hX (tgt := 32) d_Mo_layNumber_23 rfl (by omega) (fun c59 => by exfalso; omega) (fun c60 => ?_)
    refine G_sipush hX (by decide) d_Mo_layNumber_26 ?_
    refine G_goto hX (tgt := 33) d_Mo_layNumber_29 rfl ?_
    refine G_iadd_z hX d_Mo_layNumber_33 ?_
    refine G_top (show zI ((v / 16384 % 128) + 128) = zI (nby v 0) from congrArg zI (nb_30 hw9 (by omega))) ?_
    refine F_callV hX (st := []) (c_Mo_lay1 E f F (nby v 0) pt ps D C A hMo hmk hc76 hc77 hr (by first | omega | (simp only [List.length_append, List.length_cons, List.length_nil, Int.natCast_add, Int.natCast_one, Int.natCast_zero]; omega))) cm_Mo_lay im_Mo_lay se_Mo_lay rfl ml_Mo_301 d_Mo_layNumber_34 (by decide) hMo rfl rfl (Nat.le_of_ble_eq_true rfl) (by decide) ?_
    rintro _ f61 ⟨rfl, pt'_64, ps'_65, h66, h67, p68, k69⟩
    refine G_cast (st' := []) ?_ rfl rfl rfl rfl
    refine G_iinc_z hX (lv' := [(3, .int (zI ((3 - 1) + (-1)))), (0, .ref (eA E 61)), (1, .int (zI 1)), (2, .int (zI v))]) 0 rfl (by decide) rfl d_Mo_layNumber_37 ?_
    refine G_goto hX (tgt := 7) d_Mo_layNumber_40 rfl ?_
    refine G_iload_n hX 0 rfl rfl d_Mo_layNumber_7 ?_
    refine G_if_lt_z hX (tgt := 43) d_Mo_layNumber_8 rfl (by omega) (fun c70 => by exfalso; omega) (fun c71 => ?_)
    refine G_aload_n hX 1 rfl rfl d_Mo_layNumber_11 ?_
    refine G_iload_n hX 2 rfl rfl d_Mo_layNumber_12 ?_
    refine G_iload_n hX 3 rfl rfl d_Mo_layNumber_13 ?_
    refine G_bipush hX (by decide) d_Mo_layNumber_14 ?_
    refine G_iload_n hX 0 rfl rfl d_Mo_layNumber_16 ?_
    refine G_imul_z hX d_Mo_layNumber_17 ?_
    refine G_ishr hX d_Mo_layNumber_18 ?_
    refine G_top (show (zI v >>> (zI (7 * ((3 - 1) + (-1))) &&& 31)) = zI (v / 128) from zI_shr 7 (by omega) (by decide)) ?_
    refine G_bipush hX (by decide) d_Mo_layNumber_19 ?_
    refine G_iand hX d_Mo_layNumber_21 ?_
    refine G_top (show (zI (v / 128) &&& zI 127) = zI (v / 128 % 128) from zI_and127 _) ?_
    refine G_iload_n hX 0 rfl rfl d_Mo_layNumber_22 ?_
    refine G_if_le_z hX (tgt := 32) d_Mo_layNumber_23 rfl (by omega) (fun c72 => by exfalso; omega) (fun c73 => ?_)
    refine G_sipush hX (by decide) d_Mo_layNumber_26 ?_
    refine G_goto hX (tgt := 33) d_Mo_layNumber_29 rfl ?_
    refine G_iadd_z hX d_Mo_layNumber_33 ?_
    refine G_top (show zI ((v / 128 % 128) + 128) = zI (nby v 1) from congrArg zI (nb_31 hw9)) ?_
    have h74 : f61 61 = mob F := (k69 61 (by decide)).trans hMo
    refine F_callV hX (st := []) (c_Mo_lay1 E f61 F (nby v 1) pt'_64 ps'_65 D (C ++ [nby v 0]) A h74 hmk h66 h67 p68 (by first | omega | (simp only [List.length_append, List.length_cons, List.length_nil, Int.natCast_add, Int.natCast_one, Int.natCast_zero]; omega))) cm_Mo_lay im_Mo_lay se_Mo_lay rfl ml_Mo_301 d_Mo_layNumber_34 (by decide) h74 rfl rfl (Nat.le_of_ble_eq_true rfl) (by decide) ?_
    rintro _ f75 ⟨rfl, pt'_78, ps'_79, h80, h81, p82, k83⟩
    refine G_cast (st' := []) ?_ rfl rfl rfl rfl
    refine G_iinc_z hX (lv' := [(3, .int (zI (((3 - 1) + (-1)) + (-1)))), (0, .ref (eA E 61)), (1, .int (zI 1)), (2, .int (zI v))]) 0 rfl (by decide) rfl d_Mo_layNumber_37 ?_
    refine G_goto hX (tgt := 7) d_Mo_layNumber_40 rfl ?_
    refine G_iload_n hX 0 rfl rfl d_Mo_layNumber_7 ?_
    refine G_if_lt_z hX (tgt := 43) d_Mo_layNumber_8 rfl (by omega) (fun c84 => by exfalso; omega) (fun c85 => ?_)
    refine G_aload_n hX 1 rfl rfl d_Mo_layNumber_11 ?_
    refine G_iload_n hX 2 rfl rfl d_Mo_layNumber_12 ?_
    refine G_iload_n hX 3 rfl rfl d_Mo_layNumber_13 ?_
    refine G_bipush hX (by decide) d_Mo_layNumber_14 ?_
    refine G_iload_n hX 0 rfl rfl d_Mo_layNumber_16 ?_
    refine G_imul_z hX d_Mo_layNumber_17 ?_
    refine G_ishr hX d_Mo_layNumber_18 ?_
    refine G_top (show (zI v >>> (zI (7 * (((3 - 1) + (-1)) + (-1))) &&& 31)) = zI v from (zI_shr 0 (by omega) (by decide)).trans (congrArg zI (by omega))) ?_
    refine G_bipush hX (by decide) d_Mo_layNumber_19 ?_
    refine G_iand hX d_Mo_layNumber_21 ?_
    refine G_top (show (zI v &&& zI 127) = zI (v % 128) from zI_and127 _) ?_
    refine G_iload_n hX 0 rfl rfl d_Mo_layNumber_22 ?_
    refine G_if_le_z hX (tgt := 32) d_Mo_layNumber_23 rfl (by omega) (fun c86 => ?_) (fun c87 => by exfalso; omega)
    refine G_iconst hX d_Mo_layNumber_32 ?_
    refine G_iadd_z hX d_Mo_layNumber_33 ?_
    refine G_top (show zI ((v % 128) + 0) = zI (nby v 2) from congrArg zI (nb_32 hw9)) ?_
    have h88 : f75 61 = mob F := (k83 61 (by decide)).trans h74
    refine F_callV hX (st := []) (c_Mo_lay1 E f75 F (nby v 2) pt'_78 ps'_79 D ((C ++ [nby v 0]) ++ [nby v 1]) A h88 hmk h80 h81 p82 (by first | omega | (simp only [List.length_append, List.length_cons, List.length_nil, Int.natCast_add, Int.natCast_one, Int.natCast_zero]; omega))) cm_Mo_lay im_Mo_lay se_Mo_lay rfl ml_Mo_301 d_Mo_layNumber_34 (by decide) h88 rfl rfl (Nat.le_of_ble_eq_true rfl) (by decide) ?_
    rintro _ f89 ⟨rfl, pt'_92, ps'_93, h94, h95, p96, k97⟩
    refine G_cast (st' := []) ?_ rfl rfl rfl rfl
    refine G_iinc_z hX (lv' := [(3, .int (zI ((((3 - 1) + (-1)) + (-1)) + (-1)))), (0, .ref (eA E 61)), (1, .int (zI 1)), (2, .int (zI v))]) 0 rfl (by decide) rfl d_Mo_layNumber_37 ?_
    refine G_goto hX (tgt := 7) d_Mo_layNumber_40 rfl ?_
    refine G_iload_n hX 0 rfl rfl d_Mo_layNumber_7 ?_
    refine G_if_lt_z hX (tgt := 43) d_Mo_layNumber_8 rfl (by omega) (fun c98 => ?_) (fun c99 => by exfalso; omega)
    exact F_vret hX hE d_Mo_layNumber_43 ⟨rfl, _, _, h94, h95, (by rw [nbL_3 hw9]; simpa only [List.append_assoc, List.cons_append, List.nil_append] using p96), (Fr.tr (Fr.tr (Fr.tr Fr.rf k69 (by decide)) k83 (by decide)) k97 (by decide))⟩
  · skip
    refine G_iload_n hX 2 rfl rfl d_Mo_layNumber_0 ?_
    refine F_callS hX (st := []) (c_Mo_widthOf E f v (by omega)) cm_Mo_widthOf sm_Mo_widthOf ml_Mo_295 d_Mo_layNumber_1 rfl rfl (Nat.le_of_ble_eq_true rfl) (by decide) ?_
    rintro _ f100 ⟨rfl, e103⟩
    obtain rfl := e103.symm
    refine G_cast (st' := [.int (zI (wid v))]) ?_ rfl rfl rfl rfl
    refine G_top (show zI (wid v) = zI 4 from by rw [hw9]) ?_
    refine G_iconst hX d_Mo_layNumber_4 ?_
    refine G_isub_z hX d_Mo_layNumber_5 ?_
    refine G_istore_n hX (lv' := [(3, .int (zI (4 - 1))), (0, .ref (eA E 61)), (1, .int (zI 1)), (2, .int (zI v))]) rfl (by decide) rfl d_Mo_layNumber_6 ?_
    refine G_iload_n hX 0 rfl rfl d_Mo_layNumber_7 ?_
    refine G_if_lt_z hX (tgt := 43) d_Mo_layNumber_8 rfl (by omega) (fun c104 => by exfalso; omega) (fun c105 => ?_)
    refine G_aload_n hX 1 rfl rfl d_Mo_layNumber_11 ?_
    refine G_iload_n hX 2 rfl rfl d_Mo_layNumber_12 ?_
    refine G_iload_n hX 3 rfl rfl d_Mo_layNumber_13 ?_
    refine G_bipush hX (by decide) d_Mo_layNumber_14 ?_
    refine G_iload_n hX 0 rfl rfl d_Mo_layNumber_16 ?_
    refine G_imul_z hX d_Mo_layNumber_17 ?_
    refine G_ishr hX d_Mo_layNumber_18 ?_
    refine G_top (show (zI v >>> (zI (7 * (4 - 1)) &&& 31)) = zI (v / 2097152) from zI_shr 21 (by omega) (by decide)) ?_
    refine G_bipush hX (by decide) d_Mo_layNumber_19 ?_
    refine G_iand hX d_Mo_layNumber_21 ?_
    refine G_top (show (zI (v / 2097152) &&& zI 127) = zI (v / 2097152 % 128) from zI_and127 _) ?_
    refine G_iload_n hX 0 rfl rfl d_Mo_layNumber_22 ?_
    refine G_if_le_z hX (tgt := 32) d_Mo_layNumber_23 rfl (by omega) (fun c106 => by exfalso; omega) (fun c107 => ?_)
    refine G_sipush hX (by decide) d_Mo_layNumber_26 ?_
    refine G_goto hX (tgt := 33) d_Mo_layNumber_29 rfl ?_
    refine G_iadd_z hX d_Mo_layNumber_33 ?_
    refine G_top (show zI ((v / 2097152 % 128) + 128) = zI (nby v 0) from congrArg zI (nb_40 hw9 (by omega))) ?_
    refine F_callV hX (st := []) (c_Mo_lay1 E f F (nby v 0) pt ps D C A hMo hmk hc76 hc77 hr (by first | omega | (simp only [List.length_append, List.length_cons, List.length_nil, Int.natCast_add, Int.natCast_one, Int.natCast_zero]; omega))) cm_Mo_lay im_Mo_lay se_Mo_lay rfl ml_Mo_301 d_Mo_layNumber_34 (by decide) hMo rfl rfl (Nat.le_of_ble_eq_true rfl) (by decide) ?_
    rintro _ f108 ⟨rfl, pt'_111, ps'_112, h113, h114, p115, k116⟩
    refine G_cast (st' := []) ?_ rfl rfl rfl rfl
    refine G_iinc_z hX (lv' := [(3, .int (zI ((4 - 1) + (-1)))), (0, .ref (eA E 61)), (1, .int (zI 1)), (2, .int (zI v))]) 0 rfl (by decide) rfl d_Mo_layNumber_37 ?_
    refine G_goto hX (tgt := 7) d_Mo_layNumber_40 rfl ?_
    refine G_iload_n hX 0 rfl rfl d_Mo_layNumber_7 ?_
    refine G_if_lt_z hX (tgt := 43) d_Mo_layNumber_8 rfl (by omega) (fun c117 => by exfalso; omega) (fun c118 => ?_)
    refine G_aload_n hX 1 rfl rfl d_Mo_layNumber_11 ?_
    refine G_iload_n hX 2 rfl rfl d_Mo_layNumber_12 ?_
    refine G_iload_n hX 3 rfl rfl d_Mo_layNumber_13 ?_
    refine G_bipush hX (by decide) d_Mo_layNumber_14 ?_
    refine G_iload_n hX 0 rfl rfl d_Mo_layNumber_16 ?_
    refine G_imul_z hX d_Mo_layNumber_17 ?_
    refine G_ishr hX d_Mo_layNumber_18 ?_
    refine G_top (show (zI v >>> (zI (7 * ((4 - 1) + (-1))) &&& 31)) = zI (v / 16384) from zI_shr 14 (by omega) (by decide)) ?_
    refine G_bipush hX (by decide) d_Mo_layNumber_19 ?_
    refine G_iand hX d_Mo_layNumber_21 ?_
    refine G_top (show (zI (v / 16384) &&& zI 127) = zI (v / 16384 % 128) from zI_and127 _) ?_
    refine G_iload_n hX 0 rfl rfl d_Mo_layNumber_22 ?_
    refine G_if_le_z hX (tgt := 32) d_Mo_layNumber_23 rfl (by omega) (fun c119 => by exfalso; omega) (fun c120 => ?_)
    refine G_sipush hX (by decide) d_Mo_layNumber_26 ?_
    refine G_goto hX (tgt := 33) d_Mo_layNumber_29 rfl ?_
    refine G_iadd_z hX d_Mo_layNumber_33 ?_
    refine G_top (show zI ((v / 16384 % 128) + 128) = zI (nby v 1) from congrArg zI (nb_41 hw9)) ?_
    have h121 : f108 61 = mob F := (k116 61 (by decide)).trans hMo
    refine F_callV hX (st := []) (c_Mo_lay1 E f108 F (nby v 1) pt'_111 ps'_112 D (C ++ [nby v 0]) A h121 hmk h113 h114 p115 (by first | omega | (simp only [List.length_append, List.length_cons, List.length_nil, Int.natCast_add, Int.natCast_one, Int.natCast_zero]; omega))) cm_Mo_lay im_Mo_lay se_Mo_lay rfl ml_Mo_301 d_Mo_layNumber_34 (by decide) h121 rfl rfl (Nat.le_of_ble_eq_true rfl) (by decide) ?_
    rintro _ f122 ⟨rfl, pt'_125, ps'_126, h127, h128, p129, k130⟩
    refine G_cast (st' := []) ?_ rfl rfl rfl rfl
    refine G_iinc_z hX (lv' := [(3, .int (zI (((4 - 1) + (-1)) + (-1)))), (0, .ref (eA E 61)), (1, .int (zI 1)), (2, .int (zI v))]) 0 rfl (by decide) rfl d_Mo_layNumber_37 ?_
    refine G_goto hX (tgt := 7) d_Mo_layNumber_40 rfl ?_
    refine G_iload_n hX 0 rfl rfl d_Mo_layNumber_7 ?_
    refine G_if_lt_z hX (tgt := 43) d_Mo_layNumber_8 rfl (by omega) (fun c131 => by exfalso; omega) (fun c132 => ?_)
    refine G_aload_n hX 1 rfl rfl d_Mo_layNumber_11 ?_
    refine G_iload_n hX 2 rfl rfl d_Mo_layNumber_12 ?_
    refine G_iload_n hX 3 rfl rfl d_Mo_layNumber_13 ?_
    refine G_bipush hX (by decide) d_Mo_layNumber_14 ?_
    refine G_iload_n hX 0 rfl rfl d_Mo_layNumber_16 ?_
    refine G_imul_z hX d_Mo_layNumber_17 ?_
    refine G_ishr hX d_Mo_layNumber_18 ?_
    refine G_top (show (zI v >>> (zI (7 * (((4 - 1) + (-1)) + (-1))) &&& 31)) = zI (v / 128) from zI_shr 7 (by omega) (by decide)) ?_
    refine G_bipush hX (by decide) d_Mo_layNumber_19 ?_
    refine G_iand hX d_Mo_layNumber_21 ?_
    refine G_top (show (zI (v / 128) &&& zI 127) = zI (v / 128 % 128) from zI_and127 _) ?_
    refine G_iload_n hX 0 rfl rfl d_Mo_layNumber_22 ?_
    refine G_if_le_z hX (tgt := 32) d_Mo_layNumber_23 rfl (by omega) (fun c133 => by exfalso; omega) (fun c134 => ?_)
    refine G_sipush hX (by decide) d_Mo_layNumber_26 ?_
    refine G_goto hX (tgt := 33) d_Mo_layNumber_29 rfl ?_
    refine G_iadd_z hX d_Mo_layNumber_33 ?_
    refine G_top (show zI ((v / 128 % 128) + 128) = zI (nby v 2) from congrArg zI (nb_42 hw9)) ?_
    have h135 : f122 61 = mob F := (k130 61 (by decide)).trans h121
    refine F_callV hX (st := []) (c_Mo_lay1 E f122 F (nby v 2) pt'_125 ps'_126 D ((C ++ [nby v 0]) ++ [nby v 1]) A h135 hmk h127 h128 p129 (by first | omega | (simp only [List.length_append, List.length_cons, List.length_nil, Int.natCast_add, Int.natCast_one, Int.natCast_zero]; omega))) cm_Mo_lay im_Mo_lay se_Mo_lay rfl ml_Mo_301 d_Mo_layNumber_34 (by decide) h135 rfl rfl (Nat.le_of_ble_eq_true rfl) (by decide) ?_
    rintro _ f136 ⟨rfl, pt'_139, ps'_140, h141, h142, p143, k144⟩
    refine G_cast (st' := []) ?_ rfl rfl rfl rfl
    refine G_iinc_z hX (lv' := [(3, .int (zI ((((4 - 1) + (-1)) + (-1)) + (-1)))), (0, .ref (eA E 61)), (1, .int (zI 1)), (2, .int (zI v))]) 0 rfl (by decide) rfl d_Mo_layNumber_37 ?_
    refine G_goto hX (tgt := 7) d_Mo_layNumber_40 rfl ?_
    refine G_iload_n hX 0 rfl rfl d_Mo_layNumber_7 ?_
    refine G_if_lt_z hX (tgt := 43) d_Mo_layNumber_8 rfl (by omega) (fun c145 => by exfalso; omega) (fun c146 => ?_)
    refine G_aload_n hX 1 rfl rfl d_Mo_layNumber_11 ?_
    refine G_iload_n hX 2 rfl rfl d_Mo_layNumber_12 ?_
    refine G_iload_n hX 3 rfl rfl d_Mo_layNumber_13 ?_
    refine G_bipush hX (by decide) d_Mo_layNumber_14 ?_
    refine G_iload_n hX 0 rfl rfl d_Mo_layNumber_16 ?_
    refine G_imul_z hX d_Mo_layNumber_17 ?_
    refine G_ishr hX d_Mo_layNumber_18 ?_
    refine G_top (show (zI v >>> (zI (7 * ((((4 - 1) + (-1)) + (-1)) + (-1))) &&& 31)) = zI v from (zI_shr 0 (by omega) (by decide)).trans (congrArg zI (by omega))) ?_
    refine G_bipush hX (by decide) d_Mo_layNumber_19 ?_
    refine G_iand hX d_Mo_layNumber_21 ?_
    refine G_top (show (zI v &&& zI 127) = zI (v % 128) from zI_and127 _) ?_
    refine G_iload_n hX 0 rfl rfl d_Mo_layNumber_22 ?_
    refine G_if_le_z hX (tgt := 32) d_Mo_layNumber_23 rfl (by omega) (fun c147 => ?_) (fun c148 => by exfalso; omega)
    refine G_iconst hX d_Mo_layNumber_32 ?_
    refine G_iadd_z hX d_Mo_layNumber_33 ?_
    refine G_top (show zI ((v % 128) + 0) = zI (nby v 3) from congrArg zI (nb_43 hw9)) ?_
    have h149 : f136 61 = mob F := (k144 61 (by decide)).trans h135
    refine F_callV hX (st := []) (c_Mo_lay1 E f136 F (nby v 3) pt'_139 ps'_140 D (((C ++ [nby v 0]) ++ [nby v 1]) ++ [nby v 2]) A h149 hmk h141 h142 p143 (by first | omega | (simp only [List.length_append, List.length_cons, List.length_nil, Int.natCast_add, Int.natCast_one, Int.natCast_zero]; omega))) cm_Mo_lay im_Mo_lay se_Mo_lay rfl ml_Mo_301 d_Mo_layNumber_34 (by decide) h149 rfl rfl (Nat.le_of_ble_eq_true rfl) (by decide) ?_
    rintro _ f150 ⟨rfl, pt'_153, ps'_154, h155, h156, p157, k158⟩
    refine G_cast (st' := []) ?_ rfl rfl rfl rfl
    refine G_iinc_z hX (lv' := [(3, .int (zI (((((4 - 1) + (-1)) + (-1)) + (-1)) + (-1)))), (0, .ref (eA E 61)), (1, .int (zI 1)), (2, .int (zI v))]) 0 rfl (by decide) rfl d_Mo_layNumber_37 ?_
    refine G_goto hX (tgt := 7) d_Mo_layNumber_40 rfl ?_
    refine G_iload_n hX 0 rfl rfl d_Mo_layNumber_7 ?_
    refine G_if_lt_z hX (tgt := 43) d_Mo_layNumber_8 rfl (by omega) (fun c159 => ?_) (fun c160 => by exfalso; omega)
    exact F_vret hX hE d_Mo_layNumber_43 ⟨rfl, _, _, h155, h156, (by rw [nbL_4 hw9]; simpa only [List.append_assoc, List.cons_append, List.nil_append] using p157), (Fr.tr (Fr.tr (Fr.tr (Fr.tr Fr.rf k116 (by decide)) k130 (by decide)) k144 (by decide)) k158 (by decide))⟩
theorem c_Mo_layNumber2 (E : EV) (f : Nat → va_E) (F : Nat → Value) (v : Int) (pt : Int → Int) (ps : Int → Int) (D : List Int) (C : List Int) (A : List Int) (hMo : f 61 = mob F) (hmk : moK E F) (hc76 : f 76 = iz E 3 ps) (hc77 : f 77 = iz E 3000 pt) (hr : prt pt ps D C A) (hn : (D.length : Int) < 990 ∧ (C.length : Int) < 990 ∧ (A.length : Int) < 990) (hv : 0 ≤ v ∧ v < 268435456) : CF yn_Mo_layNumber cd_Mo_layNumber 4 none 1 E [.ref (eA E 61), .int (zI 2), .int (zI v)] f (fun r f' => r = none ∧ ∃ (pt' : Int → Int) (ps' : Int → Int), f' 76 = iz E 3 ps' ∧ f' 77 = iz E 3000 pt' ∧ (prt pt' ps' D C (A ++ nbL v)) ∧ Fr [76, 77] f f') := by
  refine CF.of (by decide +kernel) (Nat.le_of_ble_eq_true rfl) fun X hX hE => ?_
  have hX : Ok E X "DeltaFerryModel" "layNumber" cd_Mo_layNumber 4 none (rl 1) := hX
  refine G_cast (lv' := [(0, .ref (eA E 61)), (1, .int (zI 2)), (2, .int (zI v))]) ?_ rfl rfl rfl rfl
  rcases wid_cases hv with ⟨h0, hw9⟩ | ⟨h0, hw9⟩ | ⟨h0, hw9⟩ | ⟨h0, hw9⟩
  · skip
    refine G_iload_n hX 2 rfl rfl d_Mo_layNumber_0 ?_
    refine F_callS hX (st := []) (c_Mo_widthOf E f v (by omega)) cm_Mo_widthOf sm_Mo_widthOf ml_Mo_295 d_Mo_layNumber_1 rfl rfl (Nat.le_of_ble_eq_true rfl) (by decide) ?_
    rintro _ f1 ⟨rfl, e4⟩
    obtain rfl := e4.symm
    refine G_cast (st' := [.int (zI (wid v))]) ?_ rfl rfl rfl rfl
    refine G_top (show zI (wid v) = zI 1 from by rw [hw9]) ?_
    refine G_iconst hX d_Mo_layNumber_4 ?_
    refine G_isub_z hX d_Mo_layNumber_5 ?_
    refine G_istore_n hX (lv' := [(3, .int (zI (1 - 1))), (0, .ref (eA E 61)), (1, .int (zI 2)), (2, .int (zI v))]) rfl (by decide) rfl d_Mo_layNumber_6 ?_
    refine G_iload_n hX 0 rfl rfl d_Mo_layNumber_7 ?_
    refine G_if_lt_z hX (tgt := 43) d_Mo_layNumber_8 rfl (by omega) (fun c5 => by exfalso; omega) (fun c6 => ?_)
    refine G_aload_n hX 1 rfl rfl d_Mo_layNumber_11 ?_
    refine G_iload_n hX 2 rfl rfl d_Mo_layNumber_12 ?_
    refine G_iload_n hX 3 rfl rfl d_Mo_layNumber_13 ?_
    refine G_bipush hX (by decide) d_Mo_layNumber_14 ?_
    refine G_iload_n hX 0 rfl rfl d_Mo_layNumber_16 ?_
    refine G_imul_z hX d_Mo_layNumber_17 ?_
    refine G_ishr hX d_Mo_layNumber_18 ?_
    refine G_top (show (zI v >>> (zI (7 * (1 - 1)) &&& 31)) = zI v from (zI_shr 0 (by omega) (by decide)).trans (congrArg zI (by omega))) ?_
    refine G_bipush hX (by decide) d_Mo_layNumber_19 ?_
    refine G_iand hX d_Mo_layNumber_21 ?_
    refine G_top (show (zI v &&& zI 127) = zI (v % 128) from zI_and127 _) ?_
    refine G_iload_n hX 0 rfl rfl d_Mo_layNumber_22 ?_
    refine G_if_le_z hX (tgt := 32) d_Mo_layNumber_23 rfl (by omega) (fun c7 => ?_) (fun c8 => by exfalso; omega)
    refine G_iconst hX d_Mo_layNumber_32 ?_
    refine G_iadd_z hX d_Mo_layNumber_33 ?_
    refine G_top (show zI ((v % 128) + 0) = zI (nby v 0) from congrArg zI (nb_10 hw9 (by omega))) ?_
    refine F_callV hX (st := []) (c_Mo_lay2 E f F (nby v 0) pt ps D C A hMo hmk hc76 hc77 hr (by first | omega | (simp only [List.length_append, List.length_cons, List.length_nil, Int.natCast_add, Int.natCast_one, Int.natCast_zero]; omega))) cm_Mo_lay im_Mo_lay se_Mo_lay rfl ml_Mo_301 d_Mo_layNumber_34 (by decide) hMo rfl rfl (Nat.le_of_ble_eq_true rfl) (by decide) ?_
    rintro _ f9 ⟨rfl, pt'_12, ps'_13, h14, h15, p16, k17⟩
    refine G_cast (st' := []) ?_ rfl rfl rfl rfl
    refine G_iinc_z hX (lv' := [(3, .int (zI ((1 - 1) + (-1)))), (0, .ref (eA E 61)), (1, .int (zI 2)), (2, .int (zI v))]) 0 rfl (by decide) rfl d_Mo_layNumber_37 ?_
    refine G_goto hX (tgt := 7) d_Mo_layNumber_40 rfl ?_
    refine G_iload_n hX 0 rfl rfl d_Mo_layNumber_7 ?_
    refine G_if_lt_z hX (tgt := 43) d_Mo_layNumber_8 rfl (by omega) (fun c18 => ?_) (fun c19 => by exfalso; omega)
    exact F_vret hX hE d_Mo_layNumber_43 ⟨rfl, _, _, h14, h15, (by rw [nbL_1 hw9]; simpa only [List.append_assoc, List.cons_append, List.nil_append] using p16), (Fr.tr Fr.rf k17 (by decide))⟩
  · skip
    refine G_iload_n hX 2 rfl rfl d_Mo_layNumber_0 ?_
    refine F_callS hX (st := []) (c_Mo_widthOf E f v (by omega)) cm_Mo_widthOf sm_Mo_widthOf ml_Mo_295 d_Mo_layNumber_1 rfl rfl (Nat.le_of_ble_eq_true rfl) (by decide) ?_
    rintro _ f20 ⟨rfl, e23⟩
    obtain rfl := e23.symm
    refine G_cast (st' := [.int (zI (wid v))]) ?_ rfl rfl rfl rfl
    refine G_top (show zI (wid v) = zI 2 from by rw [hw9]) ?_
    refine G_iconst hX d_Mo_layNumber_4 ?_
    refine G_isub_z hX d_Mo_layNumber_5 ?_
    refine G_istore_n hX (lv' := [(3, .int (zI (2 - 1))), (0, .ref (eA E 61)), (1, .int (zI 2)), (2, .int (zI v))]) rfl (by decide) rfl d_Mo_layNumber_6 ?_
    refine G_iload_n hX 0 rfl rfl d_Mo_layNumber_7 ?_
    refine G_if_lt_z hX (tgt := 43) d_Mo_layNumber_8 rfl (by omega) (fun c24 => by exfalso; omega) (fun c25 => ?_)
    refine G_aload_n hX 1 rfl rfl d_Mo_layNumber_11 ?_
    refine G_iload_n hX 2 rfl rfl d_Mo_layNumber_12 ?_
    refine G_iload_n hX 3 rfl rfl d_Mo_layNumber_13 ?_
    refine G_bipush hX (by decide) d_Mo_layNumber_14 ?_
    refine G_iload_n hX 0 rfl rfl d_Mo_layNumber_16 ?_
    refine G_imul_z hX d_Mo_layNumber_17 ?_
    refine G_ishr hX d_Mo_layNumber_18 ?_
    refine G_top (show (zI v >>> (zI (7 * (2 - 1)) &&& 31)) = zI (v / 128) from zI_shr 7 (by omega) (by decide)) ?_
    refine G_bipush hX (by decide) d_Mo_layNumber_19 ?_
    refine G_iand hX d_Mo_layNumber_21 ?_
    refine G_top (show (zI (v / 128) &&& zI 127) = zI (v / 128 % 128) from zI_and127 _) ?_
    refine G_iload_n hX 0 rfl rfl d_Mo_layNumber_22 ?_
    refine G_if_le_z hX (tgt := 32) d_Mo_layNumber_23 rfl (by omega) (fun c26 => by exfalso; omega) (fun c27 => ?_)
    refine G_sipush hX (by decide) d_Mo_layNumber_26 ?_
    refine G_goto hX (tgt := 33) d_Mo_layNumber_29 rfl ?_
    refine G_iadd_z hX d_Mo_layNumber_33 ?_
    refine G_top (show zI ((v / 128 % 128) + 128) = zI (nby v 0) from congrArg zI (nb_20 hw9 (by omega))) ?_
    refine F_callV hX (st := []) (c_Mo_lay2 E f F (nby v 0) pt ps D C A hMo hmk hc76 hc77 hr (by first | omega | (simp only [List.length_append, List.length_cons, List.length_nil, Int.natCast_add, Int.natCast_one, Int.natCast_zero]; omega))) cm_Mo_lay im_Mo_lay se_Mo_lay rfl ml_Mo_301 d_Mo_layNumber_34 (by decide) hMo rfl rfl (Nat.le_of_ble_eq_true rfl) (by decide) ?_
    rintro _ f28 ⟨rfl, pt'_31, ps'_32, h33, h34, p35, k36⟩
    refine G_cast (st' := []) ?_ rfl rfl rfl rfl
    refine G_iinc_z hX (lv' := [(3, .int (zI ((2 - 1) + (-1)))), (0, .ref (eA E 61)), (1, .int (zI 2)), (2, .int (zI v))]) 0 rfl (by decide) rfl d_Mo_layNumber_37 ?_
    refine G_goto hX (tgt := 7) d_Mo_layNumber_40 rfl ?_
    refine G_iload_n hX 0 rfl rfl d_Mo_layNumber_7 ?_
    refine G_if_lt_z hX (tgt := 43) d_Mo_layNumber_8 rfl (by omega) (fun c37 => by exfalso; omega) (fun c38 => ?_)
    refine G_aload_n hX 1 rfl rfl d_Mo_layNumber_11 ?_
    refine G_iload_n hX 2 rfl rfl d_Mo_layNumber_12 ?_
    refine G_iload_n hX 3 rfl rfl d_Mo_layNumber_13 ?_
    refine G_bipush hX (by decide) d_Mo_layNumber_14 ?_
    refine G_iload_n hX 0 rfl rfl d_Mo_layNumber_16 ?_
    refine G_imul_z hX d_Mo_layNumber_17 ?_
    refine G_ishr hX d_Mo_layNumber_18 ?_
    refine G_top (show (zI v >>> (zI (7 * ((2 - 1) + (-1))) &&& 31)) = zI v from (zI_shr 0 (by omega) (by decide)).trans (congrArg zI (by omega))) ?_
    refine G_bipush hX (by decide) d_Mo_layNumber_19 ?_
    refine G_iand hX d_Mo_layNumber_21 ?_
    refine G_top (show (zI v &&& zI 127) = zI (v % 128) from zI_and127 _) ?_
    refine G_iload_n hX 0 rfl rfl d_Mo_layNumber_22 ?_
    refine G_if_le_z hX (tgt := 32) d_Mo_layNumber_23 rfl (by omega) (fun c39 => ?_) (fun c40 => by exfalso; omega)
    refine G_iconst hX d_Mo_layNumber_32 ?_
    refine G_iadd_z hX d_Mo_layNumber_33 ?_
    refine G_top (show zI ((v % 128) + 0) = zI (nby v 1) from congrArg zI (nb_21 hw9)) ?_
    have h41 : f28 61 = mob F := (k36 61 (by decide)).trans hMo
    refine F_callV hX (st := []) (c_Mo_lay2 E f28 F (nby v 1) pt'_31 ps'_32 D C (A ++ [nby v 0]) h41 hmk h33 h34 p35 (by first | omega | (simp only [List.length_append, List.length_cons, List.length_nil, Int.natCast_add, Int.natCast_one, Int.natCast_zero]; omega))) cm_Mo_lay im_Mo_lay se_Mo_lay rfl ml_Mo_301 d_Mo_layNumber_34 (by decide) h41 rfl rfl (Nat.le_of_ble_eq_true rfl) (by decide) ?_
    rintro _ f42 ⟨rfl, pt'_45, ps'_46, h47, h48, p49, k50⟩
    refine G_cast (st' := []) ?_ rfl rfl rfl rfl
    refine G_iinc_z hX (lv' := [(3, .int (zI (((2 - 1) + (-1)) + (-1)))), (0, .ref (eA E 61)), (1, .int (zI 2)), (2, .int (zI v))]) 0 rfl (by decide) rfl d_Mo_layNumber_37 ?_
    refine G_goto hX (tgt := 7) d_Mo_layNumber_40 rfl ?_
    refine G_iload_n hX 0 rfl rfl d_Mo_layNumber_7 ?_
    refine G_if_lt_z hX (tgt := 43) d_Mo_layNumber_8 rfl (by omega) (fun c51 => ?_) (fun c52 => by exfalso; omega)
    exact F_vret hX hE d_Mo_layNumber_43 ⟨rfl, _, _, h47, h48, (by rw [nbL_2 hw9]; simpa only [List.append_assoc, List.cons_append, List.nil_append] using p49), (Fr.tr (Fr.tr Fr.rf k36 (by decide)) k50 (by decide))⟩
  · skip
    refine G_iload_n hX 2 rfl rfl d_Mo_layNumber_0 ?_
    refine F_callS hX (st := []) (c_Mo_widthOf E f v (by omega)) cm_Mo_widthOf sm_Mo_widthOf ml_Mo_295 d_Mo_layNumber_1 rfl rfl (Nat.le_of_ble_eq_true rfl) (by decide) ?_
    rintro _ f53 ⟨rfl, e56⟩
    obtain rfl := e56.symm
    refine G_cast (st' := [.int (zI (wid v))]) ?_ rfl rfl rfl rfl
    refine G_top (show zI (wid v) = zI 3 from by rw [hw9]) ?_
    refine G_iconst hX d_Mo_layNumber_4 ?_
    refine G_isub_z hX d_Mo_layNumber_5 ?_
    refine G_istore_n hX (lv' := [(3, .int (zI (3 - 1))), (0, .ref (eA E 61)), (1, .int (zI 2)), (2, .int (zI v))]) rfl (by decide) rfl d_Mo_layNumber_6 ?_
    refine G_iload_n hX 0 rfl rfl d_Mo_layNumber_7 ?_
    refine G_if_lt_z hX (tgt := 43) d_Mo_layNumber_8 rfl (by omega) (fun c57 => by exfalso; omega) (fun c58 => ?_)
    refine G_aload_n hX 1 rfl rfl d_Mo_layNumber_11 ?_
    refine G_iload_n hX 2 rfl rfl d_Mo_layNumber_12 ?_
    refine G_iload_n hX 3 rfl rfl d_Mo_layNumber_13 ?_
    refine G_bipush hX (by decide) d_Mo_layNumber_14 ?_
    refine G_iload_n hX 0 rfl rfl d_Mo_layNumber_16 ?_
    refine G_imul_z hX d_Mo_layNumber_17 ?_
    refine G_ishr hX d_Mo_layNumber_18 ?_
    refine G_top (show (zI v >>> (zI (7 * (3 - 1)) &&& 31)) = zI (v / 16384) from zI_shr 14 (by omega) (by decide)) ?_
    refine G_bipush hX (by decide) d_Mo_layNumber_19 ?_
    refine G_iand hX d_Mo_layNumber_21 ?_
    refine G_top (show (zI (v / 16384) &&& zI 127) = zI (v / 16384 % 128) from zI_and127 _) ?_
    refine G_iload_n hX 0 rfl rfl d_Mo_layNumber_22 ?_
    refine G_if_le_z hX (tgt := 32) d_Mo_layNumber_23 rfl (by omega) (fun c59 => by exfalso; omega) (fun c60 => ?_)
    refine G_sipush hX (by decide) d_Mo_layNumber_26 ?_
    refine G_goto hX (tgt := 33) d_Mo_layNumber_29 rfl ?_
    refine G_iadd_z hX d_Mo_layNumber_33 ?_
    refine G_top (show zI ((v / 16384 % 128) + 128) = zI (nby v 0) from congrArg zI (nb_30 hw9 (by omega))) ?_
    refine F_callV hX (st := []) (c_Mo_lay2 E f F (nby v 0) pt ps D C A hMo hmk hc76 hc77 hr (by first | omega | (simp only [List.length_append, List.length_cons, List.length_nil, Int.natCast_add, Int.natCast_one, Int.natCast_zero]; omega))) cm_Mo_lay im_Mo_lay se_Mo_lay rfl ml_Mo_301 d_Mo_layNumber_34 (by decide) hMo rfl rfl (Nat.le_of_ble_eq_true rfl) (by decide) ?_
    rintro _ f61 ⟨rfl, pt'_64, ps'_65, h66, h67, p68, k69⟩
    refine G_cast (st' := []) ?_ rfl rfl rfl rfl
    refine G_iinc_z hX (lv' := [(3, .int (zI ((3 - 1) + (-1)))), (0, .ref (eA E 61)), (1, .int (zI 2)), (2, .int (zI v))]) 0 rfl (by decide) rfl d_Mo_layNumber_37 ?_
    refine G_goto hX (tgt := 7) d_Mo_layNumber_40 rfl ?_
    refine G_iload_n hX 0 rfl rfl d_Mo_layNumber_7 ?_
    refine G_if_lt_z hX (tgt := 43) d_Mo_layNumber_8 rfl (by omega) (fun c70 => by exfalso; omega) (fun c71 => ?_)
    refine G_aload_n hX 1 rfl rfl d_Mo_layNumber_11 ?_
    refine G_iload_n hX 2 rfl rfl d_Mo_layNumber_12 ?_
    refine G_iload_n hX 3 rfl rfl d_Mo_layNumber_13 ?_
    refine G_bipush hX (by decide) d_Mo_layNumber_14 ?_
    refine G_iload_n hX 0 rfl rfl d_Mo_layNumber_16 ?_
    refine G_imul_z hX d_Mo_layNumber_17 ?_
    refine G_ishr hX d_Mo_layNumber_18 ?_
    refine G_top (show (zI v >>> (zI (7 * ((3 - 1) + (-1))) &&& 31)) = zI (v / 128) from zI_shr 7 (by omega) (by decide)) ?_
    refine G_bipush hX (by decide) d_Mo_layNumber_19 ?_
    refine G_iand hX d_Mo_layNumber_21 ?_
    refine G_top (show (zI (v / 128) &&& zI 127) = zI (v / 128 % 128) from zI_and127 _) ?_
    refine G_iload_n hX 0 rfl rfl d_Mo_layNumber_22 ?_
    refine G_if_le_z hX (tgt := 32) d_Mo_layNumber_23 rfl (by omega) (fun c72 => by exfalso; omega) (fun c73 => ?_)
    refine G_sipush hX (by decide) d_Mo_layNumber_26 ?_
    refine G_goto hX (tgt := 33) d_Mo_layNumber_29 rfl ?_
    refine G_iadd_z hX d_Mo_layNumber_33 ?_
    refine G_top (show zI ((v / 128 % 128) + 128) = zI (nby v 1) from congrArg zI (nb_31 hw9)) ?_
    have h74 : f61 61 = mob F := (k69 61 (by decide)).trans hMo
    refine F_callV hX (st := []) (c_Mo_lay2 E f61 F (nby v 1) pt'_64 ps'_65 D C (A ++ [nby v 0]) h74 hmk h66 h67 p68 (by first | omega | (simp only [List.length_append, List.length_cons, List.length_nil, Int.natCast_add, Int.natCast_one, Int.natCast_zero]; omega))) cm_Mo_lay im_Mo_lay se_Mo_lay rfl ml_Mo_301 d_Mo_layNumber_34 (by decide) h74 rfl rfl (Nat.le_of_ble_eq_true rfl) (by decide) ?_
    rintro _ f75 ⟨rfl, pt'_78, ps'_79, h80, h81, p82, k83⟩
    refine G_cast (st' := []) ?_ rfl rfl rfl rfl
    refine G_iinc_z hX (lv' := [(3, .int (zI (((3 - 1) + (-1)) + (-1)))), (0, .ref (eA E 61)), (1, .int (zI 2)), (2, .int (zI v))]) 0 rfl (by decide) rfl d_Mo_layNumber_37 ?_
    refine G_goto hX (tgt := 7) d_Mo_layNumber_40 rfl ?_
    refine G_iload_n hX 0 rfl rfl d_Mo_layNumber_7 ?_
    refine G_if_lt_z hX (tgt := 43) d_Mo_layNumber_8 rfl (by omega) (fun c84 => by exfalso; omega) (fun c85 => ?_)
    refine G_aload_n hX 1 rfl rfl d_Mo_layNumber_11 ?_
    refine G_iload_n hX 2 rfl rfl d_Mo_layNumber_12 ?_
    refine G_iload_n hX 3 rfl rfl d_Mo_layNumber_13 ?_
    refine G_bipush hX (by decide) d_Mo_layNumber_14 ?_
    refine G_iload_n hX 0 rfl rfl d_Mo_layNumber_16 ?_
    refine G_imul_z hX d_Mo_layNumber_17 ?_
    refine G_ishr hX d_Mo_layNumber_18 ?_
    refine G_top (show (zI v >>> (zI (7 * (((3 - 1) + (-1)) + (-1))) &&& 31)) = zI v from (zI_shr 0 (by omega) (by decide)).trans (congrArg zI (by omega))) ?_
    refine G_bipush hX (by decide) d_Mo_layNumber_19 ?_
    refine G_iand hX d_Mo_layNumber_21 ?_
    refine G_top (show (zI v &&& zI 127) = zI (v % 128) from zI_and127 _) ?_
    refine G_iload_n hX 0 rfl rfl d_Mo_layNumber_22 ?_
    refine G_if_le_z hX (tgt := 32) d_Mo_layNumber_23 rfl (by omega) (fun c86 => ?_) (fun c87 => by exfalso; omega)
    refine G_iconst hX d_Mo_layNumber_32 ?_
    refine G_iadd_z hX d_Mo_layNumber_33 ?_
    refine G_top (show zI ((v % 128) + 0) = zI (nby v 2) from congrArg zI (nb_32 hw9)) ?_
    have h88 : f75 61 = mob F := (k83 61 (by decide)).trans h74
    refine F_callV hX (st := []) (c_Mo_lay2 E f75 F (nby v 2) pt'_78 ps'_79 D C ((A ++ [nby v 0]) ++ [nby v 1]) h88 hmk h80 h81 p82 (by first | omega | (simp only [List.length_append, List.length_cons, List.length_nil, Int.natCast_add, Int.natCast_one, Int.natCast_zero]; omega))) cm_Mo_lay im_Mo_lay se_Mo_lay rfl ml_Mo_301 d_Mo_layNumber_34 (by decide) h88 rfl rfl (Nat.le_of_ble_eq_true rfl) (by decide) ?_
    rintro _ f89 ⟨rfl, pt'_92, ps'_93, h94, h95, p96, k97⟩
    refine G_cast (st' := []) ?_ rfl rfl rfl rfl
    refine G_iinc_z hX (lv' := [(3, .int (zI ((((3 - 1) + (-1)) + (-1)) + (-1)))), (0, .ref (eA E 61)), (1, .int (zI 2)), (2, .int (zI v))]) 0 rfl (by decide) rfl d_Mo_layNumber_37 ?_
    refine G_goto hX (tgt := 7) d_Mo_layNumber_40 rfl ?_
    refine G_iload_n hX 0 rfl rfl d_Mo_layNumber_7 ?_
    refine G_if_lt_z hX (tgt := 43) d_Mo_layNumber_8 rfl (by omega) (fun c98 => ?_) (fun c99 => by exfalso; omega)
    exact F_vret hX hE d_Mo_layNumber_43 ⟨rfl, _, _, h94, h95, (by rw [nbL_3 hw9]; simpa only [List.append_assoc, List.cons_append, List.nil_append] using p96), (Fr.tr (Fr.tr (Fr.tr Fr.rf k69 (by decide)) k83 (by decide)) k97 (by decide))⟩
  · skip
    refine G_iload_n hX 2 rfl rfl d_Mo_layNumber_0 ?_
    refine F_callS hX (st := []) (c_Mo_widthOf E f v (by omega)) cm_Mo_widthOf sm_Mo_widthOf ml_Mo_295 d_Mo_layNumber_1 rfl rfl (Nat.le_of_ble_eq_true rfl) (by decide) ?_
    rintro _ f100 ⟨rfl, e103⟩
    obtain rfl := e103.symm
    refine G_cast (st' := [.int (zI (wid v))]) ?_ rfl rfl rfl rfl
    refine G_top (show zI (wid v) = zI 4 from by rw [hw9]) ?_
    refine G_iconst hX d_Mo_layNumber_4 ?_
    refine G_isub_z hX d_Mo_layNumber_5 ?_
    refine G_istore_n hX (lv' := [(3, .int (zI (4 - 1))), (0, .ref (eA E 61)), (1, .int (zI 2)), (2, .int (zI v))]) rfl (by decide) rfl d_Mo_layNumber_6 ?_
    refine G_iload_n hX 0 rfl rfl d_Mo_layNumber_7 ?_
    refine G_if_lt_z hX (tgt := 43) d_Mo_layNumber_8 rfl (by omega) (fun c104 => by exfalso; omega) (fun c105 => ?_)
    refine G_aload_n hX 1 rfl rfl d_Mo_layNumber_11 ?_
    refine G_iload_n hX 2 rfl rfl d_Mo_layNumber_12 ?_
    refine G_iload_n hX 3 rfl rfl d_Mo_layNumber_13 ?_
    refine G_bipush hX (by decide) d_Mo_layNumber_14 ?_
    refine G_iload_n hX 0 rfl rfl d_Mo_layNumber_16 ?_
    refine G_imul_z hX d_Mo_layNumber_17 ?_
    refine G_ishr hX d_Mo_layNumber_18 ?_
    refine G_top (show (zI v >>> (zI (7 * (4 - 1)) &&& 31)) = zI (v / 2097152) from zI_shr 21 (by omega) (by decide)) ?_
    refine G_bipush hX (by decide) d_Mo_layNumber_19 ?_
    refine G_iand hX d_Mo_layNumber_21 ?_
    refine G_top (show (zI (v / 2097152) &&& zI 127) = zI (v / 2097152 % 128) from zI_and127 _) ?_
    refine G_iload_n hX 0 rfl rfl d_Mo_layNumber_22 ?_
    refine G_if_le_z hX (tgt := 32) d_Mo_layNumber_23 rfl (by omega) (fun c106 => by exfalso; omega) (fun c107 => ?_)
    refine G_sipush hX (by decide) d_Mo_layNumber_26 ?_
    refine G_goto hX (tgt := 33) d_Mo_layNumber_29 rfl ?_
    refine G_iadd_z hX d_Mo_layNumber_33 ?_
    refine G_top (show zI ((v / 2097152 % 128) + 128) = zI (nby v 0) from congrArg zI (nb_40 hw9 (by omega))) ?_
    refine F_callV hX (st := []) (c_Mo_lay2 E f F (nby v 0) pt ps D C A hMo hmk hc76 hc77 hr (by first | omega | (simp only [List.length_append, List.length_cons, List.length_nil, Int.natCast_add, Int.natCast_one, Int.natCast_zero]; omega))) cm_Mo_lay im_Mo_lay se_Mo_lay rfl ml_Mo_301 d_Mo_layNumber_34 (by decide) hMo rfl rfl (Nat.le_of_ble_eq_true rfl) (by decide) ?_
    rintro _ f108 ⟨rfl, pt'_111, ps'_112, h113, h114, p115, k116⟩
    refine G_cast (st' := []) ?_ rfl rfl rfl rfl
    refine G_iinc_z hX (lv' := [(3, .int (zI ((4 - 1) + (-1)))), (0, .ref (eA E 61)), (1, .int (zI 2)), (2, .int (zI v))]) 0 rfl (by decide) rfl d_Mo_layNumber_37 ?_
    refine G_goto hX (tgt := 7) d_Mo_layNumber_40 rfl ?_
    refine G_iload_n hX 0 rfl rfl d_Mo_layNumber_7 ?_
    refine G_if_lt_z hX (tgt := 43) d_Mo_layNumber_8 rfl (by omega) (fun c117 => by exfalso; omega) (fun c118 => ?_)
    refine G_aload_n hX 1 rfl rfl d_Mo_layNumber_11 ?_
    refine G_iload_n hX 2 rfl rfl d_Mo_layNumber_12 ?_
    refine G_iload_n hX 3 rfl rfl d_Mo_layNumber_13 ?_
    refine G_bipush hX (by decide) d_Mo_layNumber_14 ?_
    refine G_iload_n hX 0 rfl rfl d_Mo_layNumber_16 ?_
    refine G_imul_z hX d_Mo_layNumber_17 ?_
    refine G_ishr hX d_Mo_layNumber_18 ?_
    refine G_top (show (zI v >>> (zI (7 * ((4 - 1) + (-1))) &&& 31)) = zI (v / 16384) from zI_shr 14 (by omega) (by decide)) ?_
    refine G_bipush hX (by decide) d_Mo_layNumber_19 ?_
    refine G_iand hX d_Mo_layNumber_21 ?_
    refine G_top (show (zI (v / 16384) &&& zI 127) = zI (v / 16384 % 128) from zI_and127 _) ?_
    refine G_iload_n hX 0 rfl rfl d_Mo_layNumber_22 ?_
    refine G_if_le_z hX (tgt := 32) d_Mo_layNumber_23 rfl (by omega) (fun c119 => by exfalso; omega) (fun c120 => ?_)
    refine G_sipush hX (by decide) d_Mo_layNumber_26 ?_
    refine G_goto hX (tgt := 33) d_Mo_layNumber_29 rfl ?_
    refine G_iadd_z hX d_Mo_layNumber_33 ?_
    refine G_top (show zI ((v / 16384 % 128) + 128) = zI (nby v 1) from congrArg zI (nb_41 hw9)) ?_
    have h121 : f108 61 = mob F := (k116 61 (by decide)).trans hMo
    refine F_callV hX (st := []) (c_Mo_lay2 E f108 F (nby v 1) pt'_111 ps'_112 D C (A ++ [nby v 0]) h121 hmk h113 h114 p115 (by first | omega | (simp only [List.length_append, List.length_cons, List.length_nil, Int.natCast_add, Int.natCast_one, Int.natCast_zero]; omega))) cm_Mo_lay im_Mo_lay se_Mo_lay rfl ml_Mo_301 d_Mo_layNumber_34 (by decide) h121 rfl rfl (Nat.le_of_ble_eq_true rfl) (by decide) ?_
    rintro _ f122 ⟨rfl, pt'_125, ps'_126, h127, h128, p129, k130⟩
    refine G_cast (st' := []) ?_ rfl rfl rfl rfl
    refine G_iinc_z hX (lv' := [(3, .int (zI (((4 - 1) + (-1)) + (-1)))), (0, .ref (eA E 61)), (1, .int (zI 2)), (2, .int (zI v))]) 0 rfl (by decide) rfl d_Mo_layNumber_37 ?_
    refine G_goto hX (tgt := 7) d_Mo_layNumber_40 rfl ?_
    refine G_iload_n hX 0 rfl rfl d_Mo_layNumber_7 ?_
    refine G_if_lt_z hX (tgt := 43) d_Mo_layNumber_8 rfl (by omega) (fun c131 => by exfalso; omega) (fun c132 => ?_)
    refine G_aload_n hX 1 rfl rfl d_Mo_layNumber_11 ?_
    refine G_iload_n hX 2 rfl rfl d_Mo_layNumber_12 ?_
    refine G_iload_n hX 3 rfl rfl d_Mo_layNumber_13 ?_
    refine G_bipush hX (by decide) d_Mo_layNumber_14 ?_
    refine G_iload_n hX 0 rfl rfl d_Mo_layNumber_16 ?_
    refine G_imul_z hX d_Mo_layNumber_17 ?_
    refine G_ishr hX d_Mo_layNumber_18 ?_
    refine G_top (show (zI v >>> (zI (7 * (((4 - 1) + (-1)) + (-1))) &&& 31)) = zI (v / 128) from zI_shr 7 (by omega) (by decide)) ?_
    refine G_bipush hX (by decide) d_Mo_layNumber_19 ?_
    refine G_iand hX d_Mo_layNumber_21 ?_
    refine G_top (show (zI (v / 128) &&& zI 127) = zI (v / 128 % 128) from zI_and127 _) ?_
    refine G_iload_n hX 0 rfl rfl d_Mo_layNumber_22 ?_
    refine G_if_le_z hX (tgt := 32) d_Mo_layNumber_23 rfl (by omega) (fun c133 => by exfalso; omega) (fun c134 => ?_)
    refine G_sipush hX (by decide) d_Mo_layNumber_26 ?_
    refine G_goto hX (tgt := 33) d_Mo_layNumber_29 rfl ?_
    refine G_iadd_z hX d_Mo_layNumber_33 ?_
    refine G_top (show zI ((v / 128 % 128) + 128) = zI (nby v 2) from congrArg zI (nb_42 hw9)) ?_
    have h135 : f122 61 = mob F := (k130 61 (by decide)).trans h121
    refine F_callV hX (st := []) (c_Mo_lay2 E f122 F (nby v 2) pt'_125 ps'_126 D C ((A ++ [nby v 0]) ++ [nby v 1]) h135 hmk h127 h128 p129 (by first | omega | (simp only [List.length_append, List.length_cons, List.length_nil, Int.natCast_add, Int.natCast_one, Int.natCast_zero]; omega))) cm_Mo_lay im_Mo_lay se_Mo_lay rfl ml_Mo_301 d_Mo_layNumber_34 (by decide) h135 rfl rfl (Nat.le_of_ble_eq_true rfl) (by decide) ?_
    rintro _ f136 ⟨rfl, pt'_139, ps'_140, h141, h142, p143, k144⟩
    refine G_cast (st' := []) ?_ rfl rfl rfl rfl
    refine G_iinc_z hX (lv' := [(3, .int (zI ((((4 - 1) + (-1)) + (-1)) + (-1)))), (0, .ref (eA E 61)), (1, .int (zI 2)), (2, .int (zI v))]) 0 rfl (by decide) rfl d_Mo_layNumber_37 ?_
    refine G_goto hX (tgt := 7) d_Mo_layNumber_40 rfl ?_
    refine G_iload_n hX 0 rfl rfl d_Mo_layNumber_7 ?_
    refine G_if_lt_z hX (tgt := 43) d_Mo_layNumber_8 rfl (by omega) (fun c145 => by exfalso; omega) (fun c146 => ?_)
    refine G_aload_n hX 1 rfl rfl d_Mo_layNumber_11 ?_
    refine G_iload_n hX 2 rfl rfl d_Mo_layNumber_12 ?_
    refine G_iload_n hX 3 rfl rfl d_Mo_layNumber_13 ?_
    refine G_bipush hX (by decide) d_Mo_layNumber_14 ?_
    refine G_iload_n hX 0 rfl rfl d_Mo_layNumber_16 ?_
    refine G_imul_z hX d_Mo_layNumber_17 ?_
    refine G_ishr hX d_Mo_layNumber_18 ?_
    refine G_top (show (zI v >>> (zI (7 * ((((4 - 1) + (-1)) + (-1)) + (-1))) &&& 31)) = zI v from (zI_shr 0 (by omega) (by decide)).trans (congrArg zI (by omega))) ?_
    refine G_bipush hX (by decide) d_Mo_layNumber_19 ?_
    refine G_iand hX d_Mo_layNumber_21 ?_
    refine G_top (show (zI v &&& zI 127) = zI (v % 128) from zI_and127 _) ?_
    refine G_iload_n hX 0 rfl rfl d_Mo_layNumber_22 ?_
    refine G_if_le_z hX (tgt := 32) d_Mo_layNumber_23 rfl (by omega) (fun c147 => ?_) (fun c148 => by exfalso; omega)
    refine G_iconst hX d_Mo_layNumber_32 ?_
    refine G_iadd_z hX d_Mo_layNumber_33 ?_
    refine G_top (show zI ((v % 128) + 0) = zI (nby v 3) from congrArg zI (nb_43 hw9)) ?_
    have h149 : f136 61 = mob F := (k144 61 (by decide)).trans h135
    refine F_callV hX (st := []) (c_Mo_lay2 E f136 F (nby v 3) pt'_139 ps'_140 D C (((A ++ [nby v 0]) ++ [nby v 1]) ++ [nby v 2]) h149 hmk h141 h142 p143 (by first | omega | (simp only [List.length_append, List.length_cons, List.length_nil, Int.natCast_add, Int.natCast_one, Int.natCast_zero]; omega))) cm_Mo_lay im_Mo_lay se_Mo_lay rfl ml_Mo_301 d_Mo_layNumber_34 (by decide) h149 rfl rfl (Nat.le_of_ble_eq_true rfl) (by decide) ?_
    rintro _ f150 ⟨rfl, pt'_153, ps'_154, h155, h156, p157, k158⟩
    refine G_cast (st' := []) ?_ rfl rfl rfl rfl
    refine G_iinc_z hX (lv' := [(3, .int (zI (((((4 - 1) + (-1)) + (-1)) + (-1)) + (-1)))), (0, .ref (eA E 61)), (1, .int (zI 2)), (2, .int (zI v))]) 0 rfl (by decide) rfl d_Mo_layNumber_37 ?_
    refine G_goto hX (tgt := 7) d_Mo_layNumber_40 rfl ?_
    refine G_iload_n hX 0 rfl rfl d_Mo_layNumber_7 ?_
    refine G_if_lt_z hX (tgt := 43) d_Mo_layNumber_8 rfl (by omega) (fun c159 => ?_) (fun c160 => by exfalso; omega)
    exact F_vret hX hE d_Mo_layNumber_43 ⟨rfl, _, _, h155, h156, (by rw [nbL_4 hw9]; simpa only [List.append_assoc, List.cons_append, List.nil_append] using p157), (Fr.tr (Fr.tr (Fr.tr (Fr.tr Fr.rf k116 (by decide)) k130 (by decide)) k144 (by decide)) k158 (by decide))⟩
theorem kz_s {g : Int → Int} {t : Int} (h : 0 ≤ t) : uz (kz g t 0) t 0 = kz g (t + 1) 0 := by
  funext k
  unfold uz kz
  by_cases e : k = t
  · rw [if_pos e, if_pos (by omega)]
  · rw [if_neg e]
    by_cases e2 : k < t
    · rw [if_pos e2, if_pos (by omega)]
    · rw [if_neg e2, if_neg (by omega)]
theorem c_Mo_beginRows (E : EV) (f : Nat → va_E) (F : Nat → Value) (N : Int) (S : Int) (nr : Int → Int) (sm : Int → Int) (hMo : f 61 = mob F) (hmk : moK E F) (hc78 : f 78 = iz E 8 nr) (hc79 : f 79 = iz E 1024 sm) : CF yn_Mo_beginRows cd_Mo_beginRows 4 none 0 E [.ref (eA E 61), .int (zI N), .int (zI S)] f (fun r f' => r = none ∧ ∃ (F' : Nat → Value), f' 61 = mob F' ∧ F' 25 = .int (zI N) ∧ F' 26 = .int (zI S) ∧ F' 27 = .int (zI 0) ∧ FrF [25, 26, 27] F F' ∧ f' 78 = iz E 8 (fun _ => 0) ∧ f' 79 = iz E 1024 (fun _ => 0) ∧ Fr [78, 79, 61] f f') := by
  refine CF.of (by decide +kernel) (Nat.le_of_ble_eq_true rfl) fun X hX hE => ?_
  have hX : Ok E X "DeltaFerryModel" "beginRows" cd_Mo_beginRows 4 none (rl 0) := hX
  refine G_cast (lv' := [(0, .ref (eA E 61)), (1, .int (zI N)), (2, .int (zI S))]) ?_ rfl rfl rfl rfl
  refine G_aload_n hX 0 rfl rfl d_Mo_beginRows_0 ?_
  refine G_iload_n hX 1 rfl rfl d_Mo_beginRows_1 ?_
  refine M_put hX fg_Mo_278 fp_Mo_25 d_Mo_beginRows_2 hMo rfl rfl (by decide) (fun f1 F2 h3 h4 k5 k6 => ?_)
  refine G_aload_n hX 0 rfl rfl d_Mo_beginRows_5 ?_
  refine G_iload_n hX 2 rfl rfl d_Mo_beginRows_6 ?_
  refine M_put hX fg_Mo_281 fp_Mo_26 d_Mo_beginRows_7 h3 rfl rfl (by decide) (fun f7 F8 h9 h10 k11 k12 => ?_)
  refine G_aload_n hX 0 rfl rfl d_Mo_beginRows_10 ?_
  refine G_iconst hX d_Mo_beginRows_11 ?_
  refine M_put hX fg_Mo_284 fp_Mo_27 d_Mo_beginRows_12 h9 rfl rfl (by decide) (fun f13 F14 h15 h16 k17 k18 => ?_)
  refine G_iconst hX d_Mo_beginRows_15 ?_
  refine G_istore_n hX (lv' := [(3, .int (zI 0)), (0, .ref (eA E 61)), (1, .int (zI N)), (2, .int (zI S))]) rfl (by decide) rfl d_Mo_beginRows_16 ?_
  have h19 : f13 78 = iz E 8 nr := (k18 78 (by decide)).trans ((k12 78 (by decide)).trans ((k6 78 (by decide)).trans hc78))
  refine F_nrmz 78 (kz nr 0 0) (by decide) h19 (fun j h1 h2 => (if_neg (by omega)).symm) (fun f20 h21 k22 => ?_)
  have loop23 : ∀ (q : Nat) (t : Int) (f24 : Nat → va_E), (8 - t).toNat < q → (0 ≤ t ∧ t ≤ 8) → f24 78 = iz E 8 (kz nr t 0) → Fr [78] f20 f24 → G E X 0 0 17 [(0, .ref (eA E 61)), (3, .int (zI t))] [] (wl E f24) := by
    intro q
    induction q with
    | zero => intro t f24 hms26; exact absurd hms26 (Nat.not_lt_zero _)
    | succ q ih27 =>
      intro t f24 hms26 ht h28 k25
      refine G_iload_n hX 1 rfl rfl d_Mo_beginRows_17 ?_
      refine G_bipush hX (by decide) d_Mo_beginRows_18 ?_
      refine G_icmp_ge_z hX (tgt := 36) d_Mo_beginRows_20 rfl (by omega) (fun c29 => ?_) (fun c30 => ?_)
      · skip
        refine G_iconst hX d_Mo_beginRows_36 ?_
        refine G_istore_n hX (lv' := [(3, .int (zI 0)), (0, .ref (eA E 61))]) rfl (by decide) rfl d_Mo_beginRows_37 ?_
        obtain rfl : t = 8 := by omega
        refine F_nrmz 78 (fun _ => 0) (by decide) h28 (fun j h1 h2 => if_pos (by omega)) (fun f31 h32 k33 => ?_)
        have h34 : f31 79 = iz E 1024 sm := (k33 79 (by decide)).trans ((k25 79 (by decide)).trans ((k22 79 (by decide)).trans ((k18 79 (by decide)).trans ((k12 79 (by decide)).trans ((k6 79 (by decide)).trans hc79)))))
        refine F_nrmz 79 (kz sm 0 0) (by decide) h34 (fun j h1 h2 => (if_neg (by omega)).symm) (fun f35 h36 k37 => ?_)
        have loop38 : ∀ (q : Nat) (u : Int) (f39 : Nat → va_E), (1024 - u).toNat < q → (0 ≤ u ∧ u ≤ 1024) → f39 79 = iz E 1024 (kz sm u 0) → Fr [79] f35 f39 → G E X 0 0 38 [(0, .ref (eA E 61)), (3, .int (zI u))] [] (wl E f39) := by
          intro q
          induction q with
          | zero => intro u f39 hms41; exact absurd hms41 (Nat.not_lt_zero _)
          | succ q ih42 =>
            intro u f39 hms41 hu h43 k40
            refine G_iload_n hX 1 rfl rfl d_Mo_beginRows_38 ?_
            refine G_sipush hX (by decide) d_Mo_beginRows_39 ?_
            refine G_icmp_ge_z hX (tgt := 58) d_Mo_beginRows_42 rfl (by omega) (fun c44 => ?_) (fun c45 => ?_)
            · skip
              obtain rfl : u = 1024 := by omega
              refine F_nrmz 79 (fun _ => 0) (by decide) h43 (fun j h1 h2 => if_pos (by omega)) (fun f46 h47 k48 => ?_)
              have h49 : f46 61 = mob F14 := (k48 61 (by decide)).trans ((k40 61 (by decide)).trans ((k37 61 (by decide)).trans ((k33 61 (by decide)).trans ((k25 61 (by decide)).trans ((k22 61 (by decide)).trans h15)))))
              have h50 : F14 25 = .int (zI N) := (k17 25 (by decide)).trans ((k11 25 (by decide)).trans h4)
              have h51 : F14 26 = .int (zI S) := (k17 26 (by decide)).trans h10
              have h52 : f46 78 = iz E 8 (fun _ => 0) := (k48 78 (by decide)).trans ((k40 78 (by decide)).trans ((k37 78 (by decide)).trans h32))
              exact F_vret hX hE d_Mo_beginRows_58 ⟨rfl, F14, h49, h50, h51, h16, (FrF.tr (FrF.tr (FrF.tr FrF.rf k5 (by decide)) k11 (by decide)) k17 (by decide)), h52, h47, (Fr.tr (Fr.tr (Fr.tr (Fr.tr (Fr.tr (Fr.tr (Fr.tr (Fr.tr (Fr.tr Fr.rf k6 (by decide)) k12 (by decide)) k18 (by decide)) k22 (by decide)) k25 (by decide)) k33 (by decide)) k37 (by decide)) k40 (by decide)) k48 (by decide))⟩
            · skip
              refine G_aload_n hX 0 rfl rfl d_Mo_beginRows_45 ?_
              have h53 : f39 61 = mob F14 := (k40 61 (by decide)).trans ((k37 61 (by decide)).trans ((k33 61 (by decide)).trans ((k25 61 (by decide)).trans ((k22 61 (by decide)).trans h15))))
              have h54 : F14 29 = .ref (eA E 79) := (k17 29 (by decide)).trans ((k11 29 (by decide)).trans ((k5 29 (by decide)).trans (hmk 29 79 (by decide))))
              refine M_get hX fg_Mo_133 d_Mo_beginRows_46 h53 (by decide) h54 ?_
              refine G_iload_n hX 1 rfl rfl d_Mo_beginRows_49 ?_
              refine G_iconst hX d_Mo_beginRows_50 ?_
              refine F_iast hX d_Mo_beginRows_51 79 (by decide) h43 (by omega) (fun f55 h56 k57 => ?_)
              refine G_iinc_z hX (lv' := [(3, .int (zI (u + 1))), (0, .ref (eA E 61))]) 1 rfl (by decide) rfl d_Mo_beginRows_52 ?_
              refine G_goto hX (tgt := 38) d_Mo_beginRows_55 rfl ?_
              refine G_loc (lv' := [(0, .ref (eA E 61)), (3, .int (zI (u + 1)))]) [1, 0] rfl ?_
              exact ih42 (u + 1) f55 (by omega) (by omega) (by rw [← kz_s hu.1]; exact h56) (Fr.tr (Fr.tr Fr.rf k40 (by decide)) k57 (by decide))
        refine G_loc (lv' := [(0, .ref (eA E 61)), (3, .int (zI 0))]) [1, 0] rfl ?_
        exact loop38 (_ + 1) 0 f35 (Nat.lt_succ_self _) (by omega) h36 Fr.rf
      · skip
        refine G_aload_n hX 0 rfl rfl d_Mo_beginRows_23 ?_
        have h58 : f24 61 = mob F14 := (k25 61 (by decide)).trans ((k22 61 (by decide)).trans h15)
        have h59 : F14 28 = .ref (eA E 78) := (k17 28 (by decide)).trans ((k11 28 (by decide)).trans ((k5 28 (by decide)).trans (hmk 28 78 (by decide))))
        refine M_get hX fg_Mo_130 d_Mo_beginRows_24 h58 (by decide) h59 ?_
        refine G_iload_n hX 1 rfl rfl d_Mo_beginRows_27 ?_
        refine G_iconst hX d_Mo_beginRows_28 ?_
        refine F_iast hX d_Mo_beginRows_29 78 (by decide) h28 (by omega) (fun f60 h61 k62 => ?_)
        refine G_iinc_z hX (lv' := [(3, .int (zI (t + 1))), (0, .ref (eA E 61))]) 1 rfl (by decide) rfl d_Mo_beginRows_30 ?_
        refine G_goto hX (tgt := 17) d_Mo_beginRows_33 rfl ?_
        refine G_loc (lv' := [(0, .ref (eA E 61)), (3, .int (zI (t + 1)))]) [1, 0] rfl ?_
        exact ih27 (t + 1) f60 (by omega) (by omega) (by rw [← kz_s ht.1]; exact h61) (Fr.tr (Fr.tr Fr.rf k25 (by decide)) k62 (by decide))
  refine G_loc (lv' := [(0, .ref (eA E 61)), (3, .int (zI 0))]) [1, 0] rfl ?_
  exact loop23 (_ + 1) 0 f20 (Nat.lt_succ_self _) (by omega) h21 Fr.rf
theorem c_Mo_note (E : EV) (f : Nat → va_E) (F : Nat → Value) (a : Int) (N : Int) (S : Int) (T : Int) (nr : Int → Int) (sm : Int → Int) (hMo : f 61 = mob F) (hmk : moK E F) (hF25 : F 25 = .int (zI N)) (hF26 : F 26 = .int (zI S)) (hF27 : F 27 = .int (zI T)) (hc78 : f 78 = iz E 8 nr) (hc79 : f 79 = iz E 1024 sm) (hN : 0 ≤ N ∧ N ≤ 8 ∧ 0 ≤ S ∧ S ≤ 4) (hT : 0 ≤ T ∧ T < 8 ∧ (0 < N → T < N)) (ha : 0 ≤ a ∧ a < 100000) : CF yn_Mo_note cd_Mo_note 2 none 0 E [.ref (eA E 61), .int (zI a)] f (fun r f' => r = none ∧ ∃ (F' : Nat → Value), f' 61 = mob F' ∧ F' 27 = .int (zI (rmT N T)) ∧ FrF [27] F F' ∧ f' 78 = iz E 8 (rmN nr N T a) ∧ f' 79 = iz E 1024 (rmS sm S a) ∧ Fr [78, 79, 61] f f') := by
  refine CF.of (by decide +kernel) (Nat.le_of_ble_eq_true rfl) fun X hX hE => ?_
  have hX : Ok E X "DeltaFerryModel" "note" cd_Mo_note 2 none (rl 0) := hX
  refine G_cast (lv' := [(0, .ref (eA E 61)), (1, .int (zI a))]) ?_ rfl rfl rfl rfl
  refine G_aload_n hX 0 rfl rfl d_Mo_note_0 ?_
  refine M_get hX fg_Mo_278 d_Mo_note_1 hMo (by decide) hF25 ?_
  refine G_if_le_z hX (tgt := 44) d_Mo_note_4 rfl (by omega) (fun c1 => ?_) (fun c2 => ?_)
  · skip
    refine G_aload_n hX 0 rfl rfl d_Mo_note_44 ?_
    refine M_get hX fg_Mo_281 d_Mo_note_45 hMo (by decide) hF26 ?_
    refine G_if_le_z hX (tgt := 67) d_Mo_note_48 rfl (by omega) (fun c3 => ?_) (fun c4 => ?_)
    · skip
      exact F_vret hX hE d_Mo_note_67 ⟨rfl, F, hMo, (by unfold rmT; rw [if_neg (by omega)]; exact hF27), FrF.rf, (by unfold rmN; rw [if_neg (by omega)]; exact hc78), (by unfold rmS; rw [if_neg (by omega)]; exact hc79), Fr.rf⟩
    · skip
      have hem := emod_b a (m := 256 * S) (by omega)
      refine G_aload_n hX 0 rfl rfl d_Mo_note_51 ?_
      refine M_get hX fg_Mo_133 d_Mo_note_52 hMo (by decide) (hmk 29 79 (by decide)) ?_
      refine G_iload_n hX 1 rfl rfl d_Mo_note_55 ?_
      refine G_sipush hX (by decide) d_Mo_note_56 ?_
      refine G_aload_n hX 0 rfl rfl d_Mo_note_59 ?_
      refine M_get hX fg_Mo_281 d_Mo_note_60 hMo (by decide) hF26 ?_
      refine G_imul_z hX d_Mo_note_63 ?_
      refine G_irem_z hX (by omega) d_Mo_note_64 ?_
      refine G_iload_n hX 1 rfl rfl d_Mo_note_65 ?_
      refine F_iast hX d_Mo_note_66 79 (by decide) hc79 (by omega) (fun f5 h6 k7 => ?_)
      have h8 : f5 78 = iz E 8 nr := (k7 78 (by decide)).trans hc78
      have h9 : f5 61 = mob F := (k7 61 (by decide)).trans hMo
      exact F_vret hX hE d_Mo_note_67 ⟨rfl, F, h9, (by unfold rmT; rw [if_neg (by omega)]; exact hF27), FrF.rf, (by unfold rmN; rw [if_neg (by omega)]; exact h8), (by unfold rmS; rw [if_pos (by omega)]; exact h6), (Fr.tr Fr.rf k7 (by decide))⟩
  · skip
    refine G_aload_n hX 0 rfl rfl d_Mo_note_7 ?_
    refine M_get hX fg_Mo_130 d_Mo_note_8 hMo (by decide) (hmk 28 78 (by decide)) ?_
    refine G_aload_n hX 0 rfl rfl d_Mo_note_11 ?_
    refine M_get hX fg_Mo_284 d_Mo_note_12 hMo (by decide) hF27 ?_
    refine G_iload_n hX 1 rfl rfl d_Mo_note_15 ?_
    refine F_iast hX d_Mo_note_16 78 (by decide) hc78 (by omega) (fun f10 h11 k12 => ?_)
    refine G_aload_n hX 0 rfl rfl d_Mo_note_17 ?_
    refine G_aload_n hX 0 rfl rfl d_Mo_note_18 ?_
    have h13 : f10 61 = mob F := (k12 61 (by decide)).trans hMo
    refine M_get hX fg_Mo_284 d_Mo_note_19 h13 (by decide) hF27 ?_
    refine G_iconst hX d_Mo_note_22 ?_
    refine G_iadd_z hX d_Mo_note_23 ?_
    refine G_aload_n hX 0 rfl rfl d_Mo_note_24 ?_
    refine M_get hX fg_Mo_278 d_Mo_note_25 h13 (by decide) hF25 ?_
    refine G_icmp_ne_z hX (tgt := 35) d_Mo_note_28 rfl (by omega) (fun c14 => ?_) (fun c15 => ?_)
    · skip
      refine G_aload_n hX 0 rfl rfl d_Mo_note_35 ?_
      refine M_get hX fg_Mo_284 d_Mo_note_36 h13 (by decide) hF27 ?_
      refine G_iconst hX d_Mo_note_39 ?_
      refine G_iadd_z hX d_Mo_note_40 ?_
      refine M_put hX fg_Mo_284 fp_Mo_27 d_Mo_note_41 h13 rfl rfl (by decide) (fun f16 F17 h18 h19 k20 k21 => ?_)
      refine G_aload_n hX 0 rfl rfl d_Mo_note_44 ?_
      have h22 : F17 26 = .int (zI S) := (k20 26 (by decide)).trans hF26
      refine M_get hX fg_Mo_281 d_Mo_note_45 h18 (by decide) h22 ?_
      refine G_if_le_z hX (tgt := 67) d_Mo_note_48 rfl (by omega) (fun c23 => ?_) (fun c24 => ?_)
      · skip
        have h25 : f16 78 = iz E 8 (uz nr T a) := (k21 78 (by decide)).trans h11
        have h26 : f16 79 = iz E 1024 sm := (k21 79 (by decide)).trans ((k12 79 (by decide)).trans hc79)
        exact F_vret hX hE d_Mo_note_67 ⟨rfl, F17, h18, (by unfold rmT; rw [if_pos (by omega), Int.emod_eq_of_lt (by omega) (by omega)]; exact h19), (FrF.tr FrF.rf k20 (by decide)), (by unfold rmN; rw [if_pos (by omega)]; exact h25), (by unfold rmS; rw [if_neg (by omega)]; exact h26), (Fr.tr (Fr.tr Fr.rf k12 (by decide)) k21 (by decide))⟩
      · skip
        have hem := emod_b a (m := 256 * S) (by omega)
        refine G_aload_n hX 0 rfl rfl d_Mo_note_51 ?_
        have h27 : F17 29 = .ref (eA E 79) := (k20 29 (by decide)).trans (hmk 29 79 (by decide))
        refine M_get hX fg_Mo_133 d_Mo_note_52 h18 (by decide) h27 ?_
        refine G_iload_n hX 1 rfl rfl d_Mo_note_55 ?_
        refine G_sipush hX (by decide) d_Mo_note_56 ?_
        refine G_aload_n hX 0 rfl rfl d_Mo_note_59 ?_
        refine M_get hX fg_Mo_281 d_Mo_note_60 h18 (by decide) h22 ?_
        refine G_imul_z hX d_Mo_note_63 ?_
        refine G_irem_z hX (by omega) d_Mo_note_64 ?_
        refine G_iload_n hX 1 rfl rfl d_Mo_note_65 ?_
        have h28 : f16 79 = iz E 1024 sm := (k21 79 (by decide)).trans ((k12 79 (by decide)).trans hc79)
        refine F_iast hX d_Mo_note_66 79 (by decide) h28 (by omega) (fun f29 h30 k31 => ?_)
        have h32 : f29 78 = iz E 8 (uz nr T a) := (k31 78 (by decide)).trans ((k21 78 (by decide)).trans h11)
        have h33 : f29 61 = mob F17 := (k31 61 (by decide)).trans h18
        exact F_vret hX hE d_Mo_note_67 ⟨rfl, F17, h33, (by unfold rmT; rw [if_pos (by omega), Int.emod_eq_of_lt (by omega) (by omega)]; exact h19), (FrF.tr FrF.rf k20 (by decide)), (by unfold rmN; rw [if_pos (by omega)]; exact h32), (by unfold rmS; rw [if_pos (by omega)]; exact h30), (Fr.tr (Fr.tr (Fr.tr Fr.rf k12 (by decide)) k21 (by decide)) k31 (by decide))⟩
    · skip
      refine G_iconst hX d_Mo_note_31 ?_
      refine G_goto hX (tgt := 41) d_Mo_note_32 rfl ?_
      refine M_put hX fg_Mo_284 fp_Mo_27 d_Mo_note_41 h13 rfl rfl (by decide) (fun f34 F35 h36 h37 k38 k39 => ?_)
      refine G_aload_n hX 0 rfl rfl d_Mo_note_44 ?_
      have h40 : F35 26 = .int (zI S) := (k38 26 (by decide)).trans hF26
      refine M_get hX fg_Mo_281 d_Mo_note_45 h36 (by decide) h40 ?_
      refine G_if_le_z hX (tgt := 67) d_Mo_note_48 rfl (by omega) (fun c41 => ?_) (fun c42 => ?_)
      · skip
        have h43 : f34 78 = iz E 8 (uz nr T a) := (k39 78 (by decide)).trans h11
        have h44 : f34 79 = iz E 1024 sm := (k39 79 (by decide)).trans ((k12 79 (by decide)).trans hc79)
        exact F_vret hX hE d_Mo_note_67 ⟨rfl, F35, h36, (by unfold rmT; rw [if_pos (by omega), show T + 1 = N by omega, Int.emod_self]; exact h37), (FrF.tr FrF.rf k38 (by decide)), (by unfold rmN; rw [if_pos (by omega)]; exact h43), (by unfold rmS; rw [if_neg (by omega)]; exact h44), (Fr.tr (Fr.tr Fr.rf k12 (by decide)) k39 (by decide))⟩
      · skip
        have hem := emod_b a (m := 256 * S) (by omega)
        refine G_aload_n hX 0 rfl rfl d_Mo_note_51 ?_
        have h45 : F35 29 = .ref (eA E 79) := (k38 29 (by decide)).trans (hmk 29 79 (by decide))
        refine M_get hX fg_Mo_133 d_Mo_note_52 h36 (by decide) h45 ?_
        refine G_iload_n hX 1 rfl rfl d_Mo_note_55 ?_
        refine G_sipush hX (by decide) d_Mo_note_56 ?_
        refine G_aload_n hX 0 rfl rfl d_Mo_note_59 ?_
        refine M_get hX fg_Mo_281 d_Mo_note_60 h36 (by decide) h40 ?_
        refine G_imul_z hX d_Mo_note_63 ?_
        refine G_irem_z hX (by omega) d_Mo_note_64 ?_
        refine G_iload_n hX 1 rfl rfl d_Mo_note_65 ?_
        have h46 : f34 79 = iz E 1024 sm := (k39 79 (by decide)).trans ((k12 79 (by decide)).trans hc79)
        refine F_iast hX d_Mo_note_66 79 (by decide) h46 (by omega) (fun f47 h48 k49 => ?_)
        have h50 : f47 78 = iz E 8 (uz nr T a) := (k49 78 (by decide)).trans ((k39 78 (by decide)).trans h11)
        have h51 : f47 61 = mob F35 := (k49 61 (by decide)).trans h36
        exact F_vret hX hE d_Mo_note_67 ⟨rfl, F35, h51, (by unfold rmT; rw [if_pos (by omega), show T + 1 = N by omega, Int.emod_self]; exact h37), (FrF.tr FrF.rf k38 (by decide)), (by unfold rmN; rw [if_pos (by omega)]; exact h50), (by unfold rmS; rw [if_pos (by omega)]; exact h48), (Fr.tr (Fr.tr (Fr.tr Fr.rf k12 (by decide)) k39 (by decide)) k49 (by decide))⟩
theorem c_Mo_toldBy (E : EV) (f : Nat → va_E) (F : Nat → Value) (md : Int) (a : Int) (here : Int) (nr : Int → Int) (hMo : f 61 = mob F) (hmk : moK E F) (hc78 : f 78 = iz E 8 nr) (hm : 0 ≤ md ∧ md ≤ 9) (ha : 0 ≤ a ∧ a < 100000) (hh : 0 ≤ here ∧ here < 100000) (hnr : ∀ k, 0 ≤ nr k ∧ nr k ≤ 100000) : CF yn_Mo_toldBy cd_Mo_toldBy 5 (some (.int)) 0 E [.ref (eA E 61), .int (zI md), .int (zI a), .int (zI here)] f (fun r f' => r = some (.int (zI (if nbF nr md a here < 0 then -1 else nbF nr md a here))) ∧ f' = f) := by
  refine CF.of (by decide +kernel) (Nat.le_of_ble_eq_true rfl) fun X hX hE => ?_
  have hX : Ok E X "DeltaFerryModel" "toldBy" cd_Mo_toldBy 5 (some (.int)) (rl 0) := hX
  refine G_cast (lv' := [(0, .ref (eA E 61)), (1, .int (zI md)), (2, .int (zI a)), (3, .int (zI here))]) ?_ rfl rfl rfl rfl
  refine G_iload_n hX 1 rfl rfl d_Mo_toldBy_0 ?_
  refine G_if_ne_z hX (tgt := 8) d_Mo_toldBy_1 rfl (by omega) (fun c1 => ?_) (fun c2 => ?_)
  · skip
    refine G_iload_n hX 1 rfl rfl d_Mo_toldBy_8 ?_
    refine G_iconst hX d_Mo_toldBy_9 ?_
    refine G_icmp_ne_z hX (tgt := 19) d_Mo_toldBy_10 rfl (by omega) (fun c3 => ?_) (fun c4 => ?_)
    · skip
      refine G_iload_n hX 2 rfl rfl d_Mo_toldBy_19 ?_
      refine G_aload_n hX 0 rfl rfl d_Mo_toldBy_20 ?_
      refine M_get hX fg_Mo_130 d_Mo_toldBy_21 hMo (by decide) (hmk 28 78 (by decide)) ?_
      refine G_iload_n hX 1 rfl rfl d_Mo_toldBy_24 ?_
      refine G_iconst hX d_Mo_toldBy_25 ?_
      refine G_isub_z hX d_Mo_toldBy_26 ?_
      refine F_iald hX d_Mo_toldBy_27 78 (by decide) hc78 (by omega) ?_
      have b5 := hnr (md - 2)
      refine G_isub_z hX d_Mo_toldBy_28 ?_
      have hv9 : nbF nr md a here = a - (nr (md - 2)) := by unfold nbF; rw [if_neg (by omega), if_neg (by omega)]
      refine G_istore hX (lv' := [(4, .int (zI (a - (nr (md - 2))))), (0, .ref (eA E 61)), (1, .int (zI md)), (2, .int (zI a)), (3, .int (zI here))]) (by decide) rfl d_Mo_toldBy_29 ?_
      refine G_iload hX 0 rfl d_Mo_toldBy_31 ?_
      refine G_if_ge_z hX (tgt := 40) d_Mo_toldBy_33 rfl (by omega) (fun c6 => ?_) (fun c7 => ?_)
      · skip
        refine G_iload hX 0 rfl d_Mo_toldBy_40 ?_
        exact F_iret hX hE d_Mo_toldBy_42 ⟨by rw [hv9, if_neg (by omega)], rfl⟩
      · skip
        refine G_iconst hX d_Mo_toldBy_36 ?_
        refine G_goto hX (tgt := 42) d_Mo_toldBy_37 rfl ?_
        exact F_iret hX hE d_Mo_toldBy_42 ⟨by rw [hv9, if_pos (by omega)], rfl⟩
    · skip
      refine G_iload_n hX 3 rfl rfl d_Mo_toldBy_13 ?_
      refine G_iload_n hX 2 rfl rfl d_Mo_toldBy_14 ?_
      refine G_isub_z hX d_Mo_toldBy_15 ?_
      refine G_goto hX (tgt := 29) d_Mo_toldBy_16 rfl ?_
      have hv9 : nbF nr md a here = here - a := by unfold nbF; rw [if_neg (by omega), if_pos (by omega)]
      refine G_istore hX (lv' := [(4, .int (zI (here - a))), (0, .ref (eA E 61)), (1, .int (zI md)), (2, .int (zI a)), (3, .int (zI here))]) (by decide) rfl d_Mo_toldBy_29 ?_
      refine G_iload hX 0 rfl d_Mo_toldBy_31 ?_
      refine G_if_ge_z hX (tgt := 40) d_Mo_toldBy_33 rfl (by omega) (fun c8 => ?_) (fun c9 => ?_)
      · skip
        refine G_iload hX 0 rfl d_Mo_toldBy_40 ?_
        exact F_iret hX hE d_Mo_toldBy_42 ⟨by rw [hv9, if_neg (by omega)], rfl⟩
      · skip
        refine G_iconst hX d_Mo_toldBy_36 ?_
        refine G_goto hX (tgt := 42) d_Mo_toldBy_37 rfl ?_
        exact F_iret hX hE d_Mo_toldBy_42 ⟨by rw [hv9, if_pos (by omega)], rfl⟩
  · skip
    refine G_iload_n hX 2 rfl rfl d_Mo_toldBy_4 ?_
    refine G_goto hX (tgt := 29) d_Mo_toldBy_5 rfl ?_
    have hv9 : nbF nr md a here = a := by unfold nbF; rw [if_pos (by omega)]
    refine G_istore hX (lv' := [(4, .int (zI a)), (0, .ref (eA E 61)), (1, .int (zI md)), (2, .int (zI a)), (3, .int (zI here))]) (by decide) rfl d_Mo_toldBy_29 ?_
    refine G_iload hX 0 rfl d_Mo_toldBy_31 ?_
    refine G_if_ge_z hX (tgt := 40) d_Mo_toldBy_33 rfl (by omega) (fun c10 => ?_) (fun c11 => ?_)
    · skip
      refine G_iload hX 0 rfl d_Mo_toldBy_40 ?_
      exact F_iret hX hE d_Mo_toldBy_42 ⟨by rw [hv9, if_neg (by omega)], rfl⟩
    · skip
      refine G_iconst hX d_Mo_toldBy_36 ?_
      refine G_goto hX (tgt := 42) d_Mo_toldBy_37 rfl ?_
      exact F_iret hX hE d_Mo_toldBy_42 ⟨by rw [hv9, if_pos (by omega)], rfl⟩
theorem c_Mo_modeFor (E : EV) (f : Nat → va_E) (F : Nat → Value) (a : Int) (here : Int) (nr : Int → Int) (sm : Int → Int) (hMo : f 61 = mob F) (hmk : moK E F) (hc78 : f 78 = iz E 8 nr) (hc79 : f 79 = iz E 1024 sm) (ha : 0 ≤ a ∧ a < 100000) (hh : 0 ≤ here ∧ here < 100000) (hnr : ∀ k, 0 ≤ nr k ∧ nr k ≤ 100000) (hsm : ∀ k, 0 ≤ sm k ∧ sm k ≤ 100000) : CF yn_Mo_modeFor cd_Mo_modeFor 6 (some (.int)) 1 E [.ref (eA E 61), .int (zI a), .int (zI here)] f (fun r f' => r = some (.int (zI (mdF nr sm 4 3 a here))) ∧ f' = f) := by
  refine CF.of (by decide +kernel) (Nat.le_of_ble_eq_true rfl) fun X hX hE => ?_
  have hX : Ok E X "DeltaFerryModel" "modeFor" cd_Mo_modeFor 6 (some (.int)) (rl 1) := hX
  refine G_cast (lv' := [(0, .ref (eA E 61)), (1, .int (zI a)), (2, .int (zI here))]) ?_ rfl rfl rfl rfl
  have hem := emod_b a (m := 768) (by decide)
  refine G_aload_n hX 0 rfl rfl d_Mo_modeFor_0 ?_
  refine M_get hX fg_Mo_133 d_Mo_modeFor_1 hMo (by decide) (hmk 29 79 (by decide)) ?_
  refine G_iload_n hX 1 rfl rfl d_Mo_modeFor_4 ?_
  refine G_sipush hX (by decide) d_Mo_modeFor_5 ?_
  refine G_irem_z hX (by omega) d_Mo_modeFor_8 ?_
  refine F_iald hX d_Mo_modeFor_9 79 (by decide) hc79 (by omega) ?_
  have b1 := hsm (a % 768)
  refine G_iload_n hX 1 rfl rfl d_Mo_modeFor_10 ?_
  refine G_icmp_ne_z hX (tgt := 27) d_Mo_modeFor_11 rfl (by omega) (fun c2 => ?_) (fun c3 => ?_)
  · skip
    refine G_iconst hX d_Mo_modeFor_27 ?_
    refine G_istore_n hX (lv' := [(3, .int (zI 0)), (0, .ref (eA E 61)), (1, .int (zI a)), (2, .int (zI here))]) rfl (by decide) rfl d_Mo_modeFor_28 ?_
    refine G_iconst hX d_Mo_modeFor_29 ?_
    refine G_istore hX (lv' := [(4, .int (zI 1)), (3, .int (zI 0)), (0, .ref (eA E 61)), (1, .int (zI a)), (2, .int (zI here))]) (by decide) rfl d_Mo_modeFor_30 ?_
    have loop4 : ∀ (q : Nat) (t : Int) (f5 : Nat → va_E), (6 - t).toNat < q → (1 ≤ t ∧ t ≤ 6) → Fr [] f f5 → G E X 0 0 32 [(0, .ref (eA E 61)), (1, .int (zI a)), (2, .int (zI here)), (3, .int (zI (bst nr a here (t - 1).toNat))), (4, .int (zI t))] [] (wl E f5) := by
      intro q
      induction q with
      | zero => intro t f5 hms7; exact absurd hms7 (Nat.not_lt_zero _)
      | succ q ih8 =>
        intro t f5 hms7 ht k6
        have hbb := bst_b nr a here (t - 1).toNat ha.1
        refine G_iload hX 4 rfl d_Mo_modeFor_32 ?_
        refine G_bipush hX (by decide) d_Mo_modeFor_34 ?_
        refine G_icmp_ge_z hX (tgt := 79) d_Mo_modeFor_36 rfl (by omega) (fun c9 => ?_) (fun c10 => ?_)
        · skip
          refine G_iload_n hX 3 rfl rfl d_Mo_modeFor_79 ?_
          obtain rfl : t = 6 := by omega
          exact F_iret hX hE d_Mo_modeFor_80 ⟨by unfold mdF; rw [if_neg (by rw [show (256 : Int) * 3 = 768 from rfl]; omega)]; rfl, Fr_nil (Fr.tr Fr.rf k6 (by decide))⟩
        · skip
          refine G_aload_n hX 0 rfl rfl d_Mo_modeFor_39 ?_
          refine G_iload hX 4 rfl d_Mo_modeFor_40 ?_
          refine G_iload_n hX 1 rfl rfl d_Mo_modeFor_42 ?_
          refine G_iload_n hX 2 rfl rfl d_Mo_modeFor_43 ?_
          have h11 : f5 61 = mob F := (k6 61 (List.not_mem_nil)).trans hMo
          have h12 : f5 78 = iz E 8 nr := (k6 78 (List.not_mem_nil)).trans hc78
          refine F_callV hX (st := []) (c_Mo_toldBy E f5 F t a here nr h11 hmk h12 (by omega) (by omega) (by omega) hnr) cm_Mo_toldBy im_Mo_toldBy se_Mo_toldBy rfl ml_Mo_287 d_Mo_modeFor_44 (by decide) h11 rfl rfl (Nat.le_of_ble_eq_true rfl) (by decide) ?_
          rintro _ f13 ⟨rfl, e16⟩
          obtain rfl := e16.symm
          refine G_cast (st' := [.int (zI (if nbF nr t a here < 0 then -1 else nbF nr t a here))]) ?_ rfl rfl rfl rfl
          by_cases q9 : nbF nr t a here < 0
          · skip
            refine G_top (show zI (if nbF nr t a here < 0 then -1 else nbF nr t a here) = zI (-1) from by rw [if_pos q9]) ?_
            refine G_istore hX (lv' := [(5, .int (zI (-1))), (0, .ref (eA E 61)), (1, .int (zI a)), (2, .int (zI here)), (3, .int (zI (bst nr a here (t - 1).toNat))), (4, .int (zI t))]) (by decide) rfl d_Mo_modeFor_47 ?_
            refine G_iload hX 0 rfl d_Mo_modeFor_49 ?_
            refine G_if_lt_z hX (tgt := 71) d_Mo_modeFor_51 rfl (by omega) (fun c17 => ?_) (fun c18 => by exfalso; omega)
            refine G_iload_n hX 4 rfl rfl d_Mo_modeFor_71 ?_
            refine G_istore_n hX (lv' := [(3, .int (zI (bst nr a here (t - 1).toNat))), (5, .int (zI (-1))), (0, .ref (eA E 61)), (1, .int (zI a)), (2, .int (zI here)), (4, .int (zI t))]) rfl (by decide) rfl d_Mo_modeFor_72 ?_
            refine G_iinc_z hX (lv' := [(4, .int (zI (t + 1))), (3, .int (zI (bst nr a here (t - 1).toNat))), (5, .int (zI (-1))), (0, .ref (eA E 61)), (1, .int (zI a)), (2, .int (zI here))]) 5 rfl (by decide) rfl d_Mo_modeFor_73 ?_
            refine G_goto hX (tgt := 32) d_Mo_modeFor_76 rfl ?_
            have e9 := bst_s (nr := nr) (ad := a) (here := here) ht.1
            rw [if_neg (by omega)] at e9
            refine G_loc (lv' := [(0, .ref (eA E 61)), (1, .int (zI a)), (2, .int (zI here)), (3, .int (zI (bst nr a here (t - 1).toNat))), (4, .int (zI (t + 1)))]) [3, 4, 5, 1, 0] rfl ?_
            refine G_cast (ih8 (t + 1) f5 (by omega) (by omega)  (Fr.tr Fr.rf k6 (by decide))) rfl (by rw [show t + 1 - 1 = t by omega, e9]) rfl rfl
          · skip
            have hnb : nbF nr t a here < 1000000 := by unfold nbF; have := hnr (t - 2); split <;> (try split) <;> omega
            refine G_top (show zI (if nbF nr t a here < 0 then -1 else nbF nr t a here) = zI (nbF nr t a here) from by rw [if_neg q9]) ?_
            refine G_istore hX (lv' := [(5, .int (zI (nbF nr t a here))), (0, .ref (eA E 61)), (1, .int (zI a)), (2, .int (zI here)), (3, .int (zI (bst nr a here (t - 1).toNat))), (4, .int (zI t))]) (by decide) rfl d_Mo_modeFor_47 ?_
            refine G_iload hX 0 rfl d_Mo_modeFor_49 ?_
            refine G_if_lt_z hX (tgt := 71) d_Mo_modeFor_51 rfl (by omega) (fun c19 => by exfalso; omega) (fun c20 => ?_)
            refine G_iload hX 0 rfl d_Mo_modeFor_54 ?_
            refine G_aload_n hX 1 rfl rfl d_Mo_modeFor_56 ?_
            refine G_iload_n hX 4 rfl rfl d_Mo_modeFor_57 ?_
            refine G_iload_n hX 2 rfl rfl d_Mo_modeFor_58 ?_
            refine G_iload_n hX 3 rfl rfl d_Mo_modeFor_59 ?_
            refine F_callV hX (st := [.int (zI (nbF nr t a here))]) (c_Mo_toldBy E f5 F (bst nr a here (t - 1).toNat) a here nr h11 hmk h12 (by omega) (by omega) (by omega) hnr) cm_Mo_toldBy im_Mo_toldBy se_Mo_toldBy rfl ml_Mo_287 d_Mo_modeFor_60 (by decide) h11 rfl rfl (Nat.le_of_ble_eq_true rfl) (by decide) ?_
            rintro _ f21 ⟨rfl, e24⟩
            obtain rfl := e24.symm
            refine G_cast (st' := [.int (zI (if nbF nr (bst nr a here (t - 1).toNat) a here < 0 then -1 else nbF nr (bst nr a here (t - 1).toNat) a here)), .int (zI (nbF nr t a here))]) ?_ rfl rfl rfl rfl
            refine G_top (show zI (if nbF nr (bst nr a here (t - 1).toNat) a here < 0 then -1 else nbF nr (bst nr a here (t - 1).toNat) a here) = zI (nbF nr (bst nr a here (t - 1).toNat) a here) from by rw [if_neg (by omega)]) ?_
            refine G_icmp_ge_z hX (tgt := 71) d_Mo_modeFor_63 rfl (by omega) (fun c25 => ?_) (fun c26 => ?_)
            · skip
              refine G_iload_n hX 4 rfl rfl d_Mo_modeFor_71 ?_
              refine G_istore_n hX (lv' := [(3, .int (zI (bst nr a here (t - 1).toNat))), (5, .int (zI (nbF nr t a here))), (0, .ref (eA E 61)), (1, .int (zI a)), (2, .int (zI here)), (4, .int (zI t))]) rfl (by decide) rfl d_Mo_modeFor_72 ?_
              refine G_iinc_z hX (lv' := [(4, .int (zI (t + 1))), (3, .int (zI (bst nr a here (t - 1).toNat))), (5, .int (zI (nbF nr t a here))), (0, .ref (eA E 61)), (1, .int (zI a)), (2, .int (zI here))]) 5 rfl (by decide) rfl d_Mo_modeFor_73 ?_
              refine G_goto hX (tgt := 32) d_Mo_modeFor_76 rfl ?_
              have e9 := bst_s (nr := nr) (ad := a) (here := here) ht.1
              rw [if_neg (by omega)] at e9
              refine G_loc (lv' := [(0, .ref (eA E 61)), (1, .int (zI a)), (2, .int (zI here)), (3, .int (zI (bst nr a here (t - 1).toNat))), (4, .int (zI (t + 1)))]) [3, 4, 5, 1, 0] rfl ?_
              refine G_cast (ih8 (t + 1) f5 (by omega) (by omega)  (Fr.tr Fr.rf k6 (by decide))) rfl (by rw [show t + 1 - 1 = t by omega, e9]) rfl rfl
            · skip
              refine G_iload hX 5 rfl d_Mo_modeFor_66 ?_
              refine G_goto hX (tgt := 72) d_Mo_modeFor_68 rfl ?_
              refine G_istore_n hX (lv' := [(3, .int (zI t)), (5, .int (zI (nbF nr t a here))), (0, .ref (eA E 61)), (1, .int (zI a)), (2, .int (zI here)), (4, .int (zI t))]) rfl (by decide) rfl d_Mo_modeFor_72 ?_
              refine G_iinc_z hX (lv' := [(4, .int (zI (t + 1))), (3, .int (zI t)), (5, .int (zI (nbF nr t a here))), (0, .ref (eA E 61)), (1, .int (zI a)), (2, .int (zI here))]) 5 rfl (by decide) rfl d_Mo_modeFor_73 ?_
              refine G_goto hX (tgt := 32) d_Mo_modeFor_76 rfl ?_
              have e9 := bst_s (nr := nr) (ad := a) (here := here) ht.1
              rw [if_pos (by omega)] at e9
              refine G_loc (lv' := [(0, .ref (eA E 61)), (1, .int (zI a)), (2, .int (zI here)), (3, .int (zI t)), (4, .int (zI (t + 1)))]) [3, 4, 5, 1, 0] rfl ?_
              refine G_cast (ih8 (t + 1) f5 (by omega) (by omega)  (Fr.tr Fr.rf k6 (by decide))) rfl (by rw [show t + 1 - 1 = t by omega, e9]) rfl rfl
    refine G_loc (lv' := [(0, .ref (eA E 61)), (1, .int (zI a)), (2, .int (zI here)), (3, .int (zI 0)), (4, .int (zI 1))]) [2, 3, 4, 1, 0] rfl ?_
    refine G_cast (loop4 (_ + 1) 1 f (Nat.lt_succ_self _) (by omega)  Fr.rf) rfl (by rfl) rfl rfl
  · skip
    refine G_bipush hX (by decide) d_Mo_modeFor_14 ?_
    refine G_iload_n hX 1 rfl rfl d_Mo_modeFor_16 ?_
    refine G_sipush hX (by decide) d_Mo_modeFor_17 ?_
    refine G_irem_z hX (by omega) d_Mo_modeFor_20 ?_
    refine G_sipush hX (by decide) d_Mo_modeFor_21 ?_
    refine G_idiv_z hX (by omega) d_Mo_modeFor_24 ?_
    refine G_iadd_z hX d_Mo_modeFor_25 ?_
    exact F_iret hX hE d_Mo_modeFor_26 ⟨by unfold mdF; rw [show (256 : Int) * 3 = 768 from rfl, if_pos ⟨by decide, by omega⟩]; congr 3, rfl⟩
theorem md_b {nr sm : Int → Int} {a here : Int} (h : 0 ≤ a) : 0 ≤ mdF nr sm 4 3 a here ∧ mdF nr sm 4 3 a here ≤ 8 ∧ (mdF nr sm 4 3 a here ≤ 5 → 0 ≤ nbF nr (mdF nr sm 4 3 a here) a here ∧ nbF nr (mdF nr sm 4 3 a here) a here ≤ a) := by
  have hb := bst_b nr a here (4 + 1 : Int).toNat h
  have hem := emod_b a (m := 768) (by decide)
  have h3 : (4 + 1 : Int).toNat = 5 := rfl
  by_cases q : (0 : Int) < 3 ∧ sm (a % (256 * 3)) = a
  · have e : mdF nr sm 4 3 a here = 2 + 4 + a % 768 / 256 := if_pos q
    rw [e]
    exact ⟨by omega, by omega, fun q2 => by omega⟩
  · have e : mdF nr sm 4 3 a here = bst nr a here (4 + 1 : Int).toNat := if_neg q
    rw [e]
    exact ⟨hb.1, by rw [h3] at hb ⊢; omega, fun _ => hb.2.2⟩
theorem c_Mo_layAddress (E : EV) (f : Nat → va_E) (F : Nat → Value) (a : Int) (here : Int) (T : Int) (nr : Int → Int) (sm : Int → Int) (pt : Int → Int) (ps : Int → Int) (D : List Int) (C : List Int) (A : List Int) (hMo : f 61 = mob F) (hmk : moK E F) (hF25 : F 25 = .int (zI 4)) (hF26 : F 26 = .int (zI 3)) (hF27 : F 27 = .int (zI T)) (hc78 : f 78 = iz E 8 nr) (hc79 : f 79 = iz E 1024 sm) (hc76 : f 76 = iz E 3 ps) (hc77 : f 77 = iz E 3000 pt) (hr : prt pt ps D C A) (hn : (D.length : Int) < 990 ∧ (C.length : Int) < 990 ∧ (A.length : Int) < 990) (ha : 0 ≤ a ∧ a < 100000) (hh : 0 ≤ here ∧ here < 100000) (hT : 0 ≤ T ∧ T < 4) (hnr : ∀ k, 0 ≤ nr k ∧ nr k ≤ 100000) (hsm : ∀ k, 0 ≤ sm k ∧ sm k ≤ 100000) : CF yn_Mo_layAddress cd_Mo_layAddress 4 none 2 E [.ref (eA E 61), .int (zI a), .int (zI (mdF nr sm 4 3 a here)), .int (zI here)] f (fun r f' => r = none ∧ ∃ (F' : Nat → Value) (pt' : Int → Int) (ps' : Int → Int), f' 61 = mob F' ∧ F' 27 = .int (zI (rmT 4 T)) ∧ FrF [27] F F' ∧ f' 76 = iz E 3 ps' ∧ f' 77 = iz E 3000 pt' ∧ f' 78 = iz E 8 (rmN nr 4 T a) ∧ f' 79 = iz E 1024 (rmS sm 3 a) ∧ (prt pt' ps' D C (A ++ lst (tlB nr sm 4 3 a here) (tlW nr sm 4 3 a here).toNat)) ∧ Fr [76, 77, 78, 79, 61] f f') := by
  refine CF.of (by decide +kernel) (Nat.le_of_ble_eq_true rfl) fun X hX hE => ?_
  have hX : Ok E X "DeltaFerryModel" "layAddress" cd_Mo_layAddress 4 none (rl 2) := hX
  refine G_cast (lv' := [(0, .ref (eA E 61)), (1, .int (zI a)), (2, .int (zI (mdF nr sm 4 3 a here))), (3, .int (zI here))]) ?_ rfl rfl rfl rfl
  have hmb : 0 ≤ mdF nr sm 4 3 a here ∧ mdF nr sm 4 3 a here ≤ 8 ∧ (mdF nr sm 4 3 a here ≤ 5 → 0 ≤ nbF nr (mdF nr sm 4 3 a here) a here ∧ nbF nr (mdF nr sm 4 3 a here) a here ≤ a) := md_b ha.1
  refine G_iload_n hX 2 rfl rfl d_Mo_layAddress_0 ?_
  refine G_iconst hX d_Mo_layAddress_1 ?_
  refine G_icmp_le_z hX (tgt := 18) d_Mo_layAddress_2 rfl (by omega) (fun c1 => ?_) (fun c2 => ?_)
  · skip
    refine G_aload_n hX 0 rfl rfl d_Mo_layAddress_18 ?_
    refine G_iconst hX d_Mo_layAddress_19 ?_
    refine G_aload_n hX 0 rfl rfl d_Mo_layAddress_20 ?_
    refine G_iload_n hX 2 rfl rfl d_Mo_layAddress_21 ?_
    refine G_iload_n hX 1 rfl rfl d_Mo_layAddress_22 ?_
    refine G_iload_n hX 3 rfl rfl d_Mo_layAddress_23 ?_
    refine F_callV hX (st := [.int (zI 2), .ref (eA E 61)]) (c_Mo_toldBy E f F (mdF nr sm 4 3 a here) a here nr hMo hmk hc78 (by omega) (by omega) (by omega) hnr) cm_Mo_toldBy im_Mo_toldBy se_Mo_toldBy rfl ml_Mo_287 d_Mo_layAddress_24 (by decide) hMo rfl rfl (Nat.le_of_ble_eq_true rfl) (by decide) ?_
    rintro _ f3 ⟨rfl, e6⟩
    obtain rfl := e6.symm
    refine G_cast (st' := [.int (zI (if nbF nr (mdF nr sm 4 3 a here) a here < 0 then -1 else nbF nr (mdF nr sm 4 3 a here) a here)), .int (zI 2), .ref (eA E 61)]) ?_ rfl rfl rfl rfl
    refine G_top (show zI (if nbF nr (mdF nr sm 4 3 a here) a here < 0 then -1 else nbF nr (mdF nr sm 4 3 a here) a here) = zI (nbF nr (mdF nr sm 4 3 a here) a here) from by rw [if_neg (by omega)]) ?_
    refine F_callV hX (st := []) (c_Mo_layNumber2 E f F (nbF nr (mdF nr sm 4 3 a here) a here) pt ps D C A hMo hmk hc76 hc77 hr (by first | omega | (simp only [List.length_append, List.length_cons, List.length_nil, Int.natCast_add, Int.natCast_one, Int.natCast_zero]; omega)) (by omega)) cm_Mo_layNumber im_Mo_layNumber se_Mo_layNumber rfl ml_Mo_304 d_Mo_layAddress_27 (by decide) hMo rfl rfl (Nat.le_of_ble_eq_true rfl) (by decide) ?_
    rintro _ f7 ⟨rfl, pt'_10, ps'_11, h12, h13, p14, k15⟩
    refine G_cast (st' := []) ?_ rfl rfl rfl rfl
    refine G_aload_n hX 0 rfl rfl d_Mo_layAddress_30 ?_
    refine G_iload_n hX 1 rfl rfl d_Mo_layAddress_31 ?_
    have h16 : f7 61 = mob F := (k15 61 (by decide)).trans hMo
    have h17 : f7 78 = iz E 8 nr := (k15 78 (by decide)).trans hc78
    have h18 : f7 79 = iz E 1024 sm := (k15 79 (by decide)).trans hc79
    refine F_callV hX (st := []) (c_Mo_note E f7 F a 4 3 T nr sm h16 hmk hF25 hF26 hF27 h17 h18 (by omega) (by omega) (by omega)) cm_Mo_note im_Mo_note se_Mo_note rfl ml_Mo_307 d_Mo_layAddress_32 (by decide) h16 rfl rfl (Nat.le_of_ble_eq_true rfl) (by decide) ?_
    rintro _ f19 ⟨rfl, F22, h23, h24, k25, h26, h27, k28⟩
    refine G_cast (st' := []) ?_ rfl rfl rfl rfl
    have h29 : f19 76 = iz E 3 ps'_11 := (k28 76 (by decide)).trans h12
    have h30 : f19 77 = iz E 3000 pt'_10 := (k28 77 (by decide)).trans h13
    exact F_vret hX hE d_Mo_layAddress_35 ⟨rfl, F22, _, _, h23, h24, (FrF.tr FrF.rf k25 (by decide)), h29, h30, h26, h27, (by rw [tl_lo (by omega)]; exact p14), (Fr.tr (Fr.tr Fr.rf k15 (by decide)) k28 (by decide))⟩
  · skip
    refine G_aload_n hX 0 rfl rfl d_Mo_layAddress_5 ?_
    refine G_iconst hX d_Mo_layAddress_6 ?_
    refine G_iload_n hX 1 rfl rfl d_Mo_layAddress_7 ?_
    refine G_sipush hX (by decide) d_Mo_layAddress_8 ?_
    refine G_irem_z hX (by omega) d_Mo_layAddress_11 ?_
    refine F_callV hX (st := []) (c_Mo_lay2 E f F (a % 256) pt ps D C A hMo hmk hc76 hc77 hr (by first | omega | (simp only [List.length_append, List.length_cons, List.length_nil, Int.natCast_add, Int.natCast_one, Int.natCast_zero]; omega))) cm_Mo_lay im_Mo_lay se_Mo_lay rfl ml_Mo_301 d_Mo_layAddress_12 (by decide) hMo rfl rfl (Nat.le_of_ble_eq_true rfl) (by decide) ?_
    rintro _ f31 ⟨rfl, pt'_34, ps'_35, h36, h37, p38, k39⟩
    refine G_cast (st' := []) ?_ rfl rfl rfl rfl
    refine G_goto hX (tgt := 30) d_Mo_layAddress_15 rfl ?_
    refine G_aload_n hX 0 rfl rfl d_Mo_layAddress_30 ?_
    refine G_iload_n hX 1 rfl rfl d_Mo_layAddress_31 ?_
    have h40 : f31 61 = mob F := (k39 61 (by decide)).trans hMo
    have h41 : f31 78 = iz E 8 nr := (k39 78 (by decide)).trans hc78
    have h42 : f31 79 = iz E 1024 sm := (k39 79 (by decide)).trans hc79
    refine F_callV hX (st := []) (c_Mo_note E f31 F a 4 3 T nr sm h40 hmk hF25 hF26 hF27 h41 h42 (by omega) (by omega) (by omega)) cm_Mo_note im_Mo_note se_Mo_note rfl ml_Mo_307 d_Mo_layAddress_32 (by decide) h40 rfl rfl (Nat.le_of_ble_eq_true rfl) (by decide) ?_
    rintro _ f43 ⟨rfl, F46, h47, h48, k49, h50, h51, k52⟩
    refine G_cast (st' := []) ?_ rfl rfl rfl rfl
    have h53 : f43 76 = iz E 3 ps'_35 := (k52 76 (by decide)).trans h36
    have h54 : f43 77 = iz E 3000 pt'_34 := (k52 77 (by decide)).trans h37
    exact F_vret hX hE d_Mo_layAddress_35 ⟨rfl, F46, _, _, h47, h48, (FrF.tr FrF.rf k49 (by decide)), h53, h54, h50, h51, (by rw [tl_hi (by omega)]; exact p38), (Fr.tr (Fr.tr Fr.rf k39 (by decide)) k52 (by decide))⟩
theorem c_Mo_layAdded (E : EV) (f : Nat → va_E) (F : Nat → Value) (p : Int) (n : Int) (b : Int → Int) (gF : Int → Int) (pt : Int → Int) (ps : Int → Int) (D : List Int) (C : List Int) (A : List Int) (hMo : f 61 = mob F) (hmk : moK E F) (hc63 : f 63 = iz E 1600 b) (hc76 : f 76 = iz E 3 ps) (hc77 : f 77 = iz E 3000 pt) (hr : prt pt ps D C A) (hn : (D.length : Int) + n < 990 ∧ (C.length : Int) < 990 ∧ (A.length : Int) < 990) (hp : 0 ≤ p ∧ 0 ≤ n ∧ p + n ≤ 300) (hag : ∀ i, p ≤ i → i < p + n → b (300 + i) = gF i) : CF yn_Mo_layAdded cd_Mo_layAdded 4 none 1 E [.ref (eA E 61), .int (zI p), .int (zI n)] f (fun r f' => r = none ∧ ∃ (pt' : Int → Int) (ps' : Int → Int), f' 76 = iz E 3 ps' ∧ f' 77 = iz E 3000 pt' ∧ (prt pt' ps' (D ++ sl gF p n.toNat) C A) ∧ Fr [76, 77] f f') := by
  refine CF.of (by decide +kernel) (Nat.le_of_ble_eq_true rfl) fun X hX hE => ?_
  have hX : Ok E X "DeltaFerryModel" "layAdded" cd_Mo_layAdded 4 none (rl 1) := hX
  refine G_cast (lv' := [(0, .ref (eA E 61)), (1, .int (zI p)), (2, .int (zI n))]) ?_ rfl rfl rfl rfl
  refine G_iconst hX d_Mo_layAdded_0 ?_
  refine G_istore_n hX (lv' := [(3, .int (zI 0)), (0, .ref (eA E 61)), (1, .int (zI p)), (2, .int (zI n))]) rfl (by decide) rfl d_Mo_layAdded_1 ?_
  have loop1 : ∀ (q : Nat) (t : Int) (pt1 : Int → Int) (ps1 : Int → Int) (f2 : Nat → va_E), (n - t).toNat < q → (0 ≤ t ∧ t ≤ n) → (prt pt1 ps1 (D ++ sl gF p t.toNat) C A) → f2 76 = iz E 3 ps1 → f2 77 = iz E 3000 pt1 → Fr [76, 77] f f2 → G E X 0 0 2 [(0, .ref (eA E 61)), (1, .int (zI p)), (2, .int (zI n)), (3, .int (zI t))] [] (wl E f2) := by
    intro q
    induction q with
    | zero => intro t pt1 ps1 f2 hms4; exact absurd hms4 (Nat.not_lt_zero _)
    | succ q ih5 =>
      intro t pt1 ps1 f2 hms4 ht hr1 h6 h7 k3
      refine G_iload_n hX 3 rfl rfl d_Mo_layAdded_2 ?_
      refine G_iload_n hX 2 rfl rfl d_Mo_layAdded_3 ?_
      refine G_icmp_ge_z hX (tgt := 30) d_Mo_layAdded_4 rfl (by omega) (fun c8 => ?_) (fun c9 => ?_)
      · skip
        obtain rfl : t = n := by omega
        exact F_vret hX hE d_Mo_layAdded_30 ⟨rfl, _, _, h6, h7, hr1, (Fr.tr Fr.rf k3 (by decide))⟩
      · skip
        refine G_aload_n hX 0 rfl rfl d_Mo_layAdded_7 ?_
        refine G_iconst hX d_Mo_layAdded_8 ?_
        refine G_aload_n hX 0 rfl rfl d_Mo_layAdded_9 ?_
        have h10 : f2 61 = mob F := (k3 61 (by decide)).trans hMo
        refine M_get hX fg_Mo_77 d_Mo_layAdded_10 h10 (by decide) (hmk 1 63 (by decide)) ?_
        refine G_sipush hX (by decide) d_Mo_layAdded_13 ?_
        refine G_iload_n hX 1 rfl rfl d_Mo_layAdded_16 ?_
        refine G_iadd_z hX d_Mo_layAdded_17 ?_
        refine G_iload_n hX 3 rfl rfl d_Mo_layAdded_18 ?_
        refine G_iadd_z hX d_Mo_layAdded_19 ?_
        have h11 : f2 63 = iz E 1600 b := (k3 63 (by decide)).trans hc63
        refine F_iald hX d_Mo_layAdded_20 63 (by decide) h11 (by omega) ?_
        refine G_top (show zI (b ((300 + p) + t)) = zI (gF (p + t)) from congrArg zI ((congrArg b (by omega)).trans (hag (p + t) (by omega) (by omega)))) ?_
        refine F_callV hX (st := []) (c_Mo_lay0 E f2 F (gF (p + t)) pt1 ps1 (D ++ sl gF p t.toNat) C A h10 hmk h6 h7 hr1 (by rw [List.length_append, sl_len, Int.natCast_add]; omega)) cm_Mo_lay im_Mo_lay se_Mo_lay rfl ml_Mo_301 d_Mo_layAdded_21 (by decide) h10 rfl rfl (Nat.le_of_ble_eq_true rfl) (by decide) ?_
        rintro _ f12 ⟨rfl, pt'_15, ps'_16, h17, h18, p19, k20⟩
        refine G_cast (st' := []) ?_ rfl rfl rfl rfl
        refine G_iinc_z hX (lv' := [(3, .int (zI (t + 1))), (0, .ref (eA E 61)), (1, .int (zI p)), (2, .int (zI n))]) 3 rfl (by decide) rfl d_Mo_layAdded_24 ?_
        refine G_goto hX (tgt := 2) d_Mo_layAdded_27 rfl ?_
        refine G_loc (lv' := [(0, .ref (eA E 61)), (1, .int (zI p)), (2, .int (zI n)), (3, .int (zI (t + 1)))]) [1, 2, 3, 0] rfl ?_
        exact ih5 (t + 1) pt'_15 ps'_16 f12 (by omega) (by omega) (by rw [sl_s gF p ht.1, ← List.append_assoc]; exact p19) h17 h18 (Fr.tr (Fr.tr Fr.rf k3 (by decide)) k20 (by decide))
  refine G_loc (lv' := [(0, .ref (eA E 61)), (1, .int (zI p)), (2, .int (zI n)), (3, .int (zI 0))]) [1, 2, 3, 0] rfl ?_
  exact loop1 (_ + 1) 0 pt ps f (Nat.lt_succ_self _) (by omega) (by rw [show sl gF p (0 : Int).toNat = [] from rfl, List.append_nil]; exact hr) hc76 hc77 Fr.rf
theorem c_Mo_pairCode (E : EV) (f : Nat → va_E) (F : Nat → Value) (ad : Int) (co : Int) (md : Int) (hMo : f 61 = mob F) (hmk : moK E F) (hb : 1 ≤ ad ∧ ad ≤ 300 ∧ 0 ≤ co ∧ co ≤ 300 ∧ 0 ≤ md ∧ md ≤ 8) : CF yn_Mo_pairCode cd_Mo_pairCode 4 (some (.int)) 0 E [.ref (eA E 61), .int (zI ad), .int (zI co), .int (zI md)] f (fun r f' => r = some (.int (zI (pcF ad co md))) ∧ f' = f) := by
  refine CF.of (by decide +kernel) (Nat.le_of_ble_eq_true rfl) fun X hX hE => ?_
  have hX : Ok E X "DeltaFerryModel" "pairCode" cd_Mo_pairCode 4 (some (.int)) (rl 0) := hX
  refine G_cast (lv' := [(0, .ref (eA E 61)), (1, .int (zI ad)), (2, .int (zI co)), (3, .int (zI md))]) ?_ rfl rfl rfl rfl
  refine G_iload_n hX 1 rfl rfl d_Mo_pairCode_0 ?_
  refine G_iconst hX d_Mo_pairCode_1 ?_
  refine G_icmp_gt_z hX (tgt := 26) d_Mo_pairCode_2 rfl (by omega) (fun c1 => ?_) (fun c2 => ?_)
  · skip
    refine G_iconst hX d_Mo_pairCode_26 ?_
    exact F_iret hX hE d_Mo_pairCode_27 ⟨by unfold pcF; rw [if_neg (by omega), if_neg (by omega)], rfl⟩
  · skip
    refine G_iload_n hX 2 rfl rfl d_Mo_pairCode_5 ?_
    refine G_iconst hX d_Mo_pairCode_6 ?_
    refine G_icmp_lt_z hX (tgt := 26) d_Mo_pairCode_7 rfl (by omega) (fun c3 => ?_) (fun c4 => ?_)
    · skip
      refine G_iconst hX d_Mo_pairCode_26 ?_
      exact F_iret hX hE d_Mo_pairCode_27 ⟨by unfold pcF; rw [if_neg (by omega), if_neg (by omega)], rfl⟩
    · skip
      refine G_iload_n hX 2 rfl rfl d_Mo_pairCode_10 ?_
      refine G_bipush hX (by decide) d_Mo_pairCode_11 ?_
      refine G_icmp_gt_z hX (tgt := 26) d_Mo_pairCode_13 rfl (by omega) (fun c5 => ?_) (fun c6 => ?_)
      · skip
        refine G_iconst hX d_Mo_pairCode_26 ?_
        exact F_iret hX hE d_Mo_pairCode_27 ⟨by unfold pcF; rw [if_neg (by omega), if_neg (by omega)], rfl⟩
      · skip
        refine G_iload_n hX 3 rfl rfl d_Mo_pairCode_16 ?_
        refine G_iconst hX d_Mo_pairCode_17 ?_
        refine G_icmp_le_z hX (tgt := 28) d_Mo_pairCode_18 rfl (by omega) (fun c7 => ?_) (fun c8 => ?_)
        · skip
          refine G_iload_n hX 3 rfl rfl d_Mo_pairCode_28 ?_
          refine G_bipush hX (by decide) d_Mo_pairCode_29 ?_
          refine G_icmp_ge_z hX (tgt := 55) d_Mo_pairCode_31 rfl (by omega) (fun c9 => ?_) (fun c10 => ?_)
          · skip
            refine G_sipush hX (by decide) d_Mo_pairCode_55 ?_
            refine G_iconst hX d_Mo_pairCode_58 ?_
            refine G_iload_n hX 3 rfl rfl d_Mo_pairCode_59 ?_
            refine G_bipush hX (by decide) d_Mo_pairCode_60 ?_
            refine G_isub_z hX d_Mo_pairCode_62 ?_
            refine G_imul_z hX d_Mo_pairCode_63 ?_
            refine G_iadd_z hX d_Mo_pairCode_64 ?_
            refine G_iload_n hX 1 rfl rfl d_Mo_pairCode_65 ?_
            refine G_iadd_z hX d_Mo_pairCode_66 ?_
            refine G_iconst hX d_Mo_pairCode_67 ?_
            refine G_isub_z hX d_Mo_pairCode_68 ?_
            exact F_iret hX hE d_Mo_pairCode_69 ⟨by unfold pcF; rw [if_neg (by omega), if_pos (by omega)], rfl⟩
          · skip
            refine G_sipush hX (by decide) d_Mo_pairCode_34 ?_
            refine G_bipush hX (by decide) d_Mo_pairCode_37 ?_
            refine G_iload_n hX 3 rfl rfl d_Mo_pairCode_39 ?_
            refine G_imul_z hX d_Mo_pairCode_40 ?_
            refine G_iadd_z hX d_Mo_pairCode_41 ?_
            refine G_iconst hX d_Mo_pairCode_42 ?_
            refine G_iload_n hX 1 rfl rfl d_Mo_pairCode_43 ?_
            refine G_iconst hX d_Mo_pairCode_44 ?_
            refine G_isub_z hX d_Mo_pairCode_45 ?_
            refine G_imul_z hX d_Mo_pairCode_46 ?_
            refine G_iadd_z hX d_Mo_pairCode_47 ?_
            refine G_iload_n hX 2 rfl rfl d_Mo_pairCode_48 ?_
            refine G_iadd_z hX d_Mo_pairCode_49 ?_
            refine G_iconst hX d_Mo_pairCode_50 ?_
            refine G_isub_z hX d_Mo_pairCode_51 ?_
            refine G_goto hX (tgt := 69) d_Mo_pairCode_52 rfl ?_
            exact F_iret hX hE d_Mo_pairCode_69 ⟨by unfold pcF; rw [if_pos (by omega)], rfl⟩
        · skip
          refine G_iload_n hX 2 rfl rfl d_Mo_pairCode_21 ?_
          refine G_iconst hX d_Mo_pairCode_22 ?_
          refine G_icmp_le_z hX (tgt := 28) d_Mo_pairCode_23 rfl (by omega) (fun c11 => ?_) (fun c12 => ?_)
          · skip
            refine G_iload_n hX 3 rfl rfl d_Mo_pairCode_28 ?_
            refine G_bipush hX (by decide) d_Mo_pairCode_29 ?_
            refine G_icmp_ge_z hX (tgt := 55) d_Mo_pairCode_31 rfl (by omega) (fun c13 => ?_) (fun c14 => ?_)
            · skip
              refine G_sipush hX (by decide) d_Mo_pairCode_55 ?_
              refine G_iconst hX d_Mo_pairCode_58 ?_
              refine G_iload_n hX 3 rfl rfl d_Mo_pairCode_59 ?_
              refine G_bipush hX (by decide) d_Mo_pairCode_60 ?_
              refine G_isub_z hX d_Mo_pairCode_62 ?_
              refine G_imul_z hX d_Mo_pairCode_63 ?_
              refine G_iadd_z hX d_Mo_pairCode_64 ?_
              refine G_iload_n hX 1 rfl rfl d_Mo_pairCode_65 ?_
              refine G_iadd_z hX d_Mo_pairCode_66 ?_
              refine G_iconst hX d_Mo_pairCode_67 ?_
              refine G_isub_z hX d_Mo_pairCode_68 ?_
              exact F_iret hX hE d_Mo_pairCode_69 ⟨by unfold pcF; rw [if_neg (by omega), if_pos (by omega)], rfl⟩
            · skip
              refine G_sipush hX (by decide) d_Mo_pairCode_34 ?_
              refine G_bipush hX (by decide) d_Mo_pairCode_37 ?_
              refine G_iload_n hX 3 rfl rfl d_Mo_pairCode_39 ?_
              refine G_imul_z hX d_Mo_pairCode_40 ?_
              refine G_iadd_z hX d_Mo_pairCode_41 ?_
              refine G_iconst hX d_Mo_pairCode_42 ?_
              refine G_iload_n hX 1 rfl rfl d_Mo_pairCode_43 ?_
              refine G_iconst hX d_Mo_pairCode_44 ?_
              refine G_isub_z hX d_Mo_pairCode_45 ?_
              refine G_imul_z hX d_Mo_pairCode_46 ?_
              refine G_iadd_z hX d_Mo_pairCode_47 ?_
              refine G_iload_n hX 2 rfl rfl d_Mo_pairCode_48 ?_
              refine G_iadd_z hX d_Mo_pairCode_49 ?_
              refine G_iconst hX d_Mo_pairCode_50 ?_
              refine G_isub_z hX d_Mo_pairCode_51 ?_
              refine G_goto hX (tgt := 69) d_Mo_pairCode_52 rfl ?_
              exact F_iret hX hE d_Mo_pairCode_69 ⟨by unfold pcF; rw [if_pos (by omega)], rfl⟩
          · skip
            refine G_iconst hX d_Mo_pairCode_26 ?_
            exact F_iret hX hE d_Mo_pairCode_27 ⟨by unfold pcF; rw [if_neg (by omega), if_neg (by omega)], rfl⟩
theorem c_Mo_checkNew (E : EV) (f : Nat → va_E) (F : Nat → Value) (bg : Int) (n : Int) (b : Int → Int) (gF : Int → Int) (p : Int) (hMo : f 61 = mob F) (hmk : moK E F) (hc63 : f 63 = iz E 1600 b) (hG : isB gF) (hag : ∀ i, 0 ≤ i → i < n → b (300 + bg + i) = gF (p + i)) (hb : 0 ≤ bg ∧ 0 ≤ n ∧ bg + n ≤ 1300) : CF yn_Mo_checkOf cd_Mo_checkOf 9 (some (.long)) 0 E [.ref (eA E 61), .int (zI 1), .int (zI bg), .int (zI n)] f (fun r f' => r = some (.long (zL (adV gF p n))) ∧ f' = f) := by
  refine CF.of (by decide +kernel) (Nat.le_of_ble_eq_true rfl) fun X hX hE => ?_
  have hX : Ok E X "DeltaFerryModel" "checkOf" cd_Mo_checkOf 9 (some (.long)) (rl 0) := hX
  refine G_cast (lv' := [(0, .ref (eA E 61)), (1, .int (zI 1)), (2, .int (zI bg)), (3, .int (zI n))]) ?_ rfl rfl rfl rfl
  refine G_lconst hX (v := zL 1) (by decide) d_Mo_checkOf_0 ?_
  refine G_lstore hX (lv' := [(4, .long (zL 1)), (0, .ref (eA E 61)), (1, .int (zI 1)), (2, .int (zI bg)), (3, .int (zI n))]) (by decide) rfl d_Mo_checkOf_1 ?_
  refine G_lconst hX (v := zL 0) (by decide) d_Mo_checkOf_3 ?_
  refine G_lstore hX (lv' := [(6, .long (zL 0)), (4, .long (zL 1)), (0, .ref (eA E 61)), (1, .int (zI 1)), (2, .int (zI bg)), (3, .int (zI n))]) (by decide) rfl d_Mo_checkOf_4 ?_
  refine G_iconst hX d_Mo_checkOf_6 ?_
  refine G_istore hX (lv' := [(8, .int (zI 0)), (6, .long (zL 0)), (4, .long (zL 1)), (0, .ref (eA E 61)), (1, .int (zI 1)), (2, .int (zI bg)), (3, .int (zI n))]) (by decide) rfl d_Mo_checkOf_7 ?_
  have loop1 : ∀ (q : Nat) (t : Int) (f2 : Nat → va_E), (n - t).toNat < q → (0 ≤ t ∧ t ≤ n) → Fr [] f f2 → G E X 0 0 9 [(0, .ref (eA E 61)), (1, .int (zI 1)), (2, .int (zI bg)), (3, .int (zI n)), (4, .long (zL ((adS gF p t.toNat).1))), (6, .long (zL ((adS gF p t.toNat).2))), (8, .int (zI t))] [] (wl E f2) := by
    intro q
    induction q with
    | zero => intro t f2 hms4; exact absurd hms4 (Nat.not_lt_zero _)
    | succ q ih5 =>
      intro t f2 hms4 ht k3
      have hab := adS_b gF p t.toNat
      refine G_iload hX 6 rfl d_Mo_checkOf_9 ?_
      refine G_iload_n hX 3 rfl rfl d_Mo_checkOf_11 ?_
      refine G_icmp_ge_z hX (tgt := 71) d_Mo_checkOf_12 rfl (by omega) (fun c6 => ?_) (fun c7 => ?_)
      · skip
        refine G_ldc2 hX kn_Mo_231 d_Mo_checkOf_71 ?_
        refine G_topl (show (65536 : Int64) = zL (65536) from by decide) ?_
        refine G_lload hX 5 rfl d_Mo_checkOf_74 ?_
        refine G_lmul_z hX d_Mo_checkOf_76 ?_
        refine G_lload hX 4 rfl d_Mo_checkOf_77 ?_
        refine G_ladd_z hX d_Mo_checkOf_79 ?_
        have et : n = t := by omega
        exact F_lret hX hE d_Mo_checkOf_80 ⟨by unfold adV; rw [et], Fr_nil (Fr.tr Fr.rf k3 (by decide))⟩
      · skip
        refine G_lload hX 4 rfl d_Mo_checkOf_15 ?_
        refine G_iload_n hX 1 rfl rfl d_Mo_checkOf_17 ?_
        refine G_if_eq_z hX (tgt := 37) d_Mo_checkOf_18 rfl (by omega) (fun c8 => by exfalso; omega) (fun c9 => ?_)
        refine G_aload_n hX 0 rfl rfl d_Mo_checkOf_21 ?_
        have h10 : f2 61 = mob F := (k3 61 (List.not_mem_nil)).trans hMo
        refine M_get hX fg_Mo_77 d_Mo_checkOf_22 h10 (by decide) (hmk 1 63 (by decide)) ?_
        refine G_sipush hX (by decide) d_Mo_checkOf_25 ?_
        refine G_iload_n hX 2 rfl rfl d_Mo_checkOf_28 ?_
        refine G_iadd_z hX d_Mo_checkOf_29 ?_
        refine G_iload hX 6 rfl d_Mo_checkOf_30 ?_
        refine G_iadd_z hX d_Mo_checkOf_32 ?_
        have h11 : f2 63 = iz E 1600 b := (k3 63 (List.not_mem_nil)).trans hc63
        refine F_iald hX d_Mo_checkOf_33 63 (by decide) h11 (by omega) ?_
        refine G_top (show zI (b ((300 + bg) + t)) = zI (gF (p + t)) from congrArg zI (hag t (by omega) (by omega))) ?_
        have b12 := hG (p + t)
        refine G_goto hX (tgt := 46) d_Mo_checkOf_34 rfl ?_
        refine G_i2l hX (v := zL (gF (p + t))) (zI_l (by omega)) d_Mo_checkOf_46 ?_
        refine G_ladd_z hX d_Mo_checkOf_47 ?_
        refine G_ldc2 hX kn_Mo_234 d_Mo_checkOf_48 ?_
        refine G_topl (show (65521 : Int64) = zL (65521) from by decide) ?_
        refine G_lrem_z hX (by omega) d_Mo_checkOf_51 ?_
        refine G_lstore hX (lv' := [(4, .long (zL ((((adS gF p t.toNat).1) + (gF (p + t))) % 65521))), (0, .ref (eA E 61)), (1, .int (zI 1)), (2, .int (zI bg)), (3, .int (zI n)), (6, .long (zL ((adS gF p t.toNat).2))), (8, .int (zI t))]) (by decide) rfl d_Mo_checkOf_52 ?_
        refine G_lload hX 5 rfl d_Mo_checkOf_54 ?_
        refine G_lload hX 0 rfl d_Mo_checkOf_56 ?_
        refine G_ladd_z hX d_Mo_checkOf_58 ?_
        refine G_ldc2 hX kn_Mo_234 d_Mo_checkOf_59 ?_
        refine G_topl (show (65521 : Int64) = zL (65521) from by decide) ?_
        refine G_lrem_z hX (by omega) d_Mo_checkOf_62 ?_
        refine G_lstore hX (lv' := [(6, .long (zL ((((adS gF p t.toNat).2) + ((((adS gF p t.toNat).1) + (gF (p + t))) % 65521)) % 65521))), (4, .long (zL ((((adS gF p t.toNat).1) + (gF (p + t))) % 65521))), (0, .ref (eA E 61)), (1, .int (zI 1)), (2, .int (zI bg)), (3, .int (zI n)), (8, .int (zI t))]) (by decide) rfl d_Mo_checkOf_63 ?_
        refine G_iinc_z hX (lv' := [(8, .int (zI (t + 1))), (6, .long (zL ((((adS gF p t.toNat).2) + ((((adS gF p t.toNat).1) + (gF (p + t))) % 65521)) % 65521))), (4, .long (zL ((((adS gF p t.toNat).1) + (gF (p + t))) % 65521))), (0, .ref (eA E 61)), (1, .int (zI 1)), (2, .int (zI bg)), (3, .int (zI n))]) 6 rfl (by decide) rfl d_Mo_checkOf_65 ?_
        refine G_goto hX (tgt := 9) d_Mo_checkOf_68 rfl ?_
        refine G_loc (lv' := [(0, .ref (eA E 61)), (1, .int (zI 1)), (2, .int (zI bg)), (3, .int (zI n)), (4, .long (zL ((((adS gF p t.toNat).1) + (gF (p + t))) % 65521))), (6, .long (zL ((((adS gF p t.toNat).2) + ((((adS gF p t.toNat).1) + (gF (p + t))) % 65521)) % 65521))), (8, .int (zI (t + 1)))]) [3, 4, 5, 6, 2, 1, 0] rfl ?_
        refine G_cast (ih5 (t + 1) f2 (by omega) (by omega)  (Fr.tr Fr.rf k3 (by decide))) rfl (by rw [adS_s ht.1]) rfl rfl
  refine G_loc (lv' := [(0, .ref (eA E 61)), (1, .int (zI 1)), (2, .int (zI bg)), (3, .int (zI n)), (4, .long (zL 1)), (6, .long (zL 0)), (8, .int (zI 0))]) [3, 4, 5, 6, 2, 1, 0] rfl ?_
  refine G_cast (loop1 (_ + 1) 0 f (Nat.lt_succ_self _) (by omega)  Fr.rf) rfl (by rfl) rfl rfl
theorem c_Mo_checkOut (E : EV) (f : Nat → va_E) (F : Nat → Value) (bg : Int) (n : Int) (b : Int → Int) (gF : Int → Int) (p : Int) (hMo : f 61 = mob F) (hmk : moK E F) (hc82 : f 82 = iz E 1536 b) (hG : isB gF) (hag : ∀ i, 0 ≤ i → i < n → b (bg + i) = gF (p + i)) (hb : 0 ≤ bg ∧ 0 ≤ n ∧ bg + n ≤ 1536) : CF yn_Mo_checkOf cd_Mo_checkOf 9 (some (.long)) 0 E [.ref (eA E 61), .int (zI 0), .int (zI bg), .int (zI n)] f (fun r f' => r = some (.long (zL (adV gF p n))) ∧ f' = f) := by
  refine CF.of (by decide +kernel) (Nat.le_of_ble_eq_true rfl) fun X hX hE => ?_
  have hX : Ok E X "DeltaFerryModel" "checkOf" cd_Mo_checkOf 9 (some (.long)) (rl 0) := hX
  refine G_cast (lv' := [(0, .ref (eA E 61)), (1, .int (zI 0)), (2, .int (zI bg)), (3, .int (zI n))]) ?_ rfl rfl rfl rfl
  refine G_lconst hX (v := zL 1) (by decide) d_Mo_checkOf_0 ?_
  refine G_lstore hX (lv' := [(4, .long (zL 1)), (0, .ref (eA E 61)), (1, .int (zI 0)), (2, .int (zI bg)), (3, .int (zI n))]) (by decide) rfl d_Mo_checkOf_1 ?_
  refine G_lconst hX (v := zL 0) (by decide) d_Mo_checkOf_3 ?_
  refine G_lstore hX (lv' := [(6, .long (zL 0)), (4, .long (zL 1)), (0, .ref (eA E 61)), (1, .int (zI 0)), (2, .int (zI bg)), (3, .int (zI n))]) (by decide) rfl d_Mo_checkOf_4 ?_
  refine G_iconst hX d_Mo_checkOf_6 ?_
  refine G_istore hX (lv' := [(8, .int (zI 0)), (6, .long (zL 0)), (4, .long (zL 1)), (0, .ref (eA E 61)), (1, .int (zI 0)), (2, .int (zI bg)), (3, .int (zI n))]) (by decide) rfl d_Mo_checkOf_7 ?_
  have loop1 : ∀ (q : Nat) (t : Int) (f2 : Nat → va_E), (n - t).toNat < q → (0 ≤ t ∧ t ≤ n) → Fr [] f f2 → G E X 0 0 9 [(0, .ref (eA E 61)), (1, .int (zI 0)), (2, .int (zI bg)), (3, .int (zI n)), (4, .long (zL ((adS gF p t.toNat).1))), (6, .long (zL ((adS gF p t.toNat).2))), (8, .int (zI t))] [] (wl E f2) := by
    intro q
    induction q with
    | zero => intro t f2 hms4; exact absurd hms4 (Nat.not_lt_zero _)
    | succ q ih5 =>
      intro t f2 hms4 ht k3
      have hab := adS_b gF p t.toNat
      refine G_iload hX 6 rfl d_Mo_checkOf_9 ?_
      refine G_iload_n hX 3 rfl rfl d_Mo_checkOf_11 ?_
      refine G_icmp_ge_z hX (tgt := 71) d_Mo_checkOf_12 rfl (by omega) (fun c6 => ?_) (fun c7 => ?_)
      · skip
        refine G_ldc2 hX kn_Mo_231 d_Mo_checkOf_71 ?_
        refine G_topl (show (65536 : Int64) = zL (65536) from by decide) ?_
        refine G_lload hX 5 rfl d_Mo_checkOf_74 ?_
        refine G_lmul_z hX d_Mo_checkOf_76 ?_
        refine G_lload hX 4 rfl d_Mo_checkOf_77 ?_
        refine G_ladd_z hX d_Mo_checkOf_79 ?_
        have et : n = t := by omega
        exact F_lret hX hE d_Mo_checkOf_80 ⟨by unfold adV; rw [et], Fr_nil (Fr.tr Fr.rf k3 (by decide))⟩
      · skip
        refine G_lload hX 4 rfl d_Mo_checkOf_15 ?_
        refine G_iload_n hX 1 rfl rfl d_Mo_checkOf_17 ?_
        refine G_if_eq_z hX (tgt := 37) d_Mo_checkOf_18 rfl (by omega) (fun c8 => ?_) (fun c9 => by exfalso; omega)
        refine G_aload_n hX 0 rfl rfl d_Mo_checkOf_37 ?_
        have h10 : f2 61 = mob F := (k3 61 (List.not_mem_nil)).trans hMo
        refine M_get hX fg_Mo_142 d_Mo_checkOf_38 h10 (by decide) (hmk 38 82 (by decide)) ?_
        refine G_iload_n hX 2 rfl rfl d_Mo_checkOf_41 ?_
        refine G_iload hX 6 rfl d_Mo_checkOf_42 ?_
        refine G_iadd_z hX d_Mo_checkOf_44 ?_
        have h11 : f2 82 = iz E 1536 b := (k3 82 (List.not_mem_nil)).trans hc82
        refine F_iald hX d_Mo_checkOf_45 82 (by decide) h11 (by omega) ?_
        refine G_top (show zI (b (bg + t)) = zI (gF (p + t)) from congrArg zI (hag t (by omega) (by omega))) ?_
        have b12 := hG (p + t)
        refine G_i2l hX (v := zL (gF (p + t))) (zI_l (by omega)) d_Mo_checkOf_46 ?_
        refine G_ladd_z hX d_Mo_checkOf_47 ?_
        refine G_ldc2 hX kn_Mo_234 d_Mo_checkOf_48 ?_
        refine G_topl (show (65521 : Int64) = zL (65521) from by decide) ?_
        refine G_lrem_z hX (by omega) d_Mo_checkOf_51 ?_
        refine G_lstore hX (lv' := [(4, .long (zL ((((adS gF p t.toNat).1) + (gF (p + t))) % 65521))), (0, .ref (eA E 61)), (1, .int (zI 0)), (2, .int (zI bg)), (3, .int (zI n)), (6, .long (zL ((adS gF p t.toNat).2))), (8, .int (zI t))]) (by decide) rfl d_Mo_checkOf_52 ?_
        refine G_lload hX 5 rfl d_Mo_checkOf_54 ?_
        refine G_lload hX 0 rfl d_Mo_checkOf_56 ?_
        refine G_ladd_z hX d_Mo_checkOf_58 ?_
        refine G_ldc2 hX kn_Mo_234 d_Mo_checkOf_59 ?_
        refine G_topl (show (65521 : Int64) = zL (65521) from by decide) ?_
        refine G_lrem_z hX (by omega) d_Mo_checkOf_62 ?_
        refine G_lstore hX (lv' := [(6, .long (zL ((((adS gF p t.toNat).2) + ((((adS gF p t.toNat).1) + (gF (p + t))) % 65521)) % 65521))), (4, .long (zL ((((adS gF p t.toNat).1) + (gF (p + t))) % 65521))), (0, .ref (eA E 61)), (1, .int (zI 0)), (2, .int (zI bg)), (3, .int (zI n)), (8, .int (zI t))]) (by decide) rfl d_Mo_checkOf_63 ?_
        refine G_iinc_z hX (lv' := [(8, .int (zI (t + 1))), (6, .long (zL ((((adS gF p t.toNat).2) + ((((adS gF p t.toNat).1) + (gF (p + t))) % 65521)) % 65521))), (4, .long (zL ((((adS gF p t.toNat).1) + (gF (p + t))) % 65521))), (0, .ref (eA E 61)), (1, .int (zI 0)), (2, .int (zI bg)), (3, .int (zI n))]) 6 rfl (by decide) rfl d_Mo_checkOf_65 ?_
        refine G_goto hX (tgt := 9) d_Mo_checkOf_68 rfl ?_
        refine G_loc (lv' := [(0, .ref (eA E 61)), (1, .int (zI 0)), (2, .int (zI bg)), (3, .int (zI n)), (4, .long (zL ((((adS gF p t.toNat).1) + (gF (p + t))) % 65521))), (6, .long (zL ((((adS gF p t.toNat).2) + ((((adS gF p t.toNat).1) + (gF (p + t))) % 65521)) % 65521))), (8, .int (zI (t + 1)))]) [3, 4, 5, 6, 2, 1, 0] rfl ?_
        refine G_cast (ih5 (t + 1) f2 (by omega) (by omega)  (Fr.tr Fr.rf k3 (by decide))) rfl (by rw [adS_s ht.1]) rfl rfl
  refine G_loc (lv' := [(0, .ref (eA E 61)), (1, .int (zI 0)), (2, .int (zI bg)), (3, .int (zI n)), (4, .long (zL 1)), (6, .long (zL 0)), (8, .int (zI 0))]) [3, 4, 5, 6, 2, 1, 0] rfl ?_
  refine G_cast (loop1 (_ + 1) 0 f (Nat.lt_succ_self _) (by omega)  Fr.rf) rfl (by rfl) rfl rfl
