/-! DeltaFerry$Writer: printed by wip/tools/m_wt.py -/
def isWt (E : EV) (f : Nat → va_E) (nx : Int) : Prop := f 29 = ob 10 [.ref (eA E 30), .ref (eA E 32), .ref (eA E 34), .ref (eA E 36), .ref (eA E 38), .ref (eA E 40), .ref (eA E 41), .int (zI nx)]
def wsL (so ck : Int) : List Int := [(if 0 < so then 1 else 0) + (if ck = 0 then 0 else 4)] ++ (if 0 < so then nbL so ++ nbL 0 else [])
def hdL (sz ck v cd cc ca : Int) : List Int := nbL sz ++ ([0] ++ (nbL cd ++ (nbL cc ++ (nbL ca ++ (if ck = 0 then [] else [v / 16777216 % 256, v / 65536 % 256, v / 256 % 256, v % 256])))))
theorem pf_ushr {a d : Nat} {D : UInt64} (hD : D.toNat % 64 = d) (h : a < 2 ^ 62) : ((lN a).toUInt64 >>> D).toInt64 = lN (a / 2 ^ d) := by
  have hd : a / 2 ^ d ≤ a := Nat.div_le_self _ _
  have e : (lN a).toUInt64 >>> D = UInt64.ofNat (a / 2 ^ d) := UInt64.toNat_inj.mp (by
    rw [UInt64.toNat_shiftRight, hD, Nat.shiftRight_eq_div_pow, UInt64.toNat_ofNat']
    show (UInt64.ofNat a).toNat / 2 ^ d = _
    rw [UInt64.toNat_ofNat', Nat.mod_eq_of_lt (by omega), Nat.mod_eq_of_lt (by omega)])
  rw [e]
  rfl
theorem zL_lN (n : Nat) : zL n = lN n := Int64.ofInt_eq_ofNat
theorem zL_ushr {x : Int} (k : Nat) {y : Int32} (h : 0 ≤ x ∧ x < 4611686018427387904) (hs : (y.toInt64.toUInt64 &&& Int64.toUInt64 63).toNat % 64 = k) : ((zL x).toUInt64 >>> (y.toInt64.toUInt64 &&& Int64.toUInt64 63)).toInt64 = zL (x / 2 ^ k) := by
  have e : zL x = lN x.toNat := by
    rw [← zL_lN]
    congr 1
    omega
  rw [e, pf_ushr hs (by omega), ← zL_lN, Int.natCast_ediv]
  have : ((x.toNat : Nat) : Int) = x := by omega
  rw [this]
  norm_cast
theorem c_Wt_pushRow (E : EV) (f : Nat → va_E) (nx : Int) (g : Int → Int) (c : Int) (r j n0 : Nat) (g0 : Int → Int) (c0 : Int) (hT : isWt E f nx) (hR : isR E f 30 31 1885 g c) (hr : r < NC) (hj : j < NC) (hne : r ≠ 29 ∧ r ≠ 30 ∧ r ≠ 31 ∧ j ≠ 29 ∧ j ≠ 30 ∧ j ≠ 31) (hQ : isR E f r j n0 g0 c0) (hb : 0 ≤ c ∧ 0 ≤ c0 ∧ c0 ≤ n0 ∧ n0 ≤ 2000 ∧ c + c0 ≤ 1885) : CF yn_Wt_pushRow cd_Wt_pushRow 2 none 2 E [.ref (eA E 29), .ref (eA E r)] f (fun r0 f' => r0 = none ∧ isR E f' 30 31 1885 (cz g0 g 0 c c0) (c + c0) ∧ Fr [30, 31] f f') := by
  refine CF.of (by decide +kernel) (Nat.le_of_ble_eq_true rfl) fun X hX hE => ?_
  have hX : Ok E X "DeltaFerry$Writer" "pushRow" cd_Wt_pushRow 2 none (rl 2) := hX
  refine G_cast (lv' := [(0, .ref (eA E 29)), (1, .ref (eA E r))]) ?_ rfl rfl rfl rfl
  refine G_aload_n hX 0 rfl rfl d_Wt_pushRow_0 ?_
  refine F_get hX fg_Wt_16 d_Wt_pushRow_1 29 (by decide) hT rfl ?_
  refine G_aload_n hX 1 rfl rfl d_Wt_pushRow_4 ?_
  refine F_get hX fg_Wt_79 d_Wt_pushRow_5 r hr hQ.1 rfl ?_
  refine G_iconst hX d_Wt_pushRow_8 ?_
  refine G_aload_n hX 1 rfl rfl d_Wt_pushRow_9 ?_
  refine F_get hX fg_Wt_47 d_Wt_pushRow_10 r hr hQ.1 rfl ?_
  refine F_callV hX (st := []) (c_Ro_pushPart E f 30 31 1885 g c j n0 g0 0 c0 (by decide) (by decide) (by decide) ⟨hR.1, hR.2⟩ (by omega) hj (by omega) hQ.2 (by omega)) cm_Ro_pushPart im_Ro_pushPart se_Ro_pushPart rfl ml_Wt_104 d_Wt_pushRow_13 (by decide) hR.1 rfl rfl (Nat.le_of_ble_eq_true rfl) (by decide) ?_
  rintro _ f1 ⟨rfl, ⟨h4, h5⟩, k6⟩
  refine G_cast (st' := []) ?_ rfl rfl rfl rfl
  exact F_vret hX hE d_Wt_pushRow_16 ⟨rfl, ⟨h4, h5⟩, (Fr.tr Fr.rf k6 (by decide))⟩
theorem c_Wt_open (E : EV) (f : Nat → va_E) (nx : Int) (g : Int → Int) (c : Int) (hT : isWt E f nx) (hR : isR E f 30 31 1885 g c) : CF yn_Wt_open cd_Wt_open 1 none 1 E [.ref (eA E 29)] f (fun r f' => r = none ∧ isWt E f' 0 ∧ (∃ g', isR E f' 30 31 1885 g' 5 ∧ rep g' 5 [214, 195, 196, 0, 0]) ∧ Fr [29, 30, 31] f f') := by
  refine CF.of (by decide +kernel) (Nat.le_of_ble_eq_true rfl) fun X hX hE => ?_
  have hX : Ok E X "DeltaFerry$Writer" "open" cd_Wt_open 1 none (rl 1) := hX
  refine G_cast (lv' := [(0, .ref (eA E 29))]) ?_ rfl rfl rfl rfl
  have rp0 := rep_0 g
  refine G_aload_n hX 0 rfl rfl d_Wt_open_0 ?_
  refine G_iconst hX d_Wt_open_1 ?_
  refine F_put hX fg_Wt_43 fp_Wt_7 d_Wt_open_2 29 (fs' := [.ref (eA E 30), .ref (eA E 32), .ref (eA E 34), .ref (eA E 36), .ref (eA E 38), .ref (eA E 40), .ref (eA E 41), .int (zI 0)]) (by decide) hT rfl rfl (Nat.le_of_ble_eq_true rfl) rfl (fun f1 h2 k3 => ?_)
  refine G_aload_n hX 0 rfl rfl d_Wt_open_5 ?_
  refine F_get hX fg_Wt_16 d_Wt_open_6 29 (by decide) h2 rfl ?_
  refine G_iconst hX d_Wt_open_9 ?_
  have h4 : f1 30 = ob 6 [.ref (eA E 31), .int (zI c)] := (k3 30 (by decide)).trans hR.1
  refine F_put hX fg_Wt_47 fp_Ro_1 d_Wt_open_10 30 (fs' := [.ref (eA E 31), .int (zI 0)]) (by decide) h4 rfl rfl (Nat.le_of_ble_eq_true rfl) rfl (fun f5 h6 k7 => ?_)
  refine G_aload_n hX 0 rfl rfl d_Wt_open_13 ?_
  have h8 : f5 29 = ob 10 [.ref (eA E 30), .ref (eA E 32), .ref (eA E 34), .ref (eA E 36), .ref (eA E 38), .ref (eA E 40), .ref (eA E 41), .int (zI 0)] := (k7 29 (by decide)).trans h2
  refine F_get hX fg_Wt_16 d_Wt_open_14 29 (by decide) h8 rfl ?_
  refine G_sipush hX (by decide) d_Wt_open_17 ?_
  have h9 : f5 31 = iz E 1885 g := (k7 31 (by decide)).trans ((k3 31 (by decide)).trans hR.2)
  refine F_callV hX (st := []) (c_Ro_push E f5 30 31 1885 g 0 214 (by decide) (by decide) (by decide) ⟨h6, h9⟩ (by omega) (by omega)) cm_Ro_push im_Ro_push se_Ro_push rfl ml_Wt_50 d_Wt_open_20 (by decide) h6 rfl rfl (Nat.le_of_ble_eq_true rfl) (by decide) ?_
  rintro _ f10 ⟨rfl, ⟨h13, h14⟩, k15⟩
  refine G_cast (st' := []) ?_ rfl rfl rfl rfl
  have rp16 := rep_uz (v := 214) rp0
  refine G_aload_n hX 0 rfl rfl d_Wt_open_23 ?_
  have h17 : f10 29 = ob 10 [.ref (eA E 30), .ref (eA E 32), .ref (eA E 34), .ref (eA E 36), .ref (eA E 38), .ref (eA E 40), .ref (eA E 41), .int (zI 0)] := (k15 29 (by decide)).trans h8
  refine F_get hX fg_Wt_16 d_Wt_open_24 29 (by decide) h17 rfl ?_
  refine G_sipush hX (by decide) d_Wt_open_27 ?_
  refine F_callV hX (st := []) (c_Ro_push E f10 30 31 1885 (uz g 0 214) (0 + 1) 195 (by decide) (by decide) (by decide) ⟨h13, h14⟩ (by omega) (by omega)) cm_Ro_push im_Ro_push se_Ro_push rfl ml_Wt_50 d_Wt_open_30 (by decide) h13 rfl rfl (Nat.le_of_ble_eq_true rfl) (by decide) ?_
  rintro _ f18 ⟨rfl, ⟨h21, h22⟩, k23⟩
  refine G_cast (st' := []) ?_ rfl rfl rfl rfl
  have rp24 := rep_uz (v := 195) rp16
  refine G_aload_n hX 0 rfl rfl d_Wt_open_33 ?_
  have h25 : f18 29 = ob 10 [.ref (eA E 30), .ref (eA E 32), .ref (eA E 34), .ref (eA E 36), .ref (eA E 38), .ref (eA E 40), .ref (eA E 41), .int (zI 0)] := (k23 29 (by decide)).trans h17
  refine F_get hX fg_Wt_16 d_Wt_open_34 29 (by decide) h25 rfl ?_
  refine G_sipush hX (by decide) d_Wt_open_37 ?_
  refine F_callV hX (st := []) (c_Ro_push E f18 30 31 1885 (uz (uz g 0 214) (0 + 1) 195) ((0 + 1) + 1) 196 (by decide) (by decide) (by decide) ⟨h21, h22⟩ (by omega) (by omega)) cm_Ro_push im_Ro_push se_Ro_push rfl ml_Wt_50 d_Wt_open_40 (by decide) h21 rfl rfl (Nat.le_of_ble_eq_true rfl) (by decide) ?_
  rintro _ f26 ⟨rfl, ⟨h29, h30⟩, k31⟩
  refine G_cast (st' := []) ?_ rfl rfl rfl rfl
  have rp32 := rep_uz (v := 196) rp24
  refine G_aload_n hX 0 rfl rfl d_Wt_open_43 ?_
  have h33 : f26 29 = ob 10 [.ref (eA E 30), .ref (eA E 32), .ref (eA E 34), .ref (eA E 36), .ref (eA E 38), .ref (eA E 40), .ref (eA E 41), .int (zI 0)] := (k31 29 (by decide)).trans h25
  refine F_get hX fg_Wt_16 d_Wt_open_44 29 (by decide) h33 rfl ?_
  refine G_iconst hX d_Wt_open_47 ?_
  refine F_callV hX (st := []) (c_Ro_push E f26 30 31 1885 (uz (uz (uz g 0 214) (0 + 1) 195) ((0 + 1) + 1) 196) (((0 + 1) + 1) + 1) 0 (by decide) (by decide) (by decide) ⟨h29, h30⟩ (by omega) (by omega)) cm_Ro_push im_Ro_push se_Ro_push rfl ml_Wt_50 d_Wt_open_48 (by decide) h29 rfl rfl (Nat.le_of_ble_eq_true rfl) (by decide) ?_
  rintro _ f34 ⟨rfl, ⟨h37, h38⟩, k39⟩
  refine G_cast (st' := []) ?_ rfl rfl rfl rfl
  have rp40 := rep_uz (v := 0) rp32
  refine G_aload_n hX 0 rfl rfl d_Wt_open_51 ?_
  have h41 : f34 29 = ob 10 [.ref (eA E 30), .ref (eA E 32), .ref (eA E 34), .ref (eA E 36), .ref (eA E 38), .ref (eA E 40), .ref (eA E 41), .int (zI 0)] := (k39 29 (by decide)).trans h33
  refine F_get hX fg_Wt_16 d_Wt_open_52 29 (by decide) h41 rfl ?_
  refine G_iconst hX d_Wt_open_55 ?_
  refine F_callV hX (st := []) (c_Ro_push E f34 30 31 1885 (uz (uz (uz (uz g 0 214) (0 + 1) 195) ((0 + 1) + 1) 196) (((0 + 1) + 1) + 1) 0) ((((0 + 1) + 1) + 1) + 1) 0 (by decide) (by decide) (by decide) ⟨h37, h38⟩ (by omega) (by omega)) cm_Ro_push im_Ro_push se_Ro_push rfl ml_Wt_50 d_Wt_open_56 (by decide) h37 rfl rfl (Nat.le_of_ble_eq_true rfl) (by decide) ?_
  rintro _ f42 ⟨rfl, ⟨h45, h46⟩, k47⟩
  refine G_cast (st' := []) ?_ rfl rfl rfl rfl
  have rp48 := rep_uz (v := 0) rp40
  have h49 : f42 29 = ob 10 [.ref (eA E 30), .ref (eA E 32), .ref (eA E 34), .ref (eA E 36), .ref (eA E 38), .ref (eA E 40), .ref (eA E 41), .int (zI 0)] := (k47 29 (by decide)).trans h41
  exact F_vret hX hE d_Wt_open_59 ⟨rfl, h49, ⟨_, ⟨h45, h46⟩, rp48⟩, (Fr.tr (Fr.tr (Fr.tr (Fr.tr (Fr.tr (Fr.tr (Fr.tr Fr.rf k3 (by decide)) k7 (by decide)) k15 (by decide)) k23 (by decide)) k31 (by decide)) k39 (by decide)) k47 (by decide))⟩
theorem c_Wt_writeSource (E : EV) (f : Nat → va_E) (nx : Int) (g : Int → Int) (c : Int) (L : List Int) (so ck : Int) (hT : isWt E f nx) (hR : isR E f 30 31 1885 g c) (hL : rep g c L) (hb : 0 ≤ c ∧ c + 9 ≤ 1885 ∧ 0 ≤ so ∧ so < 16384) (hck : ck = 0 ∨ ck = 1) : CF yn_Wt_writeSource cd_Wt_writeSource 3 none 2 E [.ref (eA E 29), .int (zI so), .int (zI ck)] f (fun r f' => r = none ∧ (∃ g' c', isR E f' 30 31 1885 g' c' ∧ rep g' c' (L ++ wsL so ck)) ∧ Fr [30, 31] f f') := by
  refine CF.of (by decide +kernel) (Nat.le_of_ble_eq_true rfl) fun X hX hE => ?_
  have hX : Ok E X "DeltaFerry$Writer" "writeSource" cd_Wt_writeSource 3 none (rl 2) := hX
  refine G_cast (lv' := [(0, .ref (eA E 29)), (1, .int (zI so)), (2, .int (zI ck))]) ?_ rfl rfl rfl rfl
  have hw1 := wid_b so
  have hw2 := wid_b 0
  refine G_aload_n hX 0 rfl rfl d_Wt_writeSource_0 ?_
  refine F_get hX fg_Wt_16 d_Wt_writeSource_1 29 (by decide) hT rfl ?_
  refine G_iload_n hX 1 rfl rfl d_Wt_writeSource_4 ?_
  refine G_if_le_z hX (tgt := 12) d_Wt_writeSource_5 rfl (by omega) (fun c1 => ?_) (fun c2 => ?_)
  · skip
    refine G_iconst hX d_Wt_writeSource_12 ?_
    refine G_iload_n hX 2 rfl rfl d_Wt_writeSource_13 ?_
    refine G_if_eq_z hX (tgt := 21) d_Wt_writeSource_14 rfl (by omega) (fun c3 => ?_) (fun c4 => ?_)
    · skip
      refine G_iconst hX d_Wt_writeSource_21 ?_
      refine G_iadd_z hX d_Wt_writeSource_22 ?_
      refine F_callV hX (st := []) (c_Ro_push E f 30 31 1885 g c (0 + 0) (by decide) (by decide) (by decide) ⟨hR.1, hR.2⟩ (by omega) (by omega)) cm_Ro_push im_Ro_push se_Ro_push rfl ml_Wt_50 d_Wt_writeSource_23 (by decide) hR.1 rfl rfl (Nat.le_of_ble_eq_true rfl) (by decide) ?_
      rintro _ f5 ⟨rfl, ⟨h8, h9⟩, k10⟩
      refine G_cast (st' := []) ?_ rfl rfl rfl rfl
      have rp11 := rep_uz (v := 0 + 0) hL
      refine G_iload_n hX 1 rfl rfl d_Wt_writeSource_26 ?_
      refine G_if_le_z hX (tgt := 46) d_Wt_writeSource_27 rfl (by omega) (fun c12 => ?_) (fun c13 => by exfalso; omega)
      have e1 : wsL so ck = [0 + 0] := by unfold wsL; rw [if_neg (by omega), if_pos (by omega), if_neg (by omega), List.append_nil]
      refine F_vret hX hE d_Wt_writeSource_46 ⟨rfl, ⟨_, _, ⟨h8, h9⟩, ?_⟩, (Fr.tr Fr.rf k10 (by decide))⟩
      rw [e1]; exact rp11
    · skip
      refine G_iconst hX d_Wt_writeSource_17 ?_
      refine G_goto hX (tgt := 22) d_Wt_writeSource_18 rfl ?_
      refine G_iadd_z hX d_Wt_writeSource_22 ?_
      refine F_callV hX (st := []) (c_Ro_push E f 30 31 1885 g c (0 + 4) (by decide) (by decide) (by decide) ⟨hR.1, hR.2⟩ (by omega) (by omega)) cm_Ro_push im_Ro_push se_Ro_push rfl ml_Wt_50 d_Wt_writeSource_23 (by decide) hR.1 rfl rfl (Nat.le_of_ble_eq_true rfl) (by decide) ?_
      rintro _ f14 ⟨rfl, ⟨h17, h18⟩, k19⟩
      refine G_cast (st' := []) ?_ rfl rfl rfl rfl
      have rp20 := rep_uz (v := 0 + 4) hL
      refine G_iload_n hX 1 rfl rfl d_Wt_writeSource_26 ?_
      refine G_if_le_z hX (tgt := 46) d_Wt_writeSource_27 rfl (by omega) (fun c21 => ?_) (fun c22 => by exfalso; omega)
      have e1 : wsL so ck = [0 + 4] := by unfold wsL; rw [if_neg (by omega), if_neg (by omega), if_neg (by omega), List.append_nil]
      refine F_vret hX hE d_Wt_writeSource_46 ⟨rfl, ⟨_, _, ⟨h17, h18⟩, ?_⟩, (Fr.tr Fr.rf k19 (by decide))⟩
      rw [e1]; exact rp20
  · skip
    refine G_iconst hX d_Wt_writeSource_8 ?_
    refine G_goto hX (tgt := 13) d_Wt_writeSource_9 rfl ?_
    refine G_iload_n hX 2 rfl rfl d_Wt_writeSource_13 ?_
    refine G_if_eq_z hX (tgt := 21) d_Wt_writeSource_14 rfl (by omega) (fun c23 => ?_) (fun c24 => ?_)
    · skip
      refine G_iconst hX d_Wt_writeSource_21 ?_
      refine G_iadd_z hX d_Wt_writeSource_22 ?_
      refine F_callV hX (st := []) (c_Ro_push E f 30 31 1885 g c (1 + 0) (by decide) (by decide) (by decide) ⟨hR.1, hR.2⟩ (by omega) (by omega)) cm_Ro_push im_Ro_push se_Ro_push rfl ml_Wt_50 d_Wt_writeSource_23 (by decide) hR.1 rfl rfl (Nat.le_of_ble_eq_true rfl) (by decide) ?_
      rintro _ f25 ⟨rfl, ⟨h28, h29⟩, k30⟩
      refine G_cast (st' := []) ?_ rfl rfl rfl rfl
      have rp31 := rep_uz (v := 1 + 0) hL
      refine G_iload_n hX 1 rfl rfl d_Wt_writeSource_26 ?_
      refine G_if_le_z hX (tgt := 46) d_Wt_writeSource_27 rfl (by omega) (fun c32 => by exfalso; omega) (fun c33 => ?_)
      refine G_aload_n hX 0 rfl rfl d_Wt_writeSource_30 ?_
      have h34 : f25 29 = ob 10 [.ref (eA E 30), .ref (eA E 32), .ref (eA E 34), .ref (eA E 36), .ref (eA E 38), .ref (eA E 40), .ref (eA E 41), .int (zI nx)] := (k30 29 (by decide)).trans hT
      refine F_get hX fg_Wt_16 d_Wt_writeSource_31 29 (by decide) h34 rfl ?_
      refine G_iload_n hX 1 rfl rfl d_Wt_writeSource_34 ?_
      refine F_callV hX (st := []) (c_Ro_pushNumber E f25 30 31 1885 (uz g c (1 + 0)) (c + 1) so (by decide) (by decide) (by decide) ⟨h28, h29⟩ (by omega) (by omega) (by omega)) cm_Ro_pushNumber im_Ro_pushNumber se_Ro_pushNumber rfl ml_Wt_97 d_Wt_writeSource_35 (by decide) h28 rfl rfl (Nat.le_of_ble_eq_true rfl) (by decide) ?_
      rintro _ f35 ⟨rfl, ⟨h38, h39⟩, k40⟩
      refine G_cast (st' := []) ?_ rfl rfl rfl rfl
      have rp41 := rep_nb (v := so) rp31
      refine G_aload_n hX 0 rfl rfl d_Wt_writeSource_38 ?_
      have h42 : f35 29 = ob 10 [.ref (eA E 30), .ref (eA E 32), .ref (eA E 34), .ref (eA E 36), .ref (eA E 38), .ref (eA E 40), .ref (eA E 41), .int (zI nx)] := (k40 29 (by decide)).trans h34
      refine F_get hX fg_Wt_16 d_Wt_writeSource_39 29 (by decide) h42 rfl ?_
      refine G_iconst hX d_Wt_writeSource_42 ?_
      refine F_callV hX (st := []) (c_Ro_pushNumber E f35 30 31 1885 (pz (uz g c (1 + 0)) (c + 1) (nby so) (wid so)) ((c + 1) + wid so) 0 (by decide) (by decide) (by decide) ⟨h38, h39⟩ (by omega) (by omega) (by omega)) cm_Ro_pushNumber im_Ro_pushNumber se_Ro_pushNumber rfl ml_Wt_97 d_Wt_writeSource_43 (by decide) h38 rfl rfl (Nat.le_of_ble_eq_true rfl) (by decide) ?_
      rintro _ f43 ⟨rfl, ⟨h46, h47⟩, k48⟩
      refine G_cast (st' := []) ?_ rfl rfl rfl rfl
      have rp49 := rep_nb (v := 0) rp41
      have e1 : wsL so ck = [1 + 0] ++ (nbL so ++ nbL 0) := by unfold wsL; rw [if_pos (by omega), if_pos (by omega), if_pos (by omega)]
      refine F_vret hX hE d_Wt_writeSource_46 ⟨rfl, ⟨_, _, ⟨h46, h47⟩, ?_⟩, (Fr.tr (Fr.tr (Fr.tr Fr.rf k30 (by decide)) k40 (by decide)) k48 (by decide))⟩
      rw [e1]; rw [← List.append_assoc, ← List.append_assoc]; exact rp49
    · skip
      refine G_iconst hX d_Wt_writeSource_17 ?_
      refine G_goto hX (tgt := 22) d_Wt_writeSource_18 rfl ?_
      refine G_iadd_z hX d_Wt_writeSource_22 ?_
      refine F_callV hX (st := []) (c_Ro_push E f 30 31 1885 g c (1 + 4) (by decide) (by decide) (by decide) ⟨hR.1, hR.2⟩ (by omega) (by omega)) cm_Ro_push im_Ro_push se_Ro_push rfl ml_Wt_50 d_Wt_writeSource_23 (by decide) hR.1 rfl rfl (Nat.le_of_ble_eq_true rfl) (by decide) ?_
      rintro _ f50 ⟨rfl, ⟨h53, h54⟩, k55⟩
      refine G_cast (st' := []) ?_ rfl rfl rfl rfl
      have rp56 := rep_uz (v := 1 + 4) hL
      refine G_iload_n hX 1 rfl rfl d_Wt_writeSource_26 ?_
      refine G_if_le_z hX (tgt := 46) d_Wt_writeSource_27 rfl (by omega) (fun c57 => by exfalso; omega) (fun c58 => ?_)
      refine G_aload_n hX 0 rfl rfl d_Wt_writeSource_30 ?_
      have h59 : f50 29 = ob 10 [.ref (eA E 30), .ref (eA E 32), .ref (eA E 34), .ref (eA E 36), .ref (eA E 38), .ref (eA E 40), .ref (eA E 41), .int (zI nx)] := (k55 29 (by decide)).trans hT
      refine F_get hX fg_Wt_16 d_Wt_writeSource_31 29 (by decide) h59 rfl ?_
      refine G_iload_n hX 1 rfl rfl d_Wt_writeSource_34 ?_
      refine F_callV hX (st := []) (c_Ro_pushNumber E f50 30 31 1885 (uz g c (1 + 4)) (c + 1) so (by decide) (by decide) (by decide) ⟨h53, h54⟩ (by omega) (by omega) (by omega)) cm_Ro_pushNumber im_Ro_pushNumber se_Ro_pushNumber rfl ml_Wt_97 d_Wt_writeSource_35 (by decide) h53 rfl rfl (Nat.le_of_ble_eq_true rfl) (by decide) ?_
      rintro _ f60 ⟨rfl, ⟨h63, h64⟩, k65⟩
      refine G_cast (st' := []) ?_ rfl rfl rfl rfl
      have rp66 := rep_nb (v := so) rp56
      refine G_aload_n hX 0 rfl rfl d_Wt_writeSource_38 ?_
      have h67 : f60 29 = ob 10 [.ref (eA E 30), .ref (eA E 32), .ref (eA E 34), .ref (eA E 36), .ref (eA E 38), .ref (eA E 40), .ref (eA E 41), .int (zI nx)] := (k65 29 (by decide)).trans h59
      refine F_get hX fg_Wt_16 d_Wt_writeSource_39 29 (by decide) h67 rfl ?_
      refine G_iconst hX d_Wt_writeSource_42 ?_
      refine F_callV hX (st := []) (c_Ro_pushNumber E f60 30 31 1885 (pz (uz g c (1 + 4)) (c + 1) (nby so) (wid so)) ((c + 1) + wid so) 0 (by decide) (by decide) (by decide) ⟨h63, h64⟩ (by omega) (by omega) (by omega)) cm_Ro_pushNumber im_Ro_pushNumber se_Ro_pushNumber rfl ml_Wt_97 d_Wt_writeSource_43 (by decide) h63 rfl rfl (Nat.le_of_ble_eq_true rfl) (by decide) ?_
      rintro _ f68 ⟨rfl, ⟨h71, h72⟩, k73⟩
      refine G_cast (st' := []) ?_ rfl rfl rfl rfl
      have rp74 := rep_nb (v := 0) rp66
      have e1 : wsL so ck = [1 + 4] ++ (nbL so ++ nbL 0) := by unfold wsL; rw [if_pos (by omega), if_neg (by omega), if_pos (by omega)]
      refine F_vret hX hE d_Wt_writeSource_46 ⟨rfl, ⟨_, _, ⟨h71, h72⟩, ?_⟩, (Fr.tr (Fr.tr (Fr.tr Fr.rf k55 (by decide)) k65 (by decide)) k73 (by decide))⟩
      rw [e1]; rw [← List.append_assoc, ← List.append_assoc]; exact rp74
theorem c_Wt_writeHead (E : EV) (f : Nat → va_E) (nx : Int) (g gd gq ga : Int → Int) (c cd cq ca : Int) (sz ck v : Int) (hT : isWt E f nx) (hR : isR E f 32 33 20 g c) (hRd : isR E f 34 35 256 gd cd) (hRq : isR E f 36 37 768 gq cq) (hRa : isR E f 38 39 512 ga ca) (hb : 0 ≤ cd ∧ cd < 16384 ∧ 0 ≤ cq ∧ cq < 16384 ∧ 0 ≤ ca ∧ ca < 16384 ∧ 0 ≤ sz ∧ sz < 16384) (hv : 0 ≤ v ∧ v < 4294967296) (hck : ck = 0 ∨ ck = 1) : CF yn_Wt_writeHead cd_Wt_writeHead 6 none 2 E [.ref (eA E 29), .int (zI sz), .int (zI ck), .long (zL v)] f (fun r f' => r = none ∧ (∃ g' c', isR E f' 32 33 20 g' c' ∧ rep g' c' (hdL sz ck v cd cq ca)) ∧ Fr [32, 33] f f') := by
  refine CF.of (by decide +kernel) (Nat.le_of_ble_eq_true rfl) fun X hX hE => ?_
  have hX : Ok E X "DeltaFerry$Writer" "writeHead" cd_Wt_writeHead 6 none (rl 2) := hX
  refine G_cast (lv' := [(0, .ref (eA E 29)), (1, .int (zI sz)), (2, .int (zI ck)), (3, .long (zL v))]) ?_ rfl rfl rfl rfl
  have rp0 := rep_0 g
  have hwsz := wid_2 (v := sz) (by omega)
  have hvsz := wid_b sz
  have hwcd := wid_2 (v := cd) (by omega)
  have hvcd := wid_b cd
  have hwcq := wid_2 (v := cq) (by omega)
  have hvcq := wid_b cq
  have hwca := wid_2 (v := ca) (by omega)
  have hvca := wid_b ca
  refine G_aload_n hX 0 rfl rfl d_Wt_writeHead_0 ?_
  refine F_get hX fg_Wt_20 d_Wt_writeHead_1 29 (by decide) hT rfl ?_
  refine G_iconst hX d_Wt_writeHead_4 ?_
  refine F_put hX fg_Wt_47 fp_Ro_1 d_Wt_writeHead_5 32 (fs' := [.ref (eA E 33), .int (zI 0)]) (by decide) hR.1 rfl rfl (Nat.le_of_ble_eq_true rfl) rfl (fun f1 h2 k3 => ?_)
  refine G_aload_n hX 0 rfl rfl d_Wt_writeHead_8 ?_
  have h4 : f1 29 = ob 10 [.ref (eA E 30), .ref (eA E 32), .ref (eA E 34), .ref (eA E 36), .ref (eA E 38), .ref (eA E 40), .ref (eA E 41), .int (zI nx)] := (k3 29 (by decide)).trans hT
  refine F_get hX fg_Wt_20 d_Wt_writeHead_9 29 (by decide) h4 rfl ?_
  refine G_iload_n hX 1 rfl rfl d_Wt_writeHead_12 ?_
  have h5 : f1 33 = iz E 20 g := (k3 33 (by decide)).trans hR.2
  refine F_callV hX (st := []) (c_Ro_pushNumber E f1 32 33 20 g 0 sz (by decide) (by decide) (by decide) ⟨h2, h5⟩ (by omega) (by omega) (by omega)) cm_Ro_pushNumber im_Ro_pushNumber se_Ro_pushNumber rfl ml_Wt_97 d_Wt_writeHead_13 (by decide) h2 rfl rfl (Nat.le_of_ble_eq_true rfl) (by decide) ?_
  rintro _ f6 ⟨rfl, ⟨h9, h10⟩, k11⟩
  refine G_cast (st' := []) ?_ rfl rfl rfl rfl
  have rp12 := rep_nb (v := sz) rp0
  refine G_aload_n hX 0 rfl rfl d_Wt_writeHead_16 ?_
  have h13 : f6 29 = ob 10 [.ref (eA E 30), .ref (eA E 32), .ref (eA E 34), .ref (eA E 36), .ref (eA E 38), .ref (eA E 40), .ref (eA E 41), .int (zI nx)] := (k11 29 (by decide)).trans h4
  refine F_get hX fg_Wt_20 d_Wt_writeHead_17 29 (by decide) h13 rfl ?_
  refine G_iconst hX d_Wt_writeHead_20 ?_
  refine F_callV hX (st := []) (c_Ro_push E f6 32 33 20 (pz g 0 (nby sz) (wid sz)) (0 + wid sz) 0 (by decide) (by decide) (by decide) ⟨h9, h10⟩ (by omega) (by omega)) cm_Ro_push im_Ro_push se_Ro_push rfl ml_Wt_50 d_Wt_writeHead_21 (by decide) h9 rfl rfl (Nat.le_of_ble_eq_true rfl) (by decide) ?_
  rintro _ f14 ⟨rfl, ⟨h17, h18⟩, k19⟩
  refine G_cast (st' := []) ?_ rfl rfl rfl rfl
  have rp20 := rep_uz (v := 0) rp12
  refine G_aload_n hX 0 rfl rfl d_Wt_writeHead_24 ?_
  have h21 : f14 29 = ob 10 [.ref (eA E 30), .ref (eA E 32), .ref (eA E 34), .ref (eA E 36), .ref (eA E 38), .ref (eA E 40), .ref (eA E 41), .int (zI nx)] := (k19 29 (by decide)).trans h13
  refine F_get hX fg_Wt_20 d_Wt_writeHead_25 29 (by decide) h21 rfl ?_
  refine G_aload_n hX 0 rfl rfl d_Wt_writeHead_28 ?_
  refine F_get hX fg_Wt_23 d_Wt_writeHead_29 29 (by decide) h21 rfl ?_
  have h22 : f14 34 = ob 6 [.ref (eA E 35), .int (zI cd)] := (k19 34 (by decide)).trans ((k11 34 (by decide)).trans ((k3 34 (by decide)).trans hRd.1))
  refine F_get hX fg_Wt_47 d_Wt_writeHead_32 34 (by decide) h22 rfl ?_
  refine F_callV hX (st := []) (c_Ro_pushNumber E f14 32 33 20 (uz (pz g 0 (nby sz) (wid sz)) (0 + wid sz) 0) ((0 + wid sz) + 1) cd (by decide) (by decide) (by decide) ⟨h17, h18⟩ (by omega) (by omega) (by omega)) cm_Ro_pushNumber im_Ro_pushNumber se_Ro_pushNumber rfl ml_Wt_97 d_Wt_writeHead_35 (by decide) h17 rfl rfl (Nat.le_of_ble_eq_true rfl) (by decide) ?_
  rintro _ f23 ⟨rfl, ⟨h26, h27⟩, k28⟩
  refine G_cast (st' := []) ?_ rfl rfl rfl rfl
  have rp29 := rep_nb (v := cd) rp20
  refine G_aload_n hX 0 rfl rfl d_Wt_writeHead_38 ?_
  have h30 : f23 29 = ob 10 [.ref (eA E 30), .ref (eA E 32), .ref (eA E 34), .ref (eA E 36), .ref (eA E 38), .ref (eA E 40), .ref (eA E 41), .int (zI nx)] := (k28 29 (by decide)).trans h21
  refine F_get hX fg_Wt_20 d_Wt_writeHead_39 29 (by decide) h30 rfl ?_
  refine G_aload_n hX 0 rfl rfl d_Wt_writeHead_42 ?_
  refine F_get hX fg_Wt_26 d_Wt_writeHead_43 29 (by decide) h30 rfl ?_
  have h31 : f23 36 = ob 6 [.ref (eA E 37), .int (zI cq)] := (k28 36 (by decide)).trans ((k19 36 (by decide)).trans ((k11 36 (by decide)).trans ((k3 36 (by decide)).trans hRq.1)))
  refine F_get hX fg_Wt_47 d_Wt_writeHead_46 36 (by decide) h31 rfl ?_
  refine F_callV hX (st := []) (c_Ro_pushNumber E f23 32 33 20 (pz (uz (pz g 0 (nby sz) (wid sz)) (0 + wid sz) 0) ((0 + wid sz) + 1) (nby cd) (wid cd)) (((0 + wid sz) + 1) + wid cd) cq (by decide) (by decide) (by decide) ⟨h26, h27⟩ (by omega) (by omega) (by omega)) cm_Ro_pushNumber im_Ro_pushNumber se_Ro_pushNumber rfl ml_Wt_97 d_Wt_writeHead_49 (by decide) h26 rfl rfl (Nat.le_of_ble_eq_true rfl) (by decide) ?_
  rintro _ f32 ⟨rfl, ⟨h35, h36⟩, k37⟩
  refine G_cast (st' := []) ?_ rfl rfl rfl rfl
  have rp38 := rep_nb (v := cq) rp29
  refine G_aload_n hX 0 rfl rfl d_Wt_writeHead_52 ?_
  have h39 : f32 29 = ob 10 [.ref (eA E 30), .ref (eA E 32), .ref (eA E 34), .ref (eA E 36), .ref (eA E 38), .ref (eA E 40), .ref (eA E 41), .int (zI nx)] := (k37 29 (by decide)).trans h30
  refine F_get hX fg_Wt_20 d_Wt_writeHead_53 29 (by decide) h39 rfl ?_
  refine G_aload_n hX 0 rfl rfl d_Wt_writeHead_56 ?_
  refine F_get hX fg_Wt_29 d_Wt_writeHead_57 29 (by decide) h39 rfl ?_
  have h40 : f32 38 = ob 6 [.ref (eA E 39), .int (zI ca)] := (k37 38 (by decide)).trans ((k28 38 (by decide)).trans ((k19 38 (by decide)).trans ((k11 38 (by decide)).trans ((k3 38 (by decide)).trans hRa.1))))
  refine F_get hX fg_Wt_47 d_Wt_writeHead_60 38 (by decide) h40 rfl ?_
  refine F_callV hX (st := []) (c_Ro_pushNumber E f32 32 33 20 (pz (pz (uz (pz g 0 (nby sz) (wid sz)) (0 + wid sz) 0) ((0 + wid sz) + 1) (nby cd) (wid cd)) (((0 + wid sz) + 1) + wid cd) (nby cq) (wid cq)) ((((0 + wid sz) + 1) + wid cd) + wid cq) ca (by decide) (by decide) (by decide) ⟨h35, h36⟩ (by omega) (by omega) (by omega)) cm_Ro_pushNumber im_Ro_pushNumber se_Ro_pushNumber rfl ml_Wt_97 d_Wt_writeHead_63 (by decide) h35 rfl rfl (Nat.le_of_ble_eq_true rfl) (by decide) ?_
  rintro _ f41 ⟨rfl, ⟨h44, h45⟩, k46⟩
  refine G_cast (st' := []) ?_ rfl rfl rfl rfl
  have rp47 := rep_nb (v := ca) rp38
  refine G_iload_n hX 2 rfl rfl d_Wt_writeHead_66 ?_
  refine G_if_eq_z hX (tgt := 101) d_Wt_writeHead_67 rfl (by omega) (fun c48 => ?_) (fun c49 => ?_)
  · skip
    have e1 : hdL sz ck v cd cq ca = [] ++ nbL sz ++ [0] ++ nbL cd ++ nbL cq ++ nbL ca := by unfold hdL; rw [if_pos (by omega)]; simp only [List.append_assoc, List.append_nil, List.nil_append, List.cons_append]
    exact F_vret hX hE d_Wt_writeHead_101 ⟨rfl, ⟨_, _, ⟨h44, h45⟩, by rw [e1]; exact rp47⟩, (Fr.tr (Fr.tr (Fr.tr (Fr.tr (Fr.tr (Fr.tr Fr.rf k3 (by decide)) k11 (by decide)) k19 (by decide)) k28 (by decide)) k37 (by decide)) k46 (by decide))⟩
  · skip
    refine G_bipush hX (by decide) d_Wt_writeHead_70 ?_
    refine G_istore hX (lv' := [(5, .int (zI 24)), (0, .ref (eA E 29)), (1, .int (zI sz)), (2, .int (zI ck)), (3, .long (zL v))]) (by decide) rfl d_Wt_writeHead_72 ?_
    refine G_iload hX 0 rfl d_Wt_writeHead_74 ?_
    refine G_if_lt_z hX (tgt := 101) d_Wt_writeHead_76 rfl (by omega) (fun c50 => by exfalso; omega) (fun c51 => ?_)
    refine G_aload_n hX 1 rfl rfl d_Wt_writeHead_79 ?_
    have h52 : f41 29 = ob 10 [.ref (eA E 30), .ref (eA E 32), .ref (eA E 34), .ref (eA E 36), .ref (eA E 38), .ref (eA E 40), .ref (eA E 41), .int (zI nx)] := (k46 29 (by decide)).trans h39
    refine F_get hX fg_Wt_20 d_Wt_writeHead_80 29 (by decide) h52 rfl ?_
    refine G_lload_n hX 4 rfl rfl d_Wt_writeHead_83 ?_
    refine G_iload hX 0 rfl d_Wt_writeHead_84 ?_
    refine G_lushr hX (v := ((zL v).toUInt64 >>> ((zI 24).toInt64.toUInt64 &&& Int64.toUInt64 63)).toInt64) rfl d_Wt_writeHead_86 ?_
    refine G_topl (show (((zL v).toUInt64 >>> ((zI 24).toInt64.toUInt64 &&& Int64.toUInt64 63)).toInt64) = zL (v / 16777216) from zL_ushr 24 (by omega) (by decide)) ?_
    refine G_l2i hX (v := zI (v / 16777216)) (zL_i _) d_Wt_writeHead_87 ?_
    refine G_sipush hX (by decide) d_Wt_writeHead_88 ?_
    refine G_iand hX d_Wt_writeHead_91 ?_
    refine G_top (show (zI (v / 16777216) &&& zI 255) = zI ((v / 16777216) % 256) from zI_and255 _) ?_
    refine F_callV hX (st := []) (c_Ro_push E f41 32 33 20 (pz (pz (pz (uz (pz g 0 (nby sz) (wid sz)) (0 + wid sz) 0) ((0 + wid sz) + 1) (nby cd) (wid cd)) (((0 + wid sz) + 1) + wid cd) (nby cq) (wid cq)) ((((0 + wid sz) + 1) + wid cd) + wid cq) (nby ca) (wid ca)) (((((0 + wid sz) + 1) + wid cd) + wid cq) + wid ca) ((v / 16777216) % 256) (by decide) (by decide) (by decide) ⟨h44, h45⟩ (by omega) (by omega)) cm_Ro_push im_Ro_push se_Ro_push rfl ml_Wt_50 d_Wt_writeHead_92 (by decide) h44 rfl rfl (Nat.le_of_ble_eq_true rfl) (by decide) ?_
    rintro _ f53 ⟨rfl, ⟨h56, h57⟩, k58⟩
    refine G_cast (st' := []) ?_ rfl rfl rfl rfl
    have rp59 := rep_uz (v := (v / 16777216) % 256) rp47
    refine G_iinc_z hX (lv' := [(5, .int (zI (24 + (-8)))), (0, .ref (eA E 29)), (1, .int (zI sz)), (2, .int (zI ck)), (3, .long (zL v))]) 0 rfl (by decide) rfl d_Wt_writeHead_95 ?_
    refine G_goto hX (tgt := 74) d_Wt_writeHead_98 rfl ?_
    refine G_cast (lv' := [(5, .int (zI 16)), (0, .ref (eA E 29)), (1, .int (zI sz)), (2, .int (zI ck)), (3, .long (zL v))]) ?_ rfl rfl rfl rfl
    refine G_iload hX 0 rfl d_Wt_writeHead_74 ?_
    refine G_if_lt_z hX (tgt := 101) d_Wt_writeHead_76 rfl (by omega) (fun c60 => by exfalso; omega) (fun c61 => ?_)
    refine G_aload_n hX 1 rfl rfl d_Wt_writeHead_79 ?_
    have h62 : f53 29 = ob 10 [.ref (eA E 30), .ref (eA E 32), .ref (eA E 34), .ref (eA E 36), .ref (eA E 38), .ref (eA E 40), .ref (eA E 41), .int (zI nx)] := (k58 29 (by decide)).trans h52
    refine F_get hX fg_Wt_20 d_Wt_writeHead_80 29 (by decide) h62 rfl ?_
    refine G_lload_n hX 4 rfl rfl d_Wt_writeHead_83 ?_
    refine G_iload hX 0 rfl d_Wt_writeHead_84 ?_
    refine G_lushr hX (v := ((zL v).toUInt64 >>> ((zI 16).toInt64.toUInt64 &&& Int64.toUInt64 63)).toInt64) rfl d_Wt_writeHead_86 ?_
    refine G_topl (show (((zL v).toUInt64 >>> ((zI 16).toInt64.toUInt64 &&& Int64.toUInt64 63)).toInt64) = zL (v / 65536) from zL_ushr 16 (by omega) (by decide)) ?_
    refine G_l2i hX (v := zI (v / 65536)) (zL_i _) d_Wt_writeHead_87 ?_
    refine G_sipush hX (by decide) d_Wt_writeHead_88 ?_
    refine G_iand hX d_Wt_writeHead_91 ?_
    refine G_top (show (zI (v / 65536) &&& zI 255) = zI ((v / 65536) % 256) from zI_and255 _) ?_
    refine F_callV hX (st := []) (c_Ro_push E f53 32 33 20 (uz (pz (pz (pz (uz (pz g 0 (nby sz) (wid sz)) (0 + wid sz) 0) ((0 + wid sz) + 1) (nby cd) (wid cd)) (((0 + wid sz) + 1) + wid cd) (nby cq) (wid cq)) ((((0 + wid sz) + 1) + wid cd) + wid cq) (nby ca) (wid ca)) (((((0 + wid sz) + 1) + wid cd) + wid cq) + wid ca) ((v / 16777216) % 256)) ((((((0 + wid sz) + 1) + wid cd) + wid cq) + wid ca) + 1) ((v / 65536) % 256) (by decide) (by decide) (by decide) ⟨h56, h57⟩ (by omega) (by omega)) cm_Ro_push im_Ro_push se_Ro_push rfl ml_Wt_50 d_Wt_writeHead_92 (by decide) h56 rfl rfl (Nat.le_of_ble_eq_true rfl) (by decide) ?_
    rintro _ f63 ⟨rfl, ⟨h66, h67⟩, k68⟩
    refine G_cast (st' := []) ?_ rfl rfl rfl rfl
    have rp69 := rep_uz (v := (v / 65536) % 256) rp59
    refine G_iinc_z hX (lv' := [(5, .int (zI (16 + (-8)))), (0, .ref (eA E 29)), (1, .int (zI sz)), (2, .int (zI ck)), (3, .long (zL v))]) 0 rfl (by decide) rfl d_Wt_writeHead_95 ?_
    refine G_goto hX (tgt := 74) d_Wt_writeHead_98 rfl ?_
    refine G_cast (lv' := [(5, .int (zI 8)), (0, .ref (eA E 29)), (1, .int (zI sz)), (2, .int (zI ck)), (3, .long (zL v))]) ?_ rfl rfl rfl rfl
    refine G_iload hX 0 rfl d_Wt_writeHead_74 ?_
    refine G_if_lt_z hX (tgt := 101) d_Wt_writeHead_76 rfl (by omega) (fun c70 => by exfalso; omega) (fun c71 => ?_)
    refine G_aload_n hX 1 rfl rfl d_Wt_writeHead_79 ?_
    have h72 : f63 29 = ob 10 [.ref (eA E 30), .ref (eA E 32), .ref (eA E 34), .ref (eA E 36), .ref (eA E 38), .ref (eA E 40), .ref (eA E 41), .int (zI nx)] := (k68 29 (by decide)).trans h62
    refine F_get hX fg_Wt_20 d_Wt_writeHead_80 29 (by decide) h72 rfl ?_
    refine G_lload_n hX 4 rfl rfl d_Wt_writeHead_83 ?_
    refine G_iload hX 0 rfl d_Wt_writeHead_84 ?_
    refine G_lushr hX (v := ((zL v).toUInt64 >>> ((zI 8).toInt64.toUInt64 &&& Int64.toUInt64 63)).toInt64) rfl d_Wt_writeHead_86 ?_
    refine G_topl (show (((zL v).toUInt64 >>> ((zI 8).toInt64.toUInt64 &&& Int64.toUInt64 63)).toInt64) = zL (v / 256) from zL_ushr 8 (by omega) (by decide)) ?_
    refine G_l2i hX (v := zI (v / 256)) (zL_i _) d_Wt_writeHead_87 ?_
    refine G_sipush hX (by decide) d_Wt_writeHead_88 ?_
    refine G_iand hX d_Wt_writeHead_91 ?_
    refine G_top (show (zI (v / 256) &&& zI 255) = zI ((v / 256) % 256) from zI_and255 _) ?_
    refine F_callV hX (st := []) (c_Ro_push E f63 32 33 20 (uz (uz (pz (pz (pz (uz (pz g 0 (nby sz) (wid sz)) (0 + wid sz) 0) ((0 + wid sz) + 1) (nby cd) (wid cd)) (((0 + wid sz) + 1) + wid cd) (nby cq) (wid cq)) ((((0 + wid sz) + 1) + wid cd) + wid cq) (nby ca) (wid ca)) (((((0 + wid sz) + 1) + wid cd) + wid cq) + wid ca) ((v / 16777216) % 256)) ((((((0 + wid sz) + 1) + wid cd) + wid cq) + wid ca) + 1) ((v / 65536) % 256)) (((((((0 + wid sz) + 1) + wid cd) + wid cq) + wid ca) + 1) + 1) ((v / 256) % 256) (by decide) (by decide) (by decide) ⟨h66, h67⟩ (by omega) (by omega)) cm_Ro_push im_Ro_push se_Ro_push rfl ml_Wt_50 d_Wt_writeHead_92 (by decide) h66 rfl rfl (Nat.le_of_ble_eq_true rfl) (by decide) ?_
    rintro _ f73 ⟨rfl, ⟨h76, h77⟩, k78⟩
    refine G_cast (st' := []) ?_ rfl rfl rfl rfl
    have rp79 := rep_uz (v := (v / 256) % 256) rp69
    refine G_iinc_z hX (lv' := [(5, .int (zI (8 + (-8)))), (0, .ref (eA E 29)), (1, .int (zI sz)), (2, .int (zI ck)), (3, .long (zL v))]) 0 rfl (by decide) rfl d_Wt_writeHead_95 ?_
    refine G_goto hX (tgt := 74) d_Wt_writeHead_98 rfl ?_
    refine G_cast (lv' := [(5, .int (zI 0)), (0, .ref (eA E 29)), (1, .int (zI sz)), (2, .int (zI ck)), (3, .long (zL v))]) ?_ rfl rfl rfl rfl
    refine G_iload hX 0 rfl d_Wt_writeHead_74 ?_
    refine G_if_lt_z hX (tgt := 101) d_Wt_writeHead_76 rfl (by omega) (fun c80 => by exfalso; omega) (fun c81 => ?_)
    refine G_aload_n hX 1 rfl rfl d_Wt_writeHead_79 ?_
    have h82 : f73 29 = ob 10 [.ref (eA E 30), .ref (eA E 32), .ref (eA E 34), .ref (eA E 36), .ref (eA E 38), .ref (eA E 40), .ref (eA E 41), .int (zI nx)] := (k78 29 (by decide)).trans h72
    refine F_get hX fg_Wt_20 d_Wt_writeHead_80 29 (by decide) h82 rfl ?_
    refine G_lload_n hX 4 rfl rfl d_Wt_writeHead_83 ?_
    refine G_iload hX 0 rfl d_Wt_writeHead_84 ?_
    refine G_lushr hX (v := ((zL v).toUInt64 >>> ((zI 0).toInt64.toUInt64 &&& Int64.toUInt64 63)).toInt64) rfl d_Wt_writeHead_86 ?_
    refine G_topl (show (((zL v).toUInt64 >>> ((zI 0).toInt64.toUInt64 &&& Int64.toUInt64 63)).toInt64) = zL (v / 1) from zL_ushr 0 (by omega) (by decide)) ?_
    refine G_l2i hX (v := zI (v / 1)) (zL_i _) d_Wt_writeHead_87 ?_
    refine G_sipush hX (by decide) d_Wt_writeHead_88 ?_
    refine G_iand hX d_Wt_writeHead_91 ?_
    refine G_top (show (zI (v / 1) &&& zI 255) = zI ((v / 1) % 256) from zI_and255 _) ?_
    refine G_top (show zI ((v / 1) % 256) = zI (v % 256) from by rw [Int.ediv_one]) ?_
    refine F_callV hX (st := []) (c_Ro_push E f73 32 33 20 (uz (uz (uz (pz (pz (pz (uz (pz g 0 (nby sz) (wid sz)) (0 + wid sz) 0) ((0 + wid sz) + 1) (nby cd) (wid cd)) (((0 + wid sz) + 1) + wid cd) (nby cq) (wid cq)) ((((0 + wid sz) + 1) + wid cd) + wid cq) (nby ca) (wid ca)) (((((0 + wid sz) + 1) + wid cd) + wid cq) + wid ca) ((v / 16777216) % 256)) ((((((0 + wid sz) + 1) + wid cd) + wid cq) + wid ca) + 1) ((v / 65536) % 256)) (((((((0 + wid sz) + 1) + wid cd) + wid cq) + wid ca) + 1) + 1) ((v / 256) % 256)) ((((((((0 + wid sz) + 1) + wid cd) + wid cq) + wid ca) + 1) + 1) + 1) (v % 256) (by decide) (by decide) (by decide) ⟨h76, h77⟩ (by omega) (by omega)) cm_Ro_push im_Ro_push se_Ro_push rfl ml_Wt_50 d_Wt_writeHead_92 (by decide) h76 rfl rfl (Nat.le_of_ble_eq_true rfl) (by decide) ?_
    rintro _ f83 ⟨rfl, ⟨h86, h87⟩, k88⟩
    refine G_cast (st' := []) ?_ rfl rfl rfl rfl
    have rp89 := rep_uz (v := v % 256) rp79
    refine G_iinc_z hX (lv' := [(5, .int (zI (0 + (-8)))), (0, .ref (eA E 29)), (1, .int (zI sz)), (2, .int (zI ck)), (3, .long (zL v))]) 0 rfl (by decide) rfl d_Wt_writeHead_95 ?_
    refine G_goto hX (tgt := 74) d_Wt_writeHead_98 rfl ?_
    refine G_cast (lv' := [(5, .int (zI (-8))), (0, .ref (eA E 29)), (1, .int (zI sz)), (2, .int (zI ck)), (3, .long (zL v))]) ?_ rfl rfl rfl rfl
    refine G_iload hX 0 rfl d_Wt_writeHead_74 ?_
    refine G_if_lt_z hX (tgt := 101) d_Wt_writeHead_76 rfl (by omega) (fun c90 => ?_) (fun c91 => by exfalso; omega)
    have e1 : hdL sz ck v cd cq ca = [] ++ nbL sz ++ [0] ++ nbL cd ++ nbL cq ++ nbL ca ++ [(v / 16777216) % 256] ++ [(v / 65536) % 256] ++ [(v / 256) % 256] ++ [v % 256] := by unfold hdL; rw [if_neg (by omega)]; simp only [List.append_assoc, List.append_nil, List.nil_append, List.cons_append]
    exact F_vret hX hE d_Wt_writeHead_101 ⟨rfl, ⟨_, _, ⟨h86, h87⟩, by rw [e1]; exact rp89⟩, (Fr.tr (Fr.tr (Fr.tr (Fr.tr (Fr.tr (Fr.tr (Fr.tr (Fr.tr (Fr.tr (Fr.tr Fr.rf k3 (by decide)) k11 (by decide)) k19 (by decide)) k28 (by decide)) k37 (by decide)) k46 (by decide)) k58 (by decide)) k68 (by decide)) k78 (by decide)) k88 (by decide))⟩
