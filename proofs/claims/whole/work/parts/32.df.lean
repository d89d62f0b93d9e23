/-! DeltaFerry: sign, scan; printed by wip/tools/m_df3.py -/
/-- the plan of a scan: from byte p of NEW on -/
def scL (W F L : Nat → Int64) (g : Int → Int) (bl ct c w : Int) : Nat → Int → PS → PS
  | 0, _, P => P
  | k + 1, p, P => if p < c then
      (if 0 ≤ (if p + bl ≤ c then fdF W F L g bl ct p else -1) then scL W F L g bl ct c w k (p + bl) (ext P w 3 p bl ((if p + bl ≤ c then fdF W F L g bl ct p else -1) * bl)) else scL W F L g bl ct c w k (p + 1) (ext P w 1 p 1 (-1)))
    else P
theorem scL_end {W F L : Nat → Int64} {g : Int → Int} {bl ct c w p : Int} {k : Nat} {P : PS} (h : c ≤ p) : scL W F L g bl ct c w k p P = P := by
  cases k with
  | zero => rfl
  | succ k => unfold scL; rw [if_neg (by omega)]
theorem scL_s {W F L : Nat → Int64} {g : Int → Int} {bl ct c w p : Int} {k : Nat} {P : PS} (h : p < c) (hk : c - p ≤ k) : scL W F L g bl ct c w k p P = (if 0 ≤ (if p + bl ≤ c then fdF W F L g bl ct p else -1) then scL W F L g bl ct c w (k - 1) (p + bl) (ext P w 3 p bl ((if p + bl ≤ c then fdF W F L g bl ct p else -1) * bl)) else scL W F L g bl ct c w (k - 1) (p + 1) (ext P w 1 p 1 (-1))) := by
  cases k with
  | zero => exfalso; have : ((0 : Nat) : Int) = 0 := rfl; omega
  | succ k =>
    show (if p < c then _ else _) = _
    rw [if_pos h]; rfl
def scF (W F L : Nat → Int64) (g : Int → Int) (bl ct c w : Int) (P : PS) : PS := scL W F L g bl ct c w c.toNat 0 (pT P, pS P, pA P, pN P, 0)
theorem fd_b {W F L : Nat → Int64} {g : Int → Int} {bl ct c p : Int} (h : 0 ≤ ct) : -1 ≤ (if p + bl ≤ c then fdF W F L g bl ct p else -1) ∧ (if p + bl ≤ c then fdF W F L g bl ct p else -1) < ct ∧ (0 ≤ (if p + bl ≤ c then fdF W F L g bl ct p else -1) → p + bl ≤ c) := by
  have hb := fdL_b W F L (zL (wkV g p bl)) (dgA g p bl) (dgB g p bl) ct.toNat 0 (by omega)
  have e : fdL W F L (zL (wkV g p bl)) (dgA g p bl) (dgB g p bl) ct.toNat 0 = fdF W F L g bl ct p := rfl
  rw [e] at hb
  by_cases h1 : p + bl ≤ c
  · rw [if_pos h1]
    exact ⟨hb.1, by omega, fun _ => h1⟩
  · rw [if_neg h1]
    exact ⟨by omega, by omega, fun q => by omega⟩
theorem c_Df_sign (E : EV) (f : Nat → va_E) (bk wi ns : Int) (n1 n2 : Int64) (W F L : Nat → Int64) (md bl ct : Int) (s0 wd0 : Nat → Int32) (y0 y1 y2 y3 : Int32) (g : Int → Int) (c b : Int) (hF : isDf E f bk wi ns n1 n2) (hS : isSg E f W F L md bl ct) (hD : isD E f 15 16 17 s0 wd0) (hW : f 21 = ob 8 [.int y0, .int y1, .int y2, .int y3]) (hR : isR E f 2 3 300 g c) (hc : 0 ≤ c ∧ c ≤ 300) (hb : -2147483648 ≤ b ∧ b < 2147483648) : CF yn_Df_sign cd_Df_sign 2 (some (.int)) 4 E [.ref (eA E 0), .int (zI b)] f (fun r f' => (if 4 ≤ b ∧ b ≤ 64 then r = some (.int (zI (c / b))) ∧ (∃ W' F' L' s' wd' z0 z1 z2 z3, isSg E f' W' F' L' 1 b (c / b) ∧ sgOf g b (c / b) W' F' L' ∧ isD E f' 15 16 17 s' wd' ∧ f' 21 = ob 8 [.int z0, .int z1, .int z2, .int z3]) else r = some (.int (zI (-1))) ∧ f' = f) ∧ Fr [14, 16, 17, 18, 19, 20, 21] f f') := by
  refine CF.of (by decide +kernel) (Nat.le_of_ble_eq_true rfl) fun X hX hE => ?_
  have hX : Ok E X "DeltaFerry" "sign" cd_Df_sign 2 (some (.int)) (rl 4) := hX
  refine G_cast (lv' := [(0, .ref (eA E 0)), (1, .int (zI b))]) ?_ rfl rfl rfl rfl
  refine G_iload_n hX 1 rfl rfl d_Df_sign_0 ?_
  refine F_callS hX (st := []) (c_Df_isBlock E f b (by omega)) cm_Df_isBlock sm_Df_isBlock ml_Df_129 d_Df_sign_1 rfl rfl (Nat.le_of_ble_eq_true rfl) (by decide) ?_
  rintro _ f1 ⟨rfl, e4⟩
  obtain rfl := e4.symm
  refine G_cast (st' := [.int (zI (if 4 ≤ b ∧ b ≤ 64 then 1 else 0))]) ?_ rfl rfl rfl rfl
  by_cases hw5 : 4 ≤ b ∧ b ≤ 64
  · skip
    refine G_top (show zI (if 4 ≤ b ∧ b ≤ 64 then 1 else 0) = zI 1 from by rw [if_pos hw5]) ?_
    refine G_if_ne_z hX (tgt := 9) d_Df_sign_4 rfl (by omega) (fun c6 => ?_) (fun c7 => by exfalso; omega)
    refine G_aload_n hX 0 rfl rfl d_Df_sign_9 ?_
    refine F_get hX fg_Df_32 d_Df_sign_10 0 (by decide) hF.1 rfl ?_
    refine G_aload_n hX 0 rfl rfl d_Df_sign_13 ?_
    refine F_get hX fg_Df_9 d_Df_sign_14 0 (by decide) hF.1 rfl ?_
    refine G_iconst hX d_Df_sign_17 ?_
    refine F_aald hX d_Df_sign_18 1 (by decide) hF.2 (by decide) (a := eA E 2) rfl ?_
    refine G_iload_n hX 1 rfl rfl d_Df_sign_19 ?_
    refine F_callV hX (st := []) (c_Sg_make E f W F L md bl ct s0 wd0 y0 y1 y2 y3 g c b ⟨hS.1, hS.2.1, hS.2.2.1, hS.2.2.2⟩ ⟨hD.1, hD.2.1, hD.2.2⟩ hW ⟨hR.1, hR.2⟩ hc (by omega)) cm_Sg_make im_Sg_make se_Sg_make rfl ml_Df_132 d_Df_sign_20 (by decide) hS.1 rfl rfl (Nat.le_of_ble_eq_true rfl) (by decide) ?_
    rintro _ f8 ⟨rfl, ⟨W11, F12, L13, s14, wd15, z16, z17, z18, z19, ⟨h20, h21, h22, h23⟩, h24, ⟨h25, h26, h27⟩, h28⟩, k29⟩
    refine G_cast (st' := []) ?_ rfl rfl rfl rfl
    refine G_aload_n hX 0 rfl rfl d_Df_sign_23 ?_
    have h30 : f8 0 = ob 11 [.ref (eA E 1), .ref (eA E 10), .ref (eA E 13), .ref (eA E 14), .ref (eA E 22), .ref (eA E 27), .ref (eA E 29), .ref (eA E 44), .int (zI bk), .int (zI wi), .int (zI ns), .long n1, .long n2] := (k29 0 (by decide)).trans hF.1
    refine F_get hX fg_Df_32 d_Df_sign_24 0 (by decide) h30 rfl ?_
    refine F_get hX fg_Df_136 d_Df_sign_27 14 (by decide) h20 rfl ?_
    exact F_iret hX hE d_Df_sign_30 ⟨by rw [if_pos (by omega)]; exact ⟨rfl, _, _, _, _, _, _, _, _, _, ⟨h20, h21, h22, h23⟩, h24, ⟨h25, h26, h27⟩, h28⟩, (Fr.tr Fr.rf k29 (by decide))⟩
  · skip
    refine G_top (show zI (if 4 ≤ b ∧ b ≤ 64 then 1 else 0) = zI 0 from by rw [if_neg hw5]) ?_
    refine G_if_ne_z hX (tgt := 9) d_Df_sign_4 rfl (by omega) (fun c31 => by exfalso; omega) (fun c32 => ?_)
    refine G_iconst hX d_Df_sign_7 ?_
    exact F_iret hX hE d_Df_sign_8 ⟨by rw [if_neg (by omega)]; exact ⟨rfl, rfl⟩, Fr.rf⟩
theorem c_Df_scan (E : EV) (f : Nat → va_E) (bk wi ns : Int) (n1 n2 : Int64) (W F L : Nat → Int64) (md bl ct : Int) (s0 wd0 : Nat → Int32) (x0 x1 x2 x3 : Int32) (g : Int → Int) (c w : Int) (P : PS) (pm pw ps : Int) (hF : isDf E f bk wi ns n1 n2) (hS : isSg E f W F L md bl ct) (hD : isD E f 15 16 17 s0 wd0) (hV : f 13 = ob 8 [.int x0, .int x1, .int x2, .int x3]) (hR : isR E f 4 5 300 g c) (hc : 0 ≤ c ∧ c ≤ 300) (hP : isPl E f P pm pw ps) (hPB : plB P) (hw : 16 ≤ w ∧ w ≤ 256) (hmd : md = 1) (hbl : (4 ≤ bl ∧ bl ≤ 64) ∧ 0 ≤ ct ∧ ct ≤ 75 ∧ ct * bl ≤ 300) : CF yn_Df_scan cd_Df_scan 6 (some (.int)) 4 E [.ref (eA E 0), .int (zI w)] f (fun r f' => r = some (.int (zI (pC (scF W F L g bl ct c w P)))) ∧ isPl E f' (scF W F L g bl ct c w P) 1 w (ct * bl) ∧ plOK (scF W F L g bl ct c w P) c ∧ (∃ s' wd' z0 z1 z2 z3, isD E f' 15 16 17 s' wd' ∧ f' 13 = ob 8 [.int z0, .int z1, .int z2, .int z3]) ∧ Fr [13, 16, 17, 22, 23, 24, 25, 26] f f') := by
  refine CF.of (by decide +kernel) (Nat.le_of_ble_eq_true rfl) fun X hX hE => ?_
  have hX : Ok E X "DeltaFerry" "scan" cd_Df_scan 6 (some (.int)) (rl 4) := hX
  refine G_cast (lv' := [(0, .ref (eA E 0)), (1, .int (zI w))]) ?_ rfl rfl rfl rfl
  subst hmd
  skip
  refine G_aload_n hX 0 rfl rfl d_Df_scan_0 ?_
  refine F_get hX fg_Df_32 d_Df_scan_1 0 (by decide) hF.1 rfl ?_
  refine F_get hX fg_Df_137 d_Df_scan_4 14 (by decide) hS.1 rfl ?_
  refine G_if_eq_z hX (tgt := 17) d_Df_scan_7 rfl (by omega) (fun c1 => by exfalso; omega) (fun c2 => ?_)
  refine G_iload_n hX 1 rfl rfl d_Df_scan_10 ?_
  refine F_callS hX (st := []) (c_Df_isWindow E f w (by omega)) cm_Df_isWindow sm_Df_isWindow ml_Df_141 d_Df_scan_11 rfl rfl (Nat.le_of_ble_eq_true rfl) (by decide) ?_
  rintro _ f3 ⟨rfl, e6⟩
  obtain rfl := e6.symm
  refine G_cast (st' := [.int (zI (if 16 ≤ w ∧ w ≤ 256 then 1 else 0))]) ?_ rfl rfl rfl rfl
  refine G_top (show zI (if 16 ≤ w ∧ w ≤ 256 then 1 else 0) = zI 1 from by rw [if_pos (by omega)]) ?_
  refine G_if_ne_z hX (tgt := 19) d_Df_scan_14 rfl (by omega) (fun c7 => ?_) (fun c8 => by exfalso; omega)
  refine G_aload_n hX 0 rfl rfl d_Df_scan_19 ?_
  refine F_get hX fg_Df_9 d_Df_scan_20 0 (by decide) hF.1 rfl ?_
  refine G_iconst hX d_Df_scan_23 ?_
  refine F_aald hX d_Df_scan_24 1 (by decide) hF.2 (by decide) (a := eA E 4) rfl ?_
  refine G_astore_n hX (lv' := [(2, .ref (eA E 4)), (0, .ref (eA E 0)), (1, .int (zI w))]) rfl (by decide) rfl d_Df_scan_25 ?_
  refine G_aload_n hX 1 rfl rfl d_Df_scan_26 ?_
  refine F_get hX fg_Df_32 d_Df_scan_27 0 (by decide) hF.1 rfl ?_
  refine F_get hX fg_Df_144 d_Df_scan_30 14 (by decide) hS.1 rfl ?_
  refine G_istore_n hX (lv' := [(3, .int (zI bl)), (2, .ref (eA E 4)), (0, .ref (eA E 0)), (1, .int (zI w))]) rfl (by decide) rfl d_Df_scan_33 ?_
  refine G_aload_n hX 2 rfl rfl d_Df_scan_34 ?_
  refine F_get hX fg_Df_39 d_Df_scan_35 0 (by decide) hF.1 rfl ?_
  refine G_iload_n hX 3 rfl rfl d_Df_scan_38 ?_
  refine G_aload_n hX 2 rfl rfl d_Df_scan_39 ?_
  refine F_get hX fg_Df_32 d_Df_scan_40 0 (by decide) hF.1 rfl ?_
  refine F_callV hX (st := [.int (zI w), .ref (eA E 22)]) (c_Sg_reach E f W F L 1 bl ct ⟨hS.1, hS.2.1, hS.2.2.1, hS.2.2.2⟩) cm_Sg_reach im_Sg_reach se_Sg_reach rfl ml_Df_145 d_Df_scan_43 (by decide) hS.1 rfl rfl (Nat.le_of_ble_eq_true rfl) (by decide) ?_
  rintro _ f9 ⟨rfl, e12⟩
  obtain rfl := e12.symm
  refine G_cast (st' := [.int (zI (ct * bl)), .int (zI w), .ref (eA E 22)]) ?_ rfl rfl rfl rfl
  refine F_callV hX (st := []) (c_Pl_open E f P pm pw ps w (ct * bl) ⟨hP.1, hP.2.1, hP.2.2.1, hP.2.2.2.1, hP.2.2.2.2⟩) cm_Pl_open im_Pl_open se_Pl_open rfl ml_Df_148 d_Df_scan_46 (by decide) hP.1 rfl rfl (Nat.le_of_ble_eq_true rfl) (by decide) ?_
  rintro _ f13 ⟨rfl, ⟨h16, h17, h18, h19, h20⟩, k21⟩
  refine G_cast (st' := []) ?_ rfl rfl rfl rfl
  refine G_aload_n hX 2 rfl rfl d_Df_scan_49 ?_
  have h22 : f13 0 = ob 11 [.ref (eA E 1), .ref (eA E 10), .ref (eA E 13), .ref (eA E 14), .ref (eA E 22), .ref (eA E 27), .ref (eA E 29), .ref (eA E 44), .int (zI bk), .int (zI wi), .int (zI ns), .long n1, .long n2] := (k21 0 (by decide)).trans hF.1
  refine F_get hX fg_Df_25 d_Df_scan_50 0 (by decide) h22 rfl ?_
  have h23 : f13 13 = ob 8 [.int x0, .int x1, .int x2, .int x3] := (k21 13 (by decide)).trans hV
  refine F_callV hX (st := []) (c_Ws_forget E f13 13 x0 x1 x2 x3 (by decide) h23) cm_Ws_forget im_Ws_forget se_Ws_forget rfl ml_Df_152 d_Df_scan_53 (by decide) h23 rfl rfl (Nat.le_of_ble_eq_true rfl) (by decide) ?_
  rintro _ f24 ⟨rfl, h27, k28⟩
  rw [← zI_self x0, ← zI_self x2, ← zI_self x3] at h27
  refine G_cast (st' := []) ?_ rfl rfl rfl rfl
  refine G_iconst hX d_Df_scan_56 ?_
  refine G_istore hX (lv' := [(4, .int (zI 0)), (3, .int (zI bl)), (2, .ref (eA E 4)), (0, .ref (eA E 0)), (1, .int (zI w))]) (by decide) rfl d_Df_scan_57 ?_
  have loop29 : ∀ (q : Nat) (p : Int) (Q : PS) (kk : Nat) (s1 : Nat → Int32) (w1 : Nat → Int32) (a0 : Int) (n0 : Int) (pl : Int) (wt : Int) (f30 : Nat → va_E), (c - p).toNat < q → (0 ≤ p ∧ p ≤ c) → (plOK Q p) → (c - p ≤ kk) → (n0 = 0 ∨ (-10 ≤ a0 ∧ a0 ≤ 2000 ∧ 0 ≤ n0 ∧ n0 ≤ 2000)) → (n0 = 0 ∨ (0 ≤ a0 ∧ pl = sP g a0 n0.toNat ∧ wt = sW g a0 n0 n0.toNat)) → (scF W F L g bl ct c w P = scL W F L g bl ct c w kk p Q) → f30 22 = ob 4 [.ref (eA E 23), .ref (eA E 24), .ref (eA E 25), .ref (eA E 26), .int (zI 1), .int (zI (pC Q)), .int (zI w), .int (zI (ct * bl))] → f30 23 = iz E 300 (pT Q) → f30 24 = iz E 300 (pS Q) → f30 25 = iz E 300 (pA Q) → f30 26 = iz E 300 (pN Q) → f30 16 = ia E 4 s1 → f30 17 = ia E 16 w1 → f30 13 = ob 8 [.int (zI a0), .int (zI n0), .int (zI pl), .int (zI wt)] → Fr [13, 16, 17, 22, 23, 24, 25, 26] f24 f30 → G E X 0 0 59 [(0, .ref (eA E 0)), (2, .ref (eA E 4)), (3, .int (zI bl)), (4, .int (zI p))] [] (wl E f30) := by
    intro q
    induction q with
    | zero => intro p Q kk s1 w1 a0 n0 pl wt f30 hms32; exact absurd hms32 (Nat.not_lt_zero _)
    | succ q ih33 =>
      intro p Q kk s1 w1 a0 n0 pl wt f30 hms32 hp hQ hkk hr1 hv1 hs h34 h35 h36 h37 h38 h39 h40 h41 k31
      refine G_iload hX 3 rfl d_Df_scan_59 ?_
      refine G_aload_n hX 1 rfl rfl d_Df_scan_61 ?_
      have h42 : f30 4 = ob 6 [.ref (eA E 5), .int (zI c)] := (k31 4 (by decide)).trans ((k28 4 (by decide)).trans ((k21 4 (by decide)).trans hR.1))
      refine F_get hX fg_Df_101 d_Df_scan_62 4 (by decide) h42 rfl ?_
      refine G_icmp_ge_z hX (tgt := 133) d_Df_scan_65 rfl (by omega) (fun c43 => ?_) (fun c44 => ?_)
      · skip
        refine G_aload_n hX 0 rfl rfl d_Df_scan_133 ?_
        have h45 : f30 0 = ob 11 [.ref (eA E 1), .ref (eA E 10), .ref (eA E 13), .ref (eA E 14), .ref (eA E 22), .ref (eA E 27), .ref (eA E 29), .ref (eA E 44), .int (zI bk), .int (zI wi), .int (zI ns), .long n1, .long n2] := (k31 0 (by decide)).trans ((k28 0 (by decide)).trans h22)
        refine F_get hX fg_Df_39 d_Df_scan_134 0 (by decide) h45 rfl ?_
        refine F_get hX fg_Df_163 d_Df_scan_137 22 (by decide) h34 rfl ?_
        have e1 : scF W F L g bl ct c w P = Q := by rw [hs, scL_end (by omega)]
        have ep : p = c := by omega
        rw [ep] at hQ
        rw [e1] at hE
        have h46 : f30 15 = ob 2 [.ref (eA E 16), .ref (eA E 17)] := (k31 15 (by decide)).trans ((k28 15 (by decide)).trans ((k21 15 (by decide)).trans hD.1))
        exact F_iret hX hE d_Df_scan_140 ⟨rfl, ⟨h34, h35, h36, h37, h38⟩, hQ, ⟨_, _, _, _, _, _, ⟨h46, h39, h40⟩, h41⟩, (Fr.tr (Fr.tr (Fr.tr Fr.rf k21 (by decide)) k28 (by decide)) k31 (by decide))⟩
      · skip
        refine G_aload_n hX 0 rfl rfl d_Df_scan_68 ?_
        have h47 : f30 0 = ob 11 [.ref (eA E 1), .ref (eA E 10), .ref (eA E 13), .ref (eA E 14), .ref (eA E 22), .ref (eA E 27), .ref (eA E 29), .ref (eA E 44), .int (zI bk), .int (zI wi), .int (zI ns), .long n1, .long n2] := (k31 0 (by decide)).trans ((k28 0 (by decide)).trans h22)
        refine F_get hX fg_Df_32 d_Df_scan_69 0 (by decide) h47 rfl ?_
        refine G_aload_n hX 1 rfl rfl d_Df_scan_72 ?_
        refine G_iload hX 3 rfl d_Df_scan_73 ?_
        refine G_aload_n hX 0 rfl rfl d_Df_scan_75 ?_
        refine F_get hX fg_Df_25 d_Df_scan_76 0 (by decide) h47 rfl ?_
        have h48 : f30 14 = ob 7 [.ref (eA E 15), .ref (eA E 18), .ref (eA E 19), .ref (eA E 20), .ref (eA E 21), .int (zI 1), .int (zI bl), .int (zI ct)] := (k31 14 (by decide)).trans ((k28 14 (by decide)).trans ((k21 14 (by decide)).trans hS.1))
        have h49 : f30 15 = ob 2 [.ref (eA E 16), .ref (eA E 17)] := (k31 15 (by decide)).trans ((k28 15 (by decide)).trans ((k21 15 (by decide)).trans hD.1))
        have h50 : f30 18 = la E 75 W := (k31 18 (by decide)).trans ((k28 18 (by decide)).trans ((k21 18 (by decide)).trans hS.2.1))
        have h51 : f30 19 = la E 75 F := (k31 19 (by decide)).trans ((k28 19 (by decide)).trans ((k21 19 (by decide)).trans hS.2.2.1))
        have h52 : f30 20 = la E 75 L := (k31 20 (by decide)).trans ((k28 20 (by decide)).trans ((k21 20 (by decide)).trans hS.2.2.2))
        have h53 : f30 5 = iz E 300 g := (k31 5 (by decide)).trans ((k28 5 (by decide)).trans ((k21 5 (by decide)).trans hR.2))
        refine F_callV hX (st := []) (c_Sg_findAt E f30 W F L 1 bl ct s1 w1 a0 n0 pl wt g c p ⟨h48, h50, h51, h52⟩ ⟨h49, h39, h40⟩ h41 hr1 hv1 ⟨h42, h53⟩ (by omega) (by omega)) cm_Sg_findAt im_Sg_findAt se_Sg_findAt rfl ml_Df_155 d_Df_scan_79 (by decide) h48 rfl rfl (Nat.le_of_ble_eq_true rfl) (by decide) ?_
        rintro _ f54 ⟨rfl, ⟨s57, wd58, a59, n60, p61, q62, ⟨h63, h64, h65⟩, h66, h67, h68⟩, k69⟩
        refine G_cast (st' := [.int (zI (if p + bl ≤ c then fdF W F L g bl ct p else -1))]) ?_ rfl rfl rfl rfl
        refine G_namz (fun fd hfd => ?_)
        have hfb : -1 ≤ fd ∧ fd < ct ∧ (0 ≤ fd → p + bl ≤ c) := by rw [hfd]; exact fd_b hbl.2.1
        refine G_istore hX (lv' := [(5, .int (zI fd)), (0, .ref (eA E 0)), (2, .ref (eA E 4)), (3, .int (zI bl)), (4, .int (zI p))]) (by decide) rfl d_Df_scan_82 ?_
        refine G_iload hX 0 rfl d_Df_scan_84 ?_
        refine G_if_lt_z hX (tgt := 115) d_Df_scan_86 rfl (by omega) (fun c70 => ?_) (fun c71 => ?_)
        · skip
          refine G_aload_n hX 1 rfl rfl d_Df_scan_115 ?_
          have h72 : f54 0 = ob 11 [.ref (eA E 1), .ref (eA E 10), .ref (eA E 13), .ref (eA E 14), .ref (eA E 22), .ref (eA E 27), .ref (eA E 29), .ref (eA E 44), .int (zI bk), .int (zI wi), .int (zI ns), .long n1, .long n2] := (k69 0 (by decide)).trans h47
          refine F_get hX fg_Df_39 d_Df_scan_116 0 (by decide) h72 rfl ?_
          refine G_iconst hX d_Df_scan_119 ?_
          refine G_iload hX 4 rfl d_Df_scan_120 ?_
          refine G_iconst hX d_Df_scan_122 ?_
          refine G_iconst hX d_Df_scan_123 ?_
          have h73 : f54 22 = ob 4 [.ref (eA E 23), .ref (eA E 24), .ref (eA E 25), .ref (eA E 26), .int (zI 1), .int (zI (pC Q)), .int (zI w), .int (zI (ct * bl))] := (k69 22 (by decide)).trans h34
          have h74 : f54 23 = iz E 300 (pT Q) := (k69 23 (by decide)).trans h35
          have h75 : f54 24 = iz E 300 (pS Q) := (k69 24 (by decide)).trans h36
          have h76 : f54 25 = iz E 300 (pA Q) := (k69 25 (by decide)).trans h37
          have h77 : f54 26 = iz E 300 (pN Q) := (k69 26 (by decide)).trans h38
          refine F_callV hX (st := []) (c_Pl_extend E f54 Q 1 w (ct * bl) 1 p 1 (-1) ⟨h73, h74, h75, h76, h77⟩ (by omega) hw hQ (by omega) ⟨by omega, by omega, fun _ => by omega⟩) cm_Pl_extend im_Pl_extend se_Pl_extend rfl ml_Df_159 d_Df_scan_124 (by decide) h73 rfl rfl (Nat.le_of_ble_eq_true rfl) (by decide) ?_
          rintro _ f78 ⟨rfl, ⟨h81, h82, h83, h84, h85⟩, ho86, k87⟩
          refine G_cast (st' := []) ?_ rfl rfl rfl rfl
          refine G_iinc_z hX (lv' := [(4, .int (zI (p + 1))), (5, .int (zI fd)), (0, .ref (eA E 0)), (2, .ref (eA E 4)), (3, .int (zI bl))]) 4 rfl (by decide) rfl d_Df_scan_127 ?_
          refine G_goto hX (tgt := 59) d_Df_scan_130 rfl ?_
          have h88 : f78 13 = ob 8 [.int (zI a59), .int (zI n60), .int (zI p61), .int (zI q62)] := (k87 13 (by decide)).trans h66
          have h89 : f78 16 = ia E 4 s57 := (k87 16 (by decide)).trans h64
          have h90 : f78 17 = ia E 16 wd58 := (k87 17 (by decide)).trans h65
          refine G_loc (lv' := [(0, .ref (eA E 0)), (2, .ref (eA E 4)), (3, .int (zI bl)), (4, .int (zI (p + 1)))]) [2, 3, 4, 0] rfl ?_
          exact ih33 (p + 1) (ext Q w 1 p 1 (-1)) (kk - 1) s57 wd58 a59 n60 p61 q62 f78 (by omega) (by omega) ho86 (by omega) h67 h68 (by rw [hs, scL_s (by omega) hkk, ← hfd, if_neg (by omega)]) h81 h82 h83 h84 h85 h89 h90 h88 (Fr.tr (Fr.tr (Fr.tr Fr.rf k31 (by decide)) k69 (by decide)) k87 (by decide))
        · skip
          have hfm : fd * bl + bl ≤ ct * bl := by have := Int.mul_le_mul_of_nonneg_right (show fd + 1 ≤ ct by omega) (show 0 ≤ bl by omega); rw [Int.add_mul, Int.one_mul] at this; exact this
          have hf0 : 0 ≤ fd * bl := Int.mul_nonneg (by omega) (by omega)
          refine G_aload_n hX 1 rfl rfl d_Df_scan_89 ?_
          have h91 : f54 0 = ob 11 [.ref (eA E 1), .ref (eA E 10), .ref (eA E 13), .ref (eA E 14), .ref (eA E 22), .ref (eA E 27), .ref (eA E 29), .ref (eA E 44), .int (zI bk), .int (zI wi), .int (zI ns), .long n1, .long n2] := (k69 0 (by decide)).trans h47
          refine F_get hX fg_Df_39 d_Df_scan_90 0 (by decide) h91 rfl ?_
          refine G_iconst hX d_Df_scan_93 ?_
          refine G_iload hX 4 rfl d_Df_scan_94 ?_
          refine G_iload_n hX 3 rfl rfl d_Df_scan_96 ?_
          refine G_iload hX 0 rfl d_Df_scan_97 ?_
          refine G_iload_n hX 3 rfl rfl d_Df_scan_99 ?_
          refine G_imul_z hX d_Df_scan_100 ?_
          have h92 : f54 22 = ob 4 [.ref (eA E 23), .ref (eA E 24), .ref (eA E 25), .ref (eA E 26), .int (zI 1), .int (zI (pC Q)), .int (zI w), .int (zI (ct * bl))] := (k69 22 (by decide)).trans h34
          have h93 : f54 23 = iz E 300 (pT Q) := (k69 23 (by decide)).trans h35
          have h94 : f54 24 = iz E 300 (pS Q) := (k69 24 (by decide)).trans h36
          have h95 : f54 25 = iz E 300 (pA Q) := (k69 25 (by decide)).trans h37
          have h96 : f54 26 = iz E 300 (pN Q) := (k69 26 (by decide)).trans h38
          refine F_callV hX (st := []) (c_Pl_extend E f54 Q 1 w (ct * bl) 3 p bl (fd * bl) ⟨h92, h93, h94, h95, h96⟩ (by omega) hw hQ (by omega) ⟨by omega, by omega, fun _ => by omega⟩) cm_Pl_extend im_Pl_extend se_Pl_extend rfl ml_Df_159 d_Df_scan_101 (by decide) h92 rfl rfl (Nat.le_of_ble_eq_true rfl) (by decide) ?_
          rintro _ f97 ⟨rfl, ⟨h100, h101, h102, h103, h104⟩, ho105, k106⟩
          refine G_cast (st' := []) ?_ rfl rfl rfl rfl
          refine G_iload hX 4 rfl d_Df_scan_104 ?_
          refine G_iload_n hX 3 rfl rfl d_Df_scan_106 ?_
          refine G_iconst hX d_Df_scan_107 ?_
          refine G_isub_z hX d_Df_scan_108 ?_
          refine G_iadd_z hX d_Df_scan_109 ?_
          refine G_istore hX (lv' := [(4, .int (zI (p + (bl - 1)))), (5, .int (zI fd)), (0, .ref (eA E 0)), (2, .ref (eA E 4)), (3, .int (zI bl))]) (by decide) rfl d_Df_scan_110 ?_
          refine G_goto hX (tgt := 127) d_Df_scan_112 rfl ?_
          refine G_iinc_z hX (lv' := [(4, .int (zI ((p + (bl - 1)) + 1))), (5, .int (zI fd)), (0, .ref (eA E 0)), (2, .ref (eA E 4)), (3, .int (zI bl))]) 0 rfl (by decide) rfl d_Df_scan_127 ?_
          refine G_goto hX (tgt := 59) d_Df_scan_130 rfl ?_
          have h107 : f97 13 = ob 8 [.int (zI a59), .int (zI n60), .int (zI p61), .int (zI q62)] := (k106 13 (by decide)).trans h66
          have h108 : f97 16 = ia E 4 s57 := (k106 16 (by decide)).trans h64
          have h109 : f97 17 = ia E 16 wd58 := (k106 17 (by decide)).trans h65
          refine G_loc (lv' := [(0, .ref (eA E 0)), (2, .ref (eA E 4)), (3, .int (zI bl)), (4, .int (zI ((p + (bl - 1)) + 1)))]) [2, 3, 4, 0] rfl ?_
          refine G_cast (ih33 (p + bl) (ext Q w 3 p bl (fd * bl)) (kk - 1) s57 wd58 a59 n60 p61 q62 f97 (by omega) (by omega) ho105 (by omega) h67 h68 (by rw [hs, scL_s (by omega) hkk, ← hfd, if_pos (by omega)]) h100 h101 h102 h103 h104 h108 h109 h107 (Fr.tr (Fr.tr (Fr.tr Fr.rf k31 (by decide)) k69 (by decide)) k106 (by decide))) rfl (by rw [show p + (bl - 1) + 1 = p + bl by omega]) rfl rfl
  have h110 : f24 22 = ob 4 [.ref (eA E 23), .ref (eA E 24), .ref (eA E 25), .ref (eA E 26), .int (zI 1), .int (zI (pC (pT P, pS P, pA P, pN P, 0))), .int (zI w), .int (zI (ct * bl))] := (k28 22 (by decide)).trans h16
  have h111 : f24 23 = iz E 300 (pT (pT P, pS P, pA P, pN P, 0)) := (k28 23 (by decide)).trans h17
  have h112 : f24 24 = iz E 300 (pS (pT P, pS P, pA P, pN P, 0)) := (k28 24 (by decide)).trans h18
  have h113 : f24 25 = iz E 300 (pA (pT P, pS P, pA P, pN P, 0)) := (k28 25 (by decide)).trans h19
  have h114 : f24 26 = iz E 300 (pN (pT P, pS P, pA P, pN P, 0)) := (k28 26 (by decide)).trans h20
  have h115 : f24 16 = ia E 4 s0 := (k28 16 (by decide)).trans ((k21 16 (by decide)).trans hD.2.1)
  have h116 : f24 17 = ia E 16 wd0 := (k28 17 (by decide)).trans ((k21 17 (by decide)).trans hD.2.2)
  refine G_loc (lv' := [(0, .ref (eA E 0)), (2, .ref (eA E 4)), (3, .int (zI bl)), (4, .int (zI 0))]) [3, 2, 1, 0] rfl ?_
  exact loop29 (_ + 1) 0 (pT P, pS P, pA P, pN P, 0) c.toNat s0 wd0 x0.toInt 0 x2.toInt x3.toInt f24 (Nat.lt_succ_self _) (by omega) ⟨Int.le_refl 0, Int.le_refl 0, fun q => absurd q (Int.lt_irrefl 0), hPB⟩ (by omega) (Or.inl rfl) (Or.inl rfl) rfl h110 h111 h112 h113 h114 h115 h116 h27 Fr.rf
