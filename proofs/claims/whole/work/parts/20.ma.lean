/-! Matcher.planWindow: printed by wip/tools/m_ma2.py -/
def appA (P : PS) (ad num : Int) : PS := if 0 < ad then plApp P 1 ad (-1) num else P
theorem plB_app {P : PS} {t n a w : Int} (h : plB P) (ht : 0 ≤ t ∧ t ≤ 3) (hn : 0 ≤ n ∧ n ≤ 300) (ha : -1 ≤ a ∧ a ≤ 700) (hw : 0 ≤ w ∧ w ≤ 300) : plB (plApp P t n a w) := by
  intro k
  have h7 := h k
  refine ⟨?_, ?_, ?_, ?_⟩
  · show 0 ≤ uz _ _ _ k ∧ uz _ _ _ k ≤ _; simp only [uz]; split <;> omega
  · show 0 ≤ uz _ _ _ k ∧ uz _ _ _ k ≤ _; simp only [uz]; split <;> omega
  · show -1 ≤ uz _ _ _ k ∧ uz _ _ _ k ≤ _; simp only [uz]; split <;> omega
  · show 0 ≤ uz _ _ _ k ∧ uz _ _ _ k ≤ _; simp only [uz]; split <;> omega
theorem appA_b {P : PS} {ad num : Int} (h : plB P) (ha : 0 ≤ ad ∧ ad ≤ 300) (hn : 0 ≤ num ∧ num ≤ 300) (hc : 0 ≤ pC P) : plB (appA P ad num) ∧ 0 ≤ pC (appA P ad num) ∧ pC P ≤ pC (appA P ad num) ∧ pC (appA P ad num) ≤ pC P + ad := by
  unfold appA
  split
  · refine ⟨plB_app h (by omega) (by omega) (by omega) hn, ?_, ?_, ?_⟩
    · show 0 ≤ pC P + 1; omega
    · show pC P ≤ pC P + 1; omega
    · show pC P + 1 ≤ _; omega
  · exact ⟨h, hc, by omega, by omega⟩
def pwL (h : Int → Int) (so en ch num : Int) : Nat → Int → Int → PS → PS
  | 0, _, ad, P => appA P ad num
  | k + 1, here, ad, P => if here < en then
      (if 4 ≤ rnF h here en ∧ (fmF h so en ch here).2 ≤ rnF h here en then pwL h so en ch num k (here + rnF h here en) 0 (plApp (appA P ad num) 2 (rnF h here en) (-1) num)
       else if 4 ≤ (fmF h so en ch here).2 then pwL h so en ch num k (here + (fmF h so en ch here).2) 0 (plApp (appA P (ad - sbF h (fmF h so en ch here).1 here ad) num) 3 (sbF h (fmF h so en ch here).1 here ad + (fmF h so en ch here).2) ((fmF h so en ch here).1 - sbF h (fmF h so en ch here).1 here ad) num)
       else pwL h so en ch num k (here + 1) (ad + 1) P)
    else appA P ad num
def pwF (h : Int → Int) (so en ch num : Int) (P : PS) : PS := pwL h so en ch num (en - so).toNat so 0 P
theorem pwL_end {h : Int → Int} {so en ch num here ad : Int} {k : Nat} {P : PS} (hh : en ≤ here) : pwL h so en ch num k here ad P = appA P ad num := by
  cases k with
  | zero => rfl
  | succ k => unfold pwL; rw [if_neg (by omega)]
theorem pwL_s {h : Int → Int} {so en ch num here ad : Int} {k : Nat} {P : PS} (hh : here < en) (hk : en - here ≤ k) : pwL h so en ch num k here ad P = (if 4 ≤ rnF h here en ∧ (fmF h so en ch here).2 ≤ rnF h here en then pwL h so en ch num (k - 1) (here + rnF h here en) 0 (plApp (appA P ad num) 2 (rnF h here en) (-1) num)
       else if 4 ≤ (fmF h so en ch here).2 then pwL h so en ch num (k - 1) (here + (fmF h so en ch here).2) 0 (plApp (appA P (ad - sbF h (fmF h so en ch here).1 here ad) num) 3 (sbF h (fmF h so en ch here).1 here ad + (fmF h so en ch here).2) ((fmF h so en ch here).1 - sbF h (fmF h so en ch here).1 here ad) num)
       else pwL h so en ch num (k - 1) (here + 1) (ad + 1) P) := by
  cases k with
  | zero => exfalso; have : ((0 : Nat) : Int) = 0 := rfl; omega
  | succ k =>
    show (if here < en then _ else _) = _
    rw [if_pos hh]; rfl
theorem sbF_m {h : Int → Int} {mA here add : Int} (h0 : 0 ≤ mA) : sbF h mA here add ≤ mA := by
  unfold sbF
  have key : ∀ (k : Nat) (r : Int), r ≤ mA → cnt (fun r => decide (r < add ∧ r < mA ∧ h (mA - r - 1) = h (here - r - 1))) k r ≤ mA := by
    intro k
    induction k with
    | zero => intro r hr; exact hr
    | succ k ih =>
      intro r hr
      simp only [cnt]
      split
      · rename_i h1
        have h2 := of_decide_eq_true h1
        exact ih (r + 1) (by omega)
      · exact hr
  exact key _ 0 h0
theorem c_Ma_appendAdd (E : EV) (f : Nat → va_E) (P : PS) (md w s : Int) (ad num : Int) (hP : isPl E f P md w s) (hc : 0 ≤ pC P ∧ (0 < ad → pC P < 300) ∧ -300 ≤ ad ∧ ad ≤ 300) : CF yn_Ma_appendAdd cd_Ma_appendAdd 3 none 1 E [.ref (eA E 22), .int (zI ad), .int (zI num)] f (fun r f' => r = none ∧ isPl E f' (appA P ad num) md w s ∧ Fr [22, 23, 24, 25, 26] f f') := by
  refine CF.of (by decide +kernel) (Nat.le_of_ble_eq_true rfl) fun X hX hE => ?_
  have hX : Ok E X "DeltaFerry$Matcher" "appendAdd" cd_Ma_appendAdd 3 none (rl 1) := hX
  refine G_cast (lv' := [(0, .ref (eA E 22)), (1, .int (zI ad)), (2, .int (zI num))]) ?_ rfl rfl rfl rfl
  refine G_iload_n hX 1 rfl rfl d_Ma_appendAdd_0 ?_
  refine G_if_le_z hX (tgt := 12) d_Ma_appendAdd_1 rfl (by omega) (fun c1 => ?_) (fun c2 => ?_)
  · skip
    have e1 : appA P ad num = P := by unfold appA; rw [if_neg (by omega)]
    rw [e1] at hE
    exact F_vret hX hE d_Ma_appendAdd_12 ⟨rfl, ⟨hP.1, hP.2.1, hP.2.2.1, hP.2.2.2.1, hP.2.2.2.2⟩, Fr.rf⟩
  · skip
    refine G_aload_n hX 0 rfl rfl d_Ma_appendAdd_4 ?_
    refine G_iconst hX d_Ma_appendAdd_5 ?_
    refine G_iload_n hX 1 rfl rfl d_Ma_appendAdd_6 ?_
    refine G_iconst hX d_Ma_appendAdd_7 ?_
    refine G_iload_n hX 2 rfl rfl d_Ma_appendAdd_8 ?_
    refine F_callV hX (st := []) (c_Pl_append E f P md w s 1 ad (-1) num ⟨hP.1, hP.2.1, hP.2.2.1, hP.2.2.2.1, hP.2.2.2.2⟩ (by omega)) cm_Pl_append im_Pl_append se_Pl_append rfl ml_Ma_58 d_Ma_appendAdd_9 (by decide) hP.1 rfl rfl (Nat.le_of_ble_eq_true rfl) (by decide) ?_
    rintro _ f3 ⟨rfl, ⟨h6, h7, h8, h9, h10⟩, k11⟩
    refine G_cast (st' := []) ?_ rfl rfl rfl rfl
    have e1 : appA P ad num = plApp P 1 ad (-1) num := by unfold appA; rw [if_pos (by omega)]
    rw [e1] at hE
    exact F_vret hX hE d_Ma_appendAdd_12 ⟨rfl, ⟨h6, h7, h8, h9, h10⟩, (Fr.tr Fr.rf k11 (by decide))⟩
theorem c_Ma_planWindow (E : EV) (f : Nat → va_E) (h : Int → Int) (so en ch mA mS : Int) (P : PS) (md w s : Int) (num y : Int) (hM : isMa E f h so en ch mA mS) (hB : isB h) (hso : 0 ≤ so ∧ so ≤ en ∧ en ≤ 556) (hch : 1 ≤ ch ∧ ch ≤ 16) (hP : isPl E f P md w s) (hPB : plB P) (hy : 0 ≤ pC P ∧ pC P ≤ y ∧ y + (en - so) ≤ 300 ∧ en - so ≤ 256) (hnum : 0 ≤ num ∧ num ≤ 300) : CF yn_Ma_planWindow cd_Ma_planWindow 7 none 2 E [.ref (eA E 27), .ref (eA E 22), .int (zI num)] f (fun r f' => r = none ∧ isPl E f' (pwF h so en ch num P) md w s ∧ plB (pwF h so en ch num P) ∧ (0 ≤ pC (pwF h so en ch num P) ∧ pC (pwF h so en ch num P) ≤ y + (en - so)) ∧ (∃ mA' mS', isMa E f' h so en ch mA' mS') ∧ Fr [22, 23, 24, 25, 26, 27] f f') := by
  refine CF.of (by decide +kernel) (Nat.le_of_ble_eq_true rfl) fun X hX hE => ?_
  have hX : Ok E X "DeltaFerry$Matcher" "planWindow" cd_Ma_planWindow 7 none (rl 2) := hX
  refine G_cast (lv' := [(0, .ref (eA E 27)), (1, .ref (eA E 22)), (2, .int (zI num))]) ?_ rfl rfl rfl rfl
  refine G_iconst hX d_Ma_planWindow_0 ?_
  refine G_istore_n hX (lv' := [(3, .int (zI 0)), (0, .ref (eA E 27)), (1, .ref (eA E 22)), (2, .int (zI num))]) rfl (by decide) rfl d_Ma_planWindow_1 ?_
  refine G_aload_n hX 1 rfl rfl d_Ma_planWindow_2 ?_
  refine F_get hX fg_Ma_24 d_Ma_planWindow_3 27 (by decide) hM.1 rfl ?_
  refine G_istore hX (lv' := [(4, .int (zI so)), (3, .int (zI 0)), (0, .ref (eA E 27)), (1, .ref (eA E 22)), (2, .int (zI num))]) (by decide) rfl d_Ma_planWindow_6 ?_
  have loop1 : ∀ (q : Nat) (here : Int) (ad : Int) (Q : PS) (kk : Nat) (a1 : Int) (s1 : Int) (f2 : Nat → va_E), (en - here).toNat < q → (so ≤ here ∧ here ≤ en) → (0 ≤ ad ∧ ad ≤ here - so) → (0 ≤ pC Q ∧ pC Q + ad ≤ y + (here - so)) → (plB Q) → (en - here ≤ kk) → (pwF h so en ch num P = pwL h so en ch num kk here ad Q) → f2 22 = ob 4 [.ref (eA E 23), .ref (eA E 24), .ref (eA E 25), .ref (eA E 26), .int (zI md), .int (zI (pC Q)), .int (zI w), .int (zI s)] → f2 23 = iz E 300 (pT Q) → f2 24 = iz E 300 (pS Q) → f2 25 = iz E 300 (pA Q) → f2 26 = iz E 300 (pN Q) → f2 27 = ob 3 [.ref (eA E 28), .int (zI so), .int (zI en), .int (zI ch), .int (zI a1), .int (zI s1)] → Fr [22, 23, 24, 25, 26, 27] f f2 → G E X 0 0 8 [(0, .ref (eA E 27)), (1, .ref (eA E 22)), (2, .int (zI num)), (3, .int (zI ad)), (4, .int (zI here))] [] (wl E f2) := by
    intro q
    induction q with
    | zero => intro here ad Q kk a1 s1 f2 hms4; exact absurd hms4 (Nat.not_lt_zero _)
    | succ q ih5 =>
      intro here ad Q kk a1 s1 f2 hms4 hhe had hQc hQB hkk hs h6 h7 h8 h9 h10 h11 k3
      refine G_iload hX 4 rfl d_Ma_planWindow_8 ?_
      refine G_aload_n hX 0 rfl rfl d_Ma_planWindow_10 ?_
      refine F_get hX fg_Ma_40 d_Ma_planWindow_11 27 (by decide) h11 rfl ?_
      refine G_icmp_ge_z hX (tgt := 146) d_Ma_planWindow_14 rfl (by omega) (fun c12 => ?_) (fun c13 => ?_)
      · skip
        have hap := appA_b (P := Q) (ad := ad) (num := num) hQB (by omega) hnum hQc.1
        refine G_aload_n hX 1 rfl rfl d_Ma_planWindow_146 ?_
        refine G_iload_n hX 3 rfl rfl d_Ma_planWindow_147 ?_
        refine G_iload_n hX 2 rfl rfl d_Ma_planWindow_148 ?_
        refine F_callS hX (st := []) (c_Ma_appendAdd E f2 Q md w s ad num ⟨h6, h7, h8, h9, h10⟩ (by omega)) cm_Ma_appendAdd sm_Ma_appendAdd ml_Ma_54 d_Ma_planWindow_149 rfl rfl (Nat.le_of_ble_eq_true rfl) (by decide) ?_
        rintro _ f14 ⟨rfl, ⟨h17, h18, h19, h20, h21⟩, k22⟩
        refine G_cast (st' := []) ?_ rfl rfl rfl rfl
        have e1 : pwF h so en ch num P = appA Q ad num := by rw [hs, pwL_end (by omega)]
        rw [e1] at hE
        have h23 : f14 27 = ob 3 [.ref (eA E 28), .int (zI so), .int (zI en), .int (zI ch), .int (zI a1), .int (zI s1)] := (k22 27 (by decide)).trans h11
        have h24 : f14 28 = iz E 556 h := (k22 28 (by decide)).trans ((k3 28 (by decide)).trans hM.2)
        exact F_vret hX hE d_Ma_planWindow_152 ⟨rfl, ⟨h17, h18, h19, h20, h21⟩, hap.1, ⟨hap.2.1, by omega⟩, ⟨_, _, ⟨h23, h24⟩⟩, (Fr.tr (Fr.tr Fr.rf k3 (by decide)) k22 (by decide))⟩
      · skip
        have hrn : 1 ≤ rnF h here en ∧ rnF h here en ≤ en - here := cnt_b (by omega)
        have hfm := fmF_b (h := h) (so := so) (en := en) (ch := ch) (here := here) (by omega) (by omega)
        refine G_aload_n hX 0 rfl rfl d_Ma_planWindow_17 ?_
        refine G_iload hX 4 rfl d_Ma_planWindow_18 ?_
        have h25 : f2 28 = iz E 556 h := (k3 28 (by decide)).trans hM.2
        refine F_callV hX (st := []) (c_Ma_runAt E f2 h so en ch a1 s1 here ⟨h11, h25⟩ hB (by omega) (by omega)) cm_Ma_runAt im_Ma_runAt se_Ma_runAt rfl ml_Ma_43 d_Ma_planWindow_20 (by decide) h11 rfl rfl (Nat.le_of_ble_eq_true rfl) (by decide) ?_
        rintro _ f26 ⟨rfl, e29⟩
        obtain rfl := e29.symm
        refine G_cast (st' := [.int (zI (rnF h here en))]) ?_ rfl rfl rfl rfl
        refine G_istore hX (lv' := [(5, .int (zI (rnF h here en))), (0, .ref (eA E 27)), (1, .ref (eA E 22)), (2, .int (zI num)), (3, .int (zI ad)), (4, .int (zI here))]) (by decide) rfl d_Ma_planWindow_23 ?_
        refine G_aload_n hX 1 rfl rfl d_Ma_planWindow_25 ?_
        refine G_iload hX 5 rfl d_Ma_planWindow_26 ?_
        refine F_callV hX (st := []) (c_Ma_findMatch E f2 h so en ch a1 s1 here ⟨h11, h25⟩ hB (by omega) (by omega) (by omega)) cm_Ma_findMatch im_Ma_findMatch se_Ma_findMatch rfl ml_Ma_47 d_Ma_planWindow_28 (by decide) h11 rfl rfl (Nat.le_of_ble_eq_true rfl) (by decide) ?_
        rintro _ f30 ⟨rfl, ⟨h33, h34⟩, k35⟩
        refine G_cast (st' := []) ?_ rfl rfl rfl rfl
        refine G_iload hX 0 rfl d_Ma_planWindow_31 ?_
        refine G_iconst hX d_Ma_planWindow_33 ?_
        refine G_icmp_lt_z hX (tgt := 75) d_Ma_planWindow_34 rfl (by omega) (fun c36 => ?_) (fun c37 => ?_)
        · skip
          refine G_aload_n hX 1 rfl rfl d_Ma_planWindow_75 ?_
          refine F_get hX fg_Ma_51 d_Ma_planWindow_76 27 (by decide) h33 rfl ?_
          refine G_iconst hX d_Ma_planWindow_79 ?_
          refine G_icmp_lt_z hX (tgt := 137) d_Ma_planWindow_80 rfl (by omega) (fun c38 => ?_) (fun c39 => ?_)
          · skip
            refine G_iinc_z hX (lv' := [(3, .int (zI (ad + 1))), (5, .int (zI (rnF h here en))), (0, .ref (eA E 27)), (1, .ref (eA E 22)), (2, .int (zI num)), (4, .int (zI here))]) 4 rfl (by decide) rfl d_Ma_planWindow_137 ?_
            refine G_iinc_z hX (lv' := [(4, .int (zI (here + 1))), (3, .int (zI (ad + 1))), (5, .int (zI (rnF h here en))), (0, .ref (eA E 27)), (1, .ref (eA E 22)), (2, .int (zI num))]) 5 rfl (by decide) rfl d_Ma_planWindow_140 ?_
            refine G_goto hX (tgt := 8) d_Ma_planWindow_143 rfl ?_
            have h40 : f30 22 = ob 4 [.ref (eA E 23), .ref (eA E 24), .ref (eA E 25), .ref (eA E 26), .int (zI md), .int (zI (pC Q)), .int (zI w), .int (zI s)] := (k35 22 (by decide)).trans h6
            have h41 : f30 23 = iz E 300 (pT Q) := (k35 23 (by decide)).trans h7
            have h42 : f30 24 = iz E 300 (pS Q) := (k35 24 (by decide)).trans h8
            have h43 : f30 25 = iz E 300 (pA Q) := (k35 25 (by decide)).trans h9
            have h44 : f30 26 = iz E 300 (pN Q) := (k35 26 (by decide)).trans h10
            refine G_loc (lv' := [(0, .ref (eA E 27)), (1, .ref (eA E 22)), (2, .int (zI num)), (3, .int (zI (ad + 1))), (4, .int (zI (here + 1)))]) [3, 4, 5, 1, 0] rfl ?_
            exact ih5 (here + 1) (ad + 1) Q (kk - 1) ((fmF h so en ch here).1) ((fmF h so en ch here).2) f30 (by omega) (by omega) (by omega) (by omega) hQB (by omega) (by rw [hs, pwL_s (by omega) hkk, if_neg (by omega), if_neg (by omega)]) h40 h41 h42 h43 h44 h33 (Fr.tr (Fr.tr Fr.rf k3 (by decide)) k35 (by decide))
          · skip
            refine G_aload_n hX 1 rfl rfl d_Ma_planWindow_83 ?_
            refine G_iload hX 5 rfl d_Ma_planWindow_84 ?_
            refine G_iload_n hX 4 rfl rfl d_Ma_planWindow_86 ?_
            refine F_callV hX (st := []) (c_Ma_sameBefore E f30 h so en ch ((fmF h so en ch here).1) ((fmF h so en ch here).2) here ad ⟨h33, h34⟩ hB (by omega) (by omega)) cm_Ma_sameBefore im_Ma_sameBefore se_Ma_sameBefore rfl ml_Ma_64 d_Ma_planWindow_87 (by decide) h33 rfl rfl (Nat.le_of_ble_eq_true rfl) (by decide) ?_
            rintro _ f45 ⟨rfl, e48⟩
            obtain rfl := e48.symm
            refine G_cast (st' := [.int (zI (sbF h ((fmF h so en ch here).1) here ad))]) ?_ rfl rfl rfl rfl
            have hsb : 0 ≤ sbF h (fmF h so en ch here).1 here ad ∧ sbF h (fmF h so en ch here).1 here ad ≤ ad := cnt_b (by omega)
            have hap := appA_b (P := Q) (ad := ad - sbF h (fmF h so en ch here).1 here ad) (num := num) hQB (by omega) hnum hQc.1
            have hsm2 : sbF h (fmF h so en ch here).1 here ad ≤ (fmF h so en ch here).1 := sbF_m (by omega)
            refine G_istore hX (lv' := [(6, .int (zI (sbF h ((fmF h so en ch here).1) here ad))), (5, .int (zI (rnF h here en))), (0, .ref (eA E 27)), (1, .ref (eA E 22)), (2, .int (zI num)), (3, .int (zI ad)), (4, .int (zI here))]) (by decide) rfl d_Ma_planWindow_90 ?_
            refine G_aload_n hX 3 rfl rfl d_Ma_planWindow_92 ?_
            refine G_iload_n hX 5 rfl rfl d_Ma_planWindow_93 ?_
            refine G_iload hX 0 rfl d_Ma_planWindow_94 ?_
            refine G_isub_z hX d_Ma_planWindow_96 ?_
            refine G_iload_n hX 4 rfl rfl d_Ma_planWindow_97 ?_
            have h49 : f30 22 = ob 4 [.ref (eA E 23), .ref (eA E 24), .ref (eA E 25), .ref (eA E 26), .int (zI md), .int (zI (pC Q)), .int (zI w), .int (zI s)] := (k35 22 (by decide)).trans h6
            have h50 : f30 23 = iz E 300 (pT Q) := (k35 23 (by decide)).trans h7
            have h51 : f30 24 = iz E 300 (pS Q) := (k35 24 (by decide)).trans h8
            have h52 : f30 25 = iz E 300 (pA Q) := (k35 25 (by decide)).trans h9
            have h53 : f30 26 = iz E 300 (pN Q) := (k35 26 (by decide)).trans h10
            refine F_callS hX (st := []) (c_Ma_appendAdd E f30 Q md w s (ad - (sbF h ((fmF h so en ch here).1) here ad)) num ⟨h49, h50, h51, h52, h53⟩ (by omega)) cm_Ma_appendAdd sm_Ma_appendAdd ml_Ma_54 d_Ma_planWindow_98 rfl rfl (Nat.le_of_ble_eq_true rfl) (by decide) ?_
            rintro _ f54 ⟨rfl, ⟨h57, h58, h59, h60, h61⟩, k62⟩
            refine G_cast (st' := []) ?_ rfl rfl rfl rfl
            refine G_aload_n hX 3 rfl rfl d_Ma_planWindow_101 ?_
            refine G_iconst hX d_Ma_planWindow_102 ?_
            refine G_iload hX 0 rfl d_Ma_planWindow_103 ?_
            refine G_aload_n hX 2 rfl rfl d_Ma_planWindow_105 ?_
            have h63 : f54 27 = ob 3 [.ref (eA E 28), .int (zI so), .int (zI en), .int (zI ch), .int (zI ((fmF h so en ch here).1)), .int (zI ((fmF h so en ch here).2))] := (k62 27 (by decide)).trans h33
            refine F_get hX fg_Ma_51 d_Ma_planWindow_106 27 (by decide) h63 rfl ?_
            refine G_iadd_z hX d_Ma_planWindow_109 ?_
            refine G_aload_n hX 2 rfl rfl d_Ma_planWindow_110 ?_
            refine F_get hX fg_Ma_67 d_Ma_planWindow_111 27 (by decide) h63 rfl ?_
            refine G_iload hX 0 rfl d_Ma_planWindow_114 ?_
            refine G_isub_z hX d_Ma_planWindow_116 ?_
            refine G_iload_n hX 4 rfl rfl d_Ma_planWindow_117 ?_
            refine F_callV hX (st := []) (c_Pl_append E f54 (appA Q (ad - (sbF h ((fmF h so en ch here).1) here ad)) num) md w s 3 ((sbF h ((fmF h so en ch here).1) here ad) + ((fmF h so en ch here).2)) (((fmF h so en ch here).1) - (sbF h ((fmF h so en ch here).1) here ad)) num ⟨h57, h58, h59, h60, h61⟩ (by omega)) cm_Pl_append im_Pl_append se_Pl_append rfl ml_Ma_58 d_Ma_planWindow_118 (by decide) h57 rfl rfl (Nat.le_of_ble_eq_true rfl) (by decide) ?_
            rintro _ f64 ⟨rfl, ⟨h67, h68, h69, h70, h71⟩, k72⟩
            refine G_cast (st' := []) ?_ rfl rfl rfl rfl
            refine G_iconst hX d_Ma_planWindow_121 ?_
            refine G_istore_n hX (lv' := [(3, .int (zI 0)), (6, .int (zI (sbF h ((fmF h so en ch here).1) here ad))), (5, .int (zI (rnF h here en))), (0, .ref (eA E 27)), (1, .ref (eA E 22)), (2, .int (zI num)), (4, .int (zI here))]) rfl (by decide) rfl d_Ma_planWindow_122 ?_
            refine G_iload hX 6 rfl d_Ma_planWindow_123 ?_
            refine G_aload_n hX 3 rfl rfl d_Ma_planWindow_125 ?_
            have h73 : f64 27 = ob 3 [.ref (eA E 28), .int (zI so), .int (zI en), .int (zI ch), .int (zI ((fmF h so en ch here).1)), .int (zI ((fmF h so en ch here).2))] := (k72 27 (by decide)).trans h63
            refine F_get hX fg_Ma_51 d_Ma_planWindow_126 27 (by decide) h73 rfl ?_
            refine G_iconst hX d_Ma_planWindow_129 ?_
            refine G_isub_z hX d_Ma_planWindow_130 ?_
            refine G_iadd_z hX d_Ma_planWindow_131 ?_
            refine G_istore hX (lv' := [(4, .int (zI (here + (((fmF h so en ch here).2) - 1)))), (3, .int (zI 0)), (6, .int (zI (sbF h ((fmF h so en ch here).1) here ad))), (5, .int (zI (rnF h here en))), (0, .ref (eA E 27)), (1, .ref (eA E 22)), (2, .int (zI num))]) (by decide) rfl d_Ma_planWindow_132 ?_
            refine G_goto hX (tgt := 140) d_Ma_planWindow_134 rfl ?_
            refine G_iinc_z hX (lv' := [(4, .int (zI ((here + (((fmF h so en ch here).2) - 1)) + 1))), (3, .int (zI 0)), (6, .int (zI (sbF h ((fmF h so en ch here).1) here ad))), (5, .int (zI (rnF h here en))), (0, .ref (eA E 27)), (1, .ref (eA E 22)), (2, .int (zI num))]) 0 rfl (by decide) rfl d_Ma_planWindow_140 ?_
            refine G_goto hX (tgt := 8) d_Ma_planWindow_143 rfl ?_
            refine G_loc (lv' := [(0, .ref (eA E 27)), (1, .ref (eA E 22)), (2, .int (zI num)), (3, .int (zI 0)), (4, .int (zI ((here + (((fmF h so en ch here).2) - 1)) + 1)))]) [4, 5, 6, 1, 0] rfl ?_
            refine G_cast (ih5 (here + (fmF h so en ch here).2) 0 (plApp (appA Q (ad - (sbF h ((fmF h so en ch here).1) here ad)) num) 3 ((sbF h ((fmF h so en ch here).1) here ad) + ((fmF h so en ch here).2)) (((fmF h so en ch here).1) - (sbF h ((fmF h so en ch here).1) here ad)) num) (kk - 1) ((fmF h so en ch here).1) ((fmF h so en ch here).2) f64 (by omega) (by omega) (by omega) (show 0 ≤ pC (appA Q (ad - sbF h (fmF h so en ch here).1 here ad) num) + 1 ∧ pC (appA Q (ad - sbF h (fmF h so en ch here).1 here ad) num) + 1 + 0 ≤ _ by omega) (plB_app hap.1 (by omega) (by omega) (by omega) hnum) (by omega) (by rw [hs, pwL_s (by omega) hkk, if_neg (by omega), if_pos (by omega)]) h67 h68 h69 h70 h71 h73 (Fr.tr (Fr.tr (Fr.tr (Fr.tr Fr.rf k3 (by decide)) k35 (by decide)) k62 (by decide)) k72 (by decide))) rfl (by rw [show here + ((fmF h so en ch here).2 - 1) + 1 = here + (fmF h so en ch here).2 by omega]) rfl rfl
        · skip
          refine G_iload hX 0 rfl d_Ma_planWindow_37 ?_
          refine G_aload_n hX 1 rfl rfl d_Ma_planWindow_39 ?_
          refine F_get hX fg_Ma_51 d_Ma_planWindow_40 27 (by decide) h33 rfl ?_
          refine G_icmp_lt_z hX (tgt := 75) d_Ma_planWindow_43 rfl (by omega) (fun c74 => ?_) (fun c75 => ?_)
          · skip
            refine G_aload_n hX 1 rfl rfl d_Ma_planWindow_75 ?_
            refine F_get hX fg_Ma_51 d_Ma_planWindow_76 27 (by decide) h33 rfl ?_
            refine G_iconst hX d_Ma_planWindow_79 ?_
            refine G_icmp_lt_z hX (tgt := 137) d_Ma_planWindow_80 rfl (by omega) (fun c76 => ?_) (fun c77 => ?_)
            · skip
              refine G_iinc_z hX (lv' := [(3, .int (zI (ad + 1))), (5, .int (zI (rnF h here en))), (0, .ref (eA E 27)), (1, .ref (eA E 22)), (2, .int (zI num)), (4, .int (zI here))]) 4 rfl (by decide) rfl d_Ma_planWindow_137 ?_
              refine G_iinc_z hX (lv' := [(4, .int (zI (here + 1))), (3, .int (zI (ad + 1))), (5, .int (zI (rnF h here en))), (0, .ref (eA E 27)), (1, .ref (eA E 22)), (2, .int (zI num))]) 5 rfl (by decide) rfl d_Ma_planWindow_140 ?_
              refine G_goto hX (tgt := 8) d_Ma_planWindow_143 rfl ?_
              have h78 : f30 22 = ob 4 [.ref (eA E 23), .ref (eA E 24), .ref (eA E 25), .ref (eA E 26), .int (zI md), .int (zI (pC Q)), .int (zI w), .int (zI s)] := (k35 22 (by decide)).trans h6
              have h79 : f30 23 = iz E 300 (pT Q) := (k35 23 (by decide)).trans h7
              have h80 : f30 24 = iz E 300 (pS Q) := (k35 24 (by decide)).trans h8
              have h81 : f30 25 = iz E 300 (pA Q) := (k35 25 (by decide)).trans h9
              have h82 : f30 26 = iz E 300 (pN Q) := (k35 26 (by decide)).trans h10
              refine G_loc (lv' := [(0, .ref (eA E 27)), (1, .ref (eA E 22)), (2, .int (zI num)), (3, .int (zI (ad + 1))), (4, .int (zI (here + 1)))]) [3, 4, 5, 1, 0] rfl ?_
              exact ih5 (here + 1) (ad + 1) Q (kk - 1) ((fmF h so en ch here).1) ((fmF h so en ch here).2) f30 (by omega) (by omega) (by omega) (by omega) hQB (by omega) (by rw [hs, pwL_s (by omega) hkk, if_neg (by omega), if_neg (by omega)]) h78 h79 h80 h81 h82 h33 (Fr.tr (Fr.tr Fr.rf k3 (by decide)) k35 (by decide))
            · skip
              refine G_aload_n hX 1 rfl rfl d_Ma_planWindow_83 ?_
              refine G_iload hX 5 rfl d_Ma_planWindow_84 ?_
              refine G_iload_n hX 4 rfl rfl d_Ma_planWindow_86 ?_
              refine F_callV hX (st := []) (c_Ma_sameBefore E f30 h so en ch ((fmF h so en ch here).1) ((fmF h so en ch here).2) here ad ⟨h33, h34⟩ hB (by omega) (by omega)) cm_Ma_sameBefore im_Ma_sameBefore se_Ma_sameBefore rfl ml_Ma_64 d_Ma_planWindow_87 (by decide) h33 rfl rfl (Nat.le_of_ble_eq_true rfl) (by decide) ?_
              rintro _ f83 ⟨rfl, e86⟩
              obtain rfl := e86.symm
              refine G_cast (st' := [.int (zI (sbF h ((fmF h so en ch here).1) here ad))]) ?_ rfl rfl rfl rfl
              have hsb : 0 ≤ sbF h (fmF h so en ch here).1 here ad ∧ sbF h (fmF h so en ch here).1 here ad ≤ ad := cnt_b (by omega)
              have hap := appA_b (P := Q) (ad := ad - sbF h (fmF h so en ch here).1 here ad) (num := num) hQB (by omega) hnum hQc.1
              have hsm2 : sbF h (fmF h so en ch here).1 here ad ≤ (fmF h so en ch here).1 := sbF_m (by omega)
              refine G_istore hX (lv' := [(6, .int (zI (sbF h ((fmF h so en ch here).1) here ad))), (5, .int (zI (rnF h here en))), (0, .ref (eA E 27)), (1, .ref (eA E 22)), (2, .int (zI num)), (3, .int (zI ad)), (4, .int (zI here))]) (by decide) rfl d_Ma_planWindow_90 ?_
              refine G_aload_n hX 3 rfl rfl d_Ma_planWindow_92 ?_
              refine G_iload_n hX 5 rfl rfl d_Ma_planWindow_93 ?_
              refine G_iload hX 0 rfl d_Ma_planWindow_94 ?_
              refine G_isub_z hX d_Ma_planWindow_96 ?_
              refine G_iload_n hX 4 rfl rfl d_Ma_planWindow_97 ?_
              have h87 : f30 22 = ob 4 [.ref (eA E 23), .ref (eA E 24), .ref (eA E 25), .ref (eA E 26), .int (zI md), .int (zI (pC Q)), .int (zI w), .int (zI s)] := (k35 22 (by decide)).trans h6
              have h88 : f30 23 = iz E 300 (pT Q) := (k35 23 (by decide)).trans h7
              have h89 : f30 24 = iz E 300 (pS Q) := (k35 24 (by decide)).trans h8
              have h90 : f30 25 = iz E 300 (pA Q) := (k35 25 (by decide)).trans h9
              have h91 : f30 26 = iz E 300 (pN Q) := (k35 26 (by decide)).trans h10
              refine F_callS hX (st := []) (c_Ma_appendAdd E f30 Q md w s (ad - (sbF h ((fmF h so en ch here).1) here ad)) num ⟨h87, h88, h89, h90, h91⟩ (by omega)) cm_Ma_appendAdd sm_Ma_appendAdd ml_Ma_54 d_Ma_planWindow_98 rfl rfl (Nat.le_of_ble_eq_true rfl) (by decide) ?_
              rintro _ f92 ⟨rfl, ⟨h95, h96, h97, h98, h99⟩, k100⟩
              refine G_cast (st' := []) ?_ rfl rfl rfl rfl
              refine G_aload_n hX 3 rfl rfl d_Ma_planWindow_101 ?_
              refine G_iconst hX d_Ma_planWindow_102 ?_
              refine G_iload hX 0 rfl d_Ma_planWindow_103 ?_
              refine G_aload_n hX 2 rfl rfl d_Ma_planWindow_105 ?_
              have h101 : f92 27 = ob 3 [.ref (eA E 28), .int (zI so), .int (zI en), .int (zI ch), .int (zI ((fmF h so en ch here).1)), .int (zI ((fmF h so en ch here).2))] := (k100 27 (by decide)).trans h33
              refine F_get hX fg_Ma_51 d_Ma_planWindow_106 27 (by decide) h101 rfl ?_
              refine G_iadd_z hX d_Ma_planWindow_109 ?_
              refine G_aload_n hX 2 rfl rfl d_Ma_planWindow_110 ?_
              refine F_get hX fg_Ma_67 d_Ma_planWindow_111 27 (by decide) h101 rfl ?_
              refine G_iload hX 0 rfl d_Ma_planWindow_114 ?_
              refine G_isub_z hX d_Ma_planWindow_116 ?_
              refine G_iload_n hX 4 rfl rfl d_Ma_planWindow_117 ?_
              refine F_callV hX (st := []) (c_Pl_append E f92 (appA Q (ad - (sbF h ((fmF h so en ch here).1) here ad)) num) md w s 3 ((sbF h ((fmF h so en ch here).1) here ad) + ((fmF h so en ch here).2)) (((fmF h so en ch here).1) - (sbF h ((fmF h so en ch here).1) here ad)) num ⟨h95, h96, h97, h98, h99⟩ (by omega)) cm_Pl_append im_Pl_append se_Pl_append rfl ml_Ma_58 d_Ma_planWindow_118 (by decide) h95 rfl rfl (Nat.le_of_ble_eq_true rfl) (by decide) ?_
              rintro _ f102 ⟨rfl, ⟨h105, h106, h107, h108, h109⟩, k110⟩
              refine G_cast (st' := []) ?_ rfl rfl rfl rfl
              refine G_iconst hX d_Ma_planWindow_121 ?_
              refine G_istore_n hX (lv' := [(3, .int (zI 0)), (6, .int (zI (sbF h ((fmF h so en ch here).1) here ad))), (5, .int (zI (rnF h here en))), (0, .ref (eA E 27)), (1, .ref (eA E 22)), (2, .int (zI num)), (4, .int (zI here))]) rfl (by decide) rfl d_Ma_planWindow_122 ?_
              refine G_iload hX 6 rfl d_Ma_planWindow_123 ?_
              refine G_aload_n hX 3 rfl rfl d_Ma_planWindow_125 ?_
              have h111 : f102 27 = ob 3 [.ref (eA E 28), .int (zI so), .int (zI en), .int (zI ch), .int (zI ((fmF h so en ch here).1)), .int (zI ((fmF h so en ch here).2))] := (k110 27 (by decide)).trans h101
              refine F_get hX fg_Ma_51 d_Ma_planWindow_126 27 (by decide) h111 rfl ?_
              refine G_iconst hX d_Ma_planWindow_129 ?_
              refine G_isub_z hX d_Ma_planWindow_130 ?_
              refine G_iadd_z hX d_Ma_planWindow_131 ?_
              refine G_istore hX (lv' := [(4, .int (zI (here + (((fmF h so en ch here).2) - 1)))), (3, .int (zI 0)), (6, .int (zI (sbF h ((fmF h so en ch here).1) here ad))), (5, .int (zI (rnF h here en))), (0, .ref (eA E 27)), (1, .ref (eA E 22)), (2, .int (zI num))]) (by decide) rfl d_Ma_planWindow_132 ?_
              refine G_goto hX (tgt := 140) d_Ma_planWindow_134 rfl ?_
              refine G_iinc_z hX (lv' := [(4, .int (zI ((here + (((fmF h so en ch here).2) - 1)) + 1))), (3, .int (zI 0)), (6, .int (zI (sbF h ((fmF h so en ch here).1) here ad))), (5, .int (zI (rnF h here en))), (0, .ref (eA E 27)), (1, .ref (eA E 22)), (2, .int (zI num))]) 0 rfl (by decide) rfl d_Ma_planWindow_140 ?_
              refine G_goto hX (tgt := 8) d_Ma_planWindow_143 rfl ?_
              refine G_loc (lv' := [(0, .ref (eA E 27)), (1, .ref (eA E 22)), (2, .int (zI num)), (3, .int (zI 0)), (4, .int (zI ((here + (((fmF h so en ch here).2) - 1)) + 1)))]) [4, 5, 6, 1, 0] rfl ?_
              refine G_cast (ih5 (here + (fmF h so en ch here).2) 0 (plApp (appA Q (ad - (sbF h ((fmF h so en ch here).1) here ad)) num) 3 ((sbF h ((fmF h so en ch here).1) here ad) + ((fmF h so en ch here).2)) (((fmF h so en ch here).1) - (sbF h ((fmF h so en ch here).1) here ad)) num) (kk - 1) ((fmF h so en ch here).1) ((fmF h so en ch here).2) f102 (by omega) (by omega) (by omega) (show 0 ≤ pC (appA Q (ad - sbF h (fmF h so en ch here).1 here ad) num) + 1 ∧ pC (appA Q (ad - sbF h (fmF h so en ch here).1 here ad) num) + 1 + 0 ≤ _ by omega) (plB_app hap.1 (by omega) (by omega) (by omega) hnum) (by omega) (by rw [hs, pwL_s (by omega) hkk, if_neg (by omega), if_pos (by omega)]) h105 h106 h107 h108 h109 h111 (Fr.tr (Fr.tr (Fr.tr (Fr.tr Fr.rf k3 (by decide)) k35 (by decide)) k100 (by decide)) k110 (by decide))) rfl (by rw [show here + ((fmF h so en ch here).2 - 1) + 1 = here + (fmF h so en ch here).2 by omega]) rfl rfl
          · skip
            have hap := appA_b (P := Q) (ad := ad) (num := num) hQB (by omega) hnum hQc.1
            refine G_aload_n hX 2 rfl rfl d_Ma_planWindow_46 ?_
            refine G_iload_n hX 4 rfl rfl d_Ma_planWindow_47 ?_
            refine G_iload_n hX 3 rfl rfl d_Ma_planWindow_48 ?_
            have h112 : f30 22 = ob 4 [.ref (eA E 23), .ref (eA E 24), .ref (eA E 25), .ref (eA E 26), .int (zI md), .int (zI (pC Q)), .int (zI w), .int (zI s)] := (k35 22 (by decide)).trans h6
            have h113 : f30 23 = iz E 300 (pT Q) := (k35 23 (by decide)).trans h7
            have h114 : f30 24 = iz E 300 (pS Q) := (k35 24 (by decide)).trans h8
            have h115 : f30 25 = iz E 300 (pA Q) := (k35 25 (by decide)).trans h9
            have h116 : f30 26 = iz E 300 (pN Q) := (k35 26 (by decide)).trans h10
            refine F_callS hX (st := []) (c_Ma_appendAdd E f30 Q md w s ad num ⟨h112, h113, h114, h115, h116⟩ (by omega)) cm_Ma_appendAdd sm_Ma_appendAdd ml_Ma_54 d_Ma_planWindow_49 rfl rfl (Nat.le_of_ble_eq_true rfl) (by decide) ?_
            rintro _ f117 ⟨rfl, ⟨h120, h121, h122, h123, h124⟩, k125⟩
            refine G_cast (st' := []) ?_ rfl rfl rfl rfl
            refine G_aload_n hX 2 rfl rfl d_Ma_planWindow_52 ?_
            refine G_iconst hX d_Ma_planWindow_53 ?_
            refine G_iload hX 0 rfl d_Ma_planWindow_54 ?_
            refine G_iconst hX d_Ma_planWindow_56 ?_
            refine G_iload_n hX 3 rfl rfl d_Ma_planWindow_57 ?_
            refine F_callV hX (st := []) (c_Pl_append E f117 (appA Q ad num) md w s 2 (rnF h here en) (-1) num ⟨h120, h121, h122, h123, h124⟩ (by omega)) cm_Pl_append im_Pl_append se_Pl_append rfl ml_Ma_58 d_Ma_planWindow_58 (by decide) h120 rfl rfl (Nat.le_of_ble_eq_true rfl) (by decide) ?_
            rintro _ f126 ⟨rfl, ⟨h129, h130, h131, h132, h133⟩, k134⟩
            refine G_cast (st' := []) ?_ rfl rfl rfl rfl
            refine G_iconst hX d_Ma_planWindow_61 ?_
            refine G_istore_n hX (lv' := [(3, .int (zI 0)), (5, .int (zI (rnF h here en))), (0, .ref (eA E 27)), (1, .ref (eA E 22)), (2, .int (zI num)), (4, .int (zI here))]) rfl (by decide) rfl d_Ma_planWindow_62 ?_
            refine G_iload hX 5 rfl d_Ma_planWindow_63 ?_
            refine G_iload hX 1 rfl d_Ma_planWindow_65 ?_
            refine G_iconst hX d_Ma_planWindow_67 ?_
            refine G_isub_z hX d_Ma_planWindow_68 ?_
            refine G_iadd_z hX d_Ma_planWindow_69 ?_
            refine G_istore hX (lv' := [(4, .int (zI (here + ((rnF h here en) - 1)))), (3, .int (zI 0)), (5, .int (zI (rnF h here en))), (0, .ref (eA E 27)), (1, .ref (eA E 22)), (2, .int (zI num))]) (by decide) rfl d_Ma_planWindow_70 ?_
            refine G_goto hX (tgt := 140) d_Ma_planWindow_72 rfl ?_
            refine G_iinc_z hX (lv' := [(4, .int (zI ((here + ((rnF h here en) - 1)) + 1))), (3, .int (zI 0)), (5, .int (zI (rnF h here en))), (0, .ref (eA E 27)), (1, .ref (eA E 22)), (2, .int (zI num))]) 0 rfl (by decide) rfl d_Ma_planWindow_140 ?_
            refine G_goto hX (tgt := 8) d_Ma_planWindow_143 rfl ?_
            have h135 : f126 27 = ob 3 [.ref (eA E 28), .int (zI so), .int (zI en), .int (zI ch), .int (zI ((fmF h so en ch here).1)), .int (zI ((fmF h so en ch here).2))] := (k134 27 (by decide)).trans ((k125 27 (by decide)).trans h33)
            refine G_loc (lv' := [(0, .ref (eA E 27)), (1, .ref (eA E 22)), (2, .int (zI num)), (3, .int (zI 0)), (4, .int (zI ((here + ((rnF h here en) - 1)) + 1)))]) [3, 4, 5, 1, 0] rfl ?_
            refine G_cast (ih5 (here + rnF h here en) 0 (plApp (appA Q ad num) 2 (rnF h here en) (-1) num) (kk - 1) ((fmF h so en ch here).1) ((fmF h so en ch here).2) f126 (by omega) (by omega) (by omega) (show 0 ≤ pC (appA Q ad num) + 1 ∧ pC (appA Q ad num) + 1 + 0 ≤ _ by omega) (plB_app hap.1 (by omega) (by omega) (by omega) hnum) (by omega) (by rw [hs, pwL_s (by omega) hkk, if_pos (by omega)]) h129 h130 h131 h132 h133 h135 (Fr.tr (Fr.tr (Fr.tr (Fr.tr Fr.rf k3 (by decide)) k35 (by decide)) k125 (by decide)) k134 (by decide))) rfl (by rw [show here + (rnF h here en - 1) + 1 = here + rnF h here en by omega]) rfl rfl
  refine G_loc (lv' := [(0, .ref (eA E 27)), (1, .ref (eA E 22)), (2, .int (zI num)), (3, .int (zI 0)), (4, .int (zI so))]) [2, 3, 4, 1, 0] rfl ?_
  exact loop1 (_ + 1) so 0 P ((en - so).toNat) mA mS f (Nat.lt_succ_self _) (by omega) (by omega) (by omega) hPB (by omega) rfl hP.1 hP.2.1 hP.2.2.1 hP.2.2.2.1 hP.2.2.2.2 hM.1 Fr.rf
