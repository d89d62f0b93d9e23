/-! DeltaFerry: differ, and calls that are refused; printed by wip/tools/m_df5.py -/
theorem cnt_c {p q : Int → Bool} {B : Int} : ∀ (k : Nat) (r : Int), B - r = k → (∀ x, r ≤ x → x < B → p x = q x) → cntF p B r = cntF q B r := by
  intro k
  induction k with
  | zero => intro r hr _; rw [cnt_stop (Or.inr (by omega)), cnt_stop (Or.inr (by omega))]
  | succ k ih =>
    intro r hr h
    have h1 := h r (Int.le_refl r) (by omega)
    by_cases hp : p r = true
    · have hq : q r = true := by rw [← h1]; exact hp
      exact (cnt_go (by omega) hp).trans ((ih (r + 1) (by omega) (fun x a b => h x (by omega) b)).trans (cnt_go (by omega) hq).symm)
    · have hf : p r = false := by cases h : p r <;> simp_all
      rw [cnt_stop (Or.inl hf), cnt_stop (Or.inl (by rw [← h1]; exact hf))]
theorem cntF_c {p q : Int → Bool} {B r : Int} (h : ∀ x, r ≤ x → x < B → p x = q x) : cntF p B r = cntF q B r := by
  by_cases hb : r ≤ B
  · exact cnt_c (B - r).toNat r (by omega) h
  · rw [cnt_stop (Or.inr (by omega)), cnt_stop (Or.inr (by omega))]
section CG
variable {h h' : Int → Int} {so en : Int}
theorem rnF_c (hh : ∀ a, 0 ≤ a → a < en → h a = h' a) {here : Int} (h0 : 0 ≤ here) (h1 : here < en) : rnF h here en = rnF h' here en := by
  unfold rnF
  refine cntF_c fun x a b => ?_
  rw [hh here h0 h1, hh (here + x) (by omega) (by omega)]
theorem smF_c (hh : ∀ a, 0 ≤ a → a < en → h a = h' a) {ad here : Int} (h0 : 0 ≤ ad) (h1 : ad ≤ here) : smF h ad here en = smF h' ad here en := by
  unfold smF
  refine cntF_c fun x a b => ?_
  rw [hh (ad + x) (by omega) (by omega), hh (here + x) (by omega) (by omega)]
theorem sbF_c (hh : ∀ a, 0 ≤ a → a < en → h a = h' a) {mA here add : Int} (h1 : mA ≤ here) (h2 : here ≤ en) (h3 : add ≤ here) : sbF h mA here add = sbF h' mA here add := by
  unfold sbF
  refine cntF_c fun x a b => ?_
  by_cases hx : x < mA
  · rw [hh (mA - x - 1) (by omega) (by omega), hh (here - x - 1) (by omega) (by omega)]
  · rw [decide_eq_false (fun q => hx q.2.1), decide_eq_false (fun q => hx q.2.1)]
theorem cnP_c (hh : ∀ a, 0 ≤ a → a < en → h a = h' a) {ad here : Int} (h0 : 0 ≤ ad) (h1 : ad < here) (h2 : here + 4 ≤ en) : cnP h so ad here ↔ cnP h' so ad here := by
  unfold cnP
  rw [hh ad (by omega) (by omega), hh here (by omega) (by omega), hh (ad + 1) (by omega) (by omega), hh (here + 1) (by omega) (by omega), hh (ad + 2) (by omega) (by omega), hh (here + 2) (by omega) (by omega), hh (ad + 3) (by omega) (by omega), hh (here + 3) (by omega) (by omega)]
theorem fmL_c (hh : ∀ a, 0 ≤ a → a < en → h a = h' a) {ch here : Int} (h2 : here + 4 ≤ en) : ∀ (k : Nat) (ad sn mA mS : Int), ad < here → fmL h so en ch here k ad sn mA mS = fmL h' so en ch here k ad sn mA mS := by
  intro k
  induction k with
  | zero => intros; rfl
  | succ k ih =>
    intro ad sn mA mS h1
    simp only [fmL]
    by_cases hc : 0 ≤ ad ∧ sn < ch
    · rw [if_pos hc, if_pos hc, smF_c hh hc.1 (by omega)]
      have e := cnP_c (so := so) hh hc.1 h1 h2
      by_cases hp : cnP h so ad here
      · rw [if_pos hp, if_pos (e.mp hp), ih _ _ _ _ (by omega), ih _ _ _ _ (by omega)]
      · rw [if_neg hp, if_neg (fun q => hp (e.mpr q)), ih _ _ _ _ (by omega)]
    · rw [if_neg hc, if_neg hc]
theorem fmF_c (hh : ∀ a, 0 ≤ a → a < en → h a = h' a) {ch here : Int} : fmF h so en ch here = fmF h' so en ch here := by
  unfold fmF
  by_cases hc : en < here + 4
  · rw [if_pos hc, if_pos hc]
  · rw [if_neg hc, if_neg hc, fmL_c hh (by omega) _ _ _ _ _ (by omega)]
theorem pwL_c (hh : ∀ a, 0 ≤ a → a < en → h a = h' a) (hs : 0 ≤ so) {ch num : Int} : ∀ (k : Nat) (here ad : Int) (P : PS), so ≤ here → 0 ≤ ad → ad ≤ here - so → pwL h so en ch num k here ad P = pwL h' so en ch num k here ad P := by
  intro k
  induction k with
  | zero => intros; rfl
  | succ k ih =>
    intro here ad P h1 h2 h3
    simp only [pwL]
    by_cases hc : here < en
    · have hf := fmF_b (h := h') (so := so) (en := en) (ch := ch) (here := here) (by omega) (by omega)
      have hr : 1 ≤ rnF h' here en := (cnt_b (by omega)).1
      rw [if_pos hc, if_pos hc, rnF_c hh (by omega) hc, fmF_c hh, sbF_c hh (by omega) (by omega) (by omega)]
      by_cases c1 : 4 ≤ rnF h' here en ∧ (fmF h' so en ch here).2 ≤ rnF h' here en
      · rw [if_pos c1, if_pos c1, ih _ _ _ (by omega) (by omega) (by omega)]
      · rw [if_neg c1, if_neg c1]
        by_cases c2 : 4 ≤ (fmF h' so en ch here).2
        · rw [if_pos c2, if_pos c2, ih _ _ _ (by omega) (by omega) (by omega)]
        · rw [if_neg c2, if_neg c2, ih _ _ _ (by omega) (by omega) (by omega)]
    · rw [if_neg hc, if_neg hc]
theorem pwF_c (hh : ∀ a, 0 ≤ a → a < en → h a = h' a) (hs : 0 ≤ so) {ch num : Int} {P : PS} : pwF h so en ch num P = pwF h' so en ch num P := pwL_c hh hs _ _ _ _ (Int.le_refl so) (Int.le_refl 0) (by omega)
end CG
/-- OLD, and behind it NEW from x on -/
def hcF (g0 g : Int → Int) (so x : Int) : Int → Int := fun a => if a < so then g0 a else g (x + (a - so))
def dfL (g0 g : Int → Int) (so c ch w : Int) : Nat → Int → PS → PS
  | 0, _, P => P
  | k + 1, num, P => if num * w < c then dfL g0 g so c ch w k (num + 1) (pwF (hcF g0 g so (num * w)) so (so + (if w ≤ c - num * w then w else c - num * w)) ch num P) else P
def dfF (g0 g : Int → Int) (so c ch w : Int) (P : PS) : PS := dfL g0 g so c ch w c.toNat 0 (pT P, pS P, pA P, pN P, 0)
theorem dfL_e {g0 g : Int → Int} {so c ch w num : Int} {k : Nat} {P : PS} (h : c ≤ num * w) : dfL g0 g so c ch w k num P = P := by
  cases k with
  | zero => rfl
  | succ k => unfold dfL; rw [if_neg (by omega)]
theorem dfL_s {g0 g : Int → Int} {so c ch w num : Int} {k : Nat} {P : PS} (h : num * w < c) (hk : c - num * w ≤ k) : dfL g0 g so c ch w k num P = dfL g0 g so c ch w (k - 1) (num + 1) (pwF (hcF g0 g so (num * w)) so (so + (if w ≤ c - num * w then w else c - num * w)) ch num P) := by
  cases k with
  | zero => exfalso; have : ((0 : Nat) : Int) = 0 := rfl; omega
  | succ k =>
    show (if num * w < c then _ else _) = _
    rw [if_pos h]; rfl
theorem cz_hc {g0 g h1 : Int → Int} {c0 x n : Int} (hh : ∀ a, 0 ≤ a → a < c0 → h1 a = g0 a) : ∀ a, 0 ≤ a → a < c0 + n → cz g h1 x c0 n a = hcF g0 g c0 x a := by
  intro a q1 q2
  unfold cz hcF
  by_cases h9 : a < c0
  · rw [if_neg (by omega), if_pos h9]; exact hh a q1 h9
  · rw [if_pos (by omega), if_neg h9]
theorem cz_lo {g0 g h1 : Int → Int} {c0 x n : Int} (hh : ∀ a, 0 ≤ a → a < c0 → h1 a = g0 a) : ∀ a, 0 ≤ a → a < c0 → cz g h1 x c0 n a = g0 a := by
  intro a q1 q2
  unfold cz
  rw [if_neg (by omega)]; exact hh a q1 q2
theorem c_Df_differ (E : EV) (f : Nat → va_E) (bk wi ns : Int) (n1 n2 : Int64) (P : PS) (pm pw ps : Int) (h : Int → Int) (so en ch mA mS : Int) (g0 g : Int → Int) (c0 c ch1 w : Int) (hF : isDf E f bk wi ns n1 n2) (hP : isPl E f P pm pw ps) (hPB : plB P) (hM : isMa E f h so en ch mA mS) (hhB : isB h) (hO : isR E f 2 3 300 g0 c0) (hB0 : isB g0) (hR : isR E f 4 5 300 g c) (hBg : isB g) (hc : 0 ≤ c ∧ c ≤ 300 ∧ 0 ≤ c0 ∧ c0 ≤ 300) (hch : 1 ≤ ch1 ∧ ch1 ≤ 16) (hw : 16 ≤ w ∧ w ≤ 256) : CF yn_Df_differ cd_Df_differ 4 (some (.int)) 3 E [.ref (eA E 0), .int (zI ch1), .int (zI w)] f (fun r f' => r = some (.int (zI (pC (dfF g0 g c0 c ch1 w P)))) ∧ isPl E f' (dfF g0 g c0 c ch1 w P) 1 w c0 ∧ plB (dfF g0 g c0 c ch1 w P) ∧ (0 ≤ pC (dfF g0 g c0 c ch1 w P) ∧ pC (dfF g0 g c0 c ch1 w P) ≤ 300) ∧ (∃ h' so' en' ch' mA' mS', isMa E f' h' so' en' ch' mA' mS' ∧ isB h') ∧ Fr [22, 23, 24, 25, 26, 27, 28] f f') := by
  refine CF.of (by decide +kernel) (Nat.le_of_ble_eq_true rfl) fun X hX hE => ?_
  have hX : Ok E X "DeltaFerry" "differ" cd_Df_differ 4 (some (.int)) (rl 3) := hX
  refine G_cast (lv' := [(0, .ref (eA E 0)), (1, .int (zI ch1)), (2, .int (zI w))]) ?_ rfl rfl rfl rfl
  refine G_iload_n hX 1 rfl rfl d_Df_differ_0 ?_
  refine G_iconst hX d_Df_differ_1 ?_
  refine G_icmp_lt_z hX (tgt := 18) d_Df_differ_2 rfl (by omega) (fun c1 => by exfalso; omega) (fun c2 => ?_)
  refine G_iload_n hX 1 rfl rfl d_Df_differ_5 ?_
  refine G_bipush hX (by decide) d_Df_differ_6 ?_
  refine G_icmp_gt_z hX (tgt := 18) d_Df_differ_8 rfl (by omega) (fun c3 => by exfalso; omega) (fun c4 => ?_)
  refine G_iload_n hX 2 rfl rfl d_Df_differ_11 ?_
  refine F_callS hX (st := []) (c_Df_isWindow E f w (by omega)) cm_Df_isWindow sm_Df_isWindow ml_Df_141 d_Df_differ_12 rfl rfl (Nat.le_of_ble_eq_true rfl) (by decide) ?_
  rintro _ f5 ⟨rfl, e8⟩
  obtain rfl := e8.symm
  refine G_cast (st' := [.int (zI (if 16 ≤ w ∧ w ≤ 256 then 1 else 0))]) ?_ rfl rfl rfl rfl
  refine G_top (show zI (if 16 ≤ w ∧ w ≤ 256 then 1 else 0) = zI 1 from by rw [if_pos (by omega)]) ?_
  refine G_if_ne_z hX (tgt := 20) d_Df_differ_15 rfl (by omega) (fun c9 => ?_) (fun c10 => by exfalso; omega)
  refine G_aload_n hX 0 rfl rfl d_Df_differ_20 ?_
  refine F_get hX fg_Df_39 d_Df_differ_21 0 (by decide) hF.1 rfl ?_
  refine G_iload_n hX 2 rfl rfl d_Df_differ_24 ?_
  refine G_aload_n hX 0 rfl rfl d_Df_differ_25 ?_
  refine F_get hX fg_Df_9 d_Df_differ_26 0 (by decide) hF.1 rfl ?_
  refine G_iconst hX d_Df_differ_29 ?_
  refine F_aald hX d_Df_differ_30 1 (by decide) hF.2 (by decide) (a := eA E 2) rfl ?_
  refine F_get hX fg_Df_101 d_Df_differ_31 2 (by decide) hO.1 rfl ?_
  refine F_callV hX (st := []) (c_Pl_open E f P pm pw ps w c0 ⟨hP.1, hP.2.1, hP.2.2.1, hP.2.2.2.1, hP.2.2.2.2⟩) cm_Pl_open im_Pl_open se_Pl_open rfl ml_Df_148 d_Df_differ_34 (by decide) hP.1 rfl rfl (Nat.le_of_ble_eq_true rfl) (by decide) ?_
  rintro _ f11 ⟨rfl, ⟨h14, h15, h16, h17, h18⟩, k19⟩
  refine G_cast (st' := []) ?_ rfl rfl rfl rfl
  refine G_aload_n hX 0 rfl rfl d_Df_differ_37 ?_
  have h20 : f11 0 = ob 11 [.ref (eA E 1), .ref (eA E 10), .ref (eA E 13), .ref (eA E 14), .ref (eA E 22), .ref (eA E 27), .ref (eA E 29), .ref (eA E 44), .int (zI bk), .int (zI wi), .int (zI ns), .long n1, .long n2] := (k19 0 (by decide)).trans hF.1
  refine F_get hX fg_Df_46 d_Df_differ_38 0 (by decide) h20 rfl ?_
  refine G_aload_n hX 0 rfl rfl d_Df_differ_41 ?_
  refine F_get hX fg_Df_9 d_Df_differ_42 0 (by decide) h20 rfl ?_
  refine G_iconst hX d_Df_differ_45 ?_
  have h21 : f11 1 = ra E 4 (fun j => some (eA E (2 + 2 * j))) := (k19 1 (by decide)).trans hF.2
  refine F_aald hX d_Df_differ_46 1 (by decide) h21 (by decide) (a := eA E 2) rfl ?_
  refine G_iload_n hX 1 rfl rfl d_Df_differ_47 ?_
  have h22 : f11 27 = ob 3 [.ref (eA E 28), .int (zI so), .int (zI en), .int (zI ch), .int (zI mA), .int (zI mS)] := (k19 27 (by decide)).trans hM.1
  have h23 : f11 28 = iz E 556 h := (k19 28 (by decide)).trans hM.2
  have h24 : f11 2 = ob 6 [.ref (eA E 3), .int (zI c0)] := (k19 2 (by decide)).trans hO.1
  have h25 : f11 3 = iz E 300 g0 := (k19 3 (by decide)).trans hO.2
  refine F_callV hX (st := []) (c_Ma_takeSource E f11 h so en ch mA mS g0 c0 ch1 ⟨h22, h23⟩ ⟨h24, h25⟩ (by omega)) cm_Ma_takeSource im_Ma_takeSource se_Ma_takeSource rfl ml_Df_164 d_Df_differ_48 (by decide) h22 rfl rfl (Nat.le_of_ble_eq_true rfl) (by decide) ?_
  rintro _ f26 ⟨rfl, ⟨h29, h30⟩, k31⟩
  refine G_cast (st' := []) ?_ rfl rfl rfl rfl
  refine G_iconst hX d_Df_differ_51 ?_
  refine G_istore_n hX (lv' := [(3, .int (zI 0)), (0, .ref (eA E 0)), (1, .int (zI ch1)), (2, .int (zI w))]) rfl (by decide) rfl d_Df_differ_52 ?_
  have loop32 : ∀ (q : Nat) (num : Int) (Q : PS) (kk : Nat) (h1 : Int → Int) (e1 : Int) (a1 : Int) (s1 : Int) (f33 : Nat → va_E), (c - num * w).toNat < q → (0 ≤ num ∧ num * w ≤ c + w) → (plB Q) → (0 ≤ pC Q ∧ pC Q ≤ num * w ∧ pC Q ≤ 300) → (∀ a, 0 ≤ a → a < c0 → h1 a = g0 a) → (isB h1) → (c - num * w ≤ kk) → (dfF g0 g c0 c ch1 w P = dfL g0 g c0 c ch1 w kk num Q) → f33 22 = ob 4 [.ref (eA E 23), .ref (eA E 24), .ref (eA E 25), .ref (eA E 26), .int (zI 1), .int (zI (pC Q)), .int (zI w), .int (zI c0)] → f33 23 = iz E 300 (pT Q) → f33 24 = iz E 300 (pS Q) → f33 25 = iz E 300 (pA Q) → f33 26 = iz E 300 (pN Q) → f33 27 = ob 3 [.ref (eA E 28), .int (zI c0), .int (zI e1), .int (zI ch1), .int (zI a1), .int (zI s1)] → f33 28 = iz E 556 h1 → Fr [22, 23, 24, 25, 26, 27, 28] f26 f33 → G E X 0 0 53 [(0, .ref (eA E 0)), (1, .int (zI ch1)), (2, .int (zI w)), (3, .int (zI num))] [] (wl E f33) := by
    intro q
    induction q with
    | zero => intro num Q kk h1 e1 a1 s1 f33 hms35; exact absurd hms35 (Nat.not_lt_zero _)
    | succ q ih36 =>
      intro num Q kk h1 e1 a1 s1 f33 hms35 hnu hQB hQc hh1 hB1 hkk hs h37 h38 h39 h40 h41 h42 h43 k34
      have hnw : num * 16 ≤ num * w := Int.mul_le_mul_of_nonneg_left hw.1 hnu.1
      have hn1 : (num + 1) * w = num * w + w := by rw [Int.add_mul, Int.one_mul]
      refine G_iload_n hX 3 rfl rfl d_Df_differ_53 ?_
      refine G_iload_n hX 2 rfl rfl d_Df_differ_54 ?_
      refine G_imul_z hX d_Df_differ_55 ?_
      refine G_aload_n hX 0 rfl rfl d_Df_differ_56 ?_
      have h44 : f33 0 = ob 11 [.ref (eA E 1), .ref (eA E 10), .ref (eA E 13), .ref (eA E 14), .ref (eA E 22), .ref (eA E 27), .ref (eA E 29), .ref (eA E 44), .int (zI bk), .int (zI wi), .int (zI ns), .long n1, .long n2] := (k34 0 (by decide)).trans ((k31 0 (by decide)).trans h20)
      refine F_get hX fg_Df_9 d_Df_differ_57 0 (by decide) h44 rfl ?_
      refine G_iconst hX d_Df_differ_60 ?_
      have h45 : f33 1 = ra E 4 (fun j => some (eA E (2 + 2 * j))) := (k34 1 (by decide)).trans ((k31 1 (by decide)).trans h21)
      refine F_aald hX d_Df_differ_61 1 (by decide) h45 (by decide) (a := eA E 4) rfl ?_
      have h46 : f33 4 = ob 6 [.ref (eA E 5), .int (zI c)] := (k34 4 (by decide)).trans ((k31 4 (by decide)).trans ((k19 4 (by decide)).trans hR.1))
      refine F_get hX fg_Df_101 d_Df_differ_62 4 (by decide) h46 rfl ?_
      refine G_icmp_ge_z hX (tgt := 103) d_Df_differ_65 rfl (by omega) (fun c47 => ?_) (fun c48 => ?_)
      · skip
        refine G_aload_n hX 0 rfl rfl d_Df_differ_103 ?_
        refine F_get hX fg_Df_39 d_Df_differ_104 0 (by decide) h44 rfl ?_
        refine F_get hX fg_Df_163 d_Df_differ_107 22 (by decide) h37 rfl ?_
        have e1 : dfF g0 g c0 c ch1 w P = Q := by rw [hs, dfL_e (by omega)]
        rw [e1] at hE
        exact F_iret hX hE d_Df_differ_110 ⟨rfl, ⟨h37, h38, h39, h40, h41⟩, hQB, ⟨hQc.1, hQc.2.2⟩, ⟨_, _, _, _, _, _, ⟨h42, h43⟩, hB1⟩, (Fr.tr (Fr.tr (Fr.tr Fr.rf k19 (by decide)) k31 (by decide)) k34 (by decide))⟩
      · skip
        have hx0 : 0 ≤ num * w := Int.mul_nonneg hnu.1 (by omega)
        have hszb : 0 ≤ (if w ≤ c - num * w then w else c - num * w) ∧ (if w ≤ c - num * w then w else c - num * w) ≤ 256 ∧ num * w + (if w ≤ c - num * w then w else c - num * w) ≤ c ∧ (if w ≤ c - num * w then w else c - num * w) ≤ w := by split <;> omega
        have hB9 : isB (cz g h1 (num * w) c0 (if w ≤ c - num * w then w else c - num * w)) := isB_cz hBg hB1
        refine G_aload_n hX 0 rfl rfl d_Df_differ_68 ?_
        refine F_get hX fg_Df_46 d_Df_differ_69 0 (by decide) h44 rfl ?_
        refine G_aload_n hX 0 rfl rfl d_Df_differ_72 ?_
        refine F_get hX fg_Df_9 d_Df_differ_73 0 (by decide) h44 rfl ?_
        refine G_iconst hX d_Df_differ_76 ?_
        refine F_aald hX d_Df_differ_77 1 (by decide) h45 (by decide) (a := eA E 4) rfl ?_
        refine G_iload_n hX 3 rfl rfl d_Df_differ_78 ?_
        refine G_iload_n hX 2 rfl rfl d_Df_differ_79 ?_
        refine G_imul_z hX d_Df_differ_80 ?_
        refine G_iload_n hX 2 rfl rfl d_Df_differ_81 ?_
        have h49 : f33 5 = iz E 300 g := (k34 5 (by decide)).trans ((k31 5 (by decide)).trans ((k19 5 (by decide)).trans hR.2))
        refine F_callV hX (st := []) (c_Ma_takeWindow E f33 h1 c0 e1 ch1 a1 s1 g c (num * w) w ⟨h42, h43⟩ ⟨h46, h49⟩ (by omega)) cm_Ma_takeWindow im_Ma_takeWindow se_Ma_takeWindow rfl ml_Df_167 d_Df_differ_82 (by decide) h42 rfl rfl (Nat.le_of_ble_eq_true rfl) (by decide) ?_
        rintro _ f50 ⟨rfl, ⟨h53, h54⟩, k55⟩
        refine G_cast (st' := []) ?_ rfl rfl rfl rfl
        refine G_aload_n hX 0 rfl rfl d_Df_differ_85 ?_
        have h56 : f50 0 = ob 11 [.ref (eA E 1), .ref (eA E 10), .ref (eA E 13), .ref (eA E 14), .ref (eA E 22), .ref (eA E 27), .ref (eA E 29), .ref (eA E 44), .int (zI bk), .int (zI wi), .int (zI ns), .long n1, .long n2] := (k55 0 (by decide)).trans h44
        refine F_get hX fg_Df_46 d_Df_differ_86 0 (by decide) h56 rfl ?_
        refine G_aload_n hX 0 rfl rfl d_Df_differ_89 ?_
        refine F_get hX fg_Df_39 d_Df_differ_90 0 (by decide) h56 rfl ?_
        refine G_iload_n hX 3 rfl rfl d_Df_differ_93 ?_
        have h57 : f50 22 = ob 4 [.ref (eA E 23), .ref (eA E 24), .ref (eA E 25), .ref (eA E 26), .int (zI 1), .int (zI (pC Q)), .int (zI w), .int (zI c0)] := (k55 22 (by decide)).trans h37
        have h58 : f50 23 = iz E 300 (pT Q) := (k55 23 (by decide)).trans h38
        have h59 : f50 24 = iz E 300 (pS Q) := (k55 24 (by decide)).trans h39
        have h60 : f50 25 = iz E 300 (pA Q) := (k55 25 (by decide)).trans h40
        have h61 : f50 26 = iz E 300 (pN Q) := (k55 26 (by decide)).trans h41
        refine F_callV hX (st := []) (c_Ma_planWindow E f50 (cz g h1 (num * w) c0 (if w ≤ c - (num * w) then w else c - (num * w))) c0 (c0 + (if w ≤ c - (num * w) then w else c - (num * w))) ch1 a1 s1 Q 1 w c0 num (num * w) ⟨h53, h54⟩ hB9 (by omega) (by omega) ⟨h57, h58, h59, h60, h61⟩ hQB (by omega) (by omega)) cm_Ma_planWindow im_Ma_planWindow se_Ma_planWindow rfl ml_Df_171 d_Df_differ_94 (by decide) h53 rfl rfl (Nat.le_of_ble_eq_true rfl) (by decide) ?_
        rintro _ f62 ⟨rfl, ⟨h65, h66, h67, h68, h69⟩, h70, h71, ⟨a75, s76, h72, h73⟩, k77⟩
        refine G_cast (st' := []) ?_ rfl rfl rfl rfl
        refine G_iinc_z hX (lv' := [(3, .int (zI (num + 1))), (0, .ref (eA E 0)), (1, .int (zI ch1)), (2, .int (zI w))]) 3 rfl (by decide) rfl d_Df_differ_97 ?_
        refine G_goto hX (tgt := 53) d_Df_differ_100 rfl ?_
        have epw := pwF_c (h := cz g h1 (num * w) c0 (if w ≤ c - num * w then w else c - num * w)) (h' := hcF g0 g c0 (num * w)) (so := c0) (en := c0 + (if w ≤ c - num * w then w else c - num * w)) (ch := ch1) (num := num) (P := Q) (cz_hc hh1) (by omega)
        refine G_loc (lv' := [(0, .ref (eA E 0)), (1, .int (zI ch1)), (2, .int (zI w)), (3, .int (zI (num + 1)))]) [1, 2, 3, 0] rfl ?_
        exact ih36 (num + 1) (pwF (cz g h1 (num * w) c0 (if w ≤ c - (num * w) then w else c - (num * w))) c0 (c0 + (if w ≤ c - (num * w) then w else c - (num * w))) ch1 num Q) (kk - 1) (cz g h1 (num * w) c0 (if w ≤ c - (num * w) then w else c - (num * w))) (c0 + (if w ≤ c - (num * w) then w else c - (num * w))) a75 s76 f62 (by rw [hn1]; omega) ⟨by omega, by rw [hn1]; omega⟩ h70 ⟨h71.1, by rw [hn1]; omega, by omega⟩ (cz_lo hh1) hB9 (by rw [hn1]; omega) (by rw [hs, dfL_s (by omega) hkk, ← epw]) h65 h66 h67 h68 h69 h72 h73 (Fr.tr (Fr.tr (Fr.tr Fr.rf k34 (by decide)) k55 (by decide)) k77 (by decide))
  have h78 : f26 22 = ob 4 [.ref (eA E 23), .ref (eA E 24), .ref (eA E 25), .ref (eA E 26), .int (zI 1), .int (zI (pC (pT P, pS P, pA P, pN P, 0))), .int (zI w), .int (zI c0)] := (k31 22 (by decide)).trans h14
  have h79 : f26 23 = iz E 300 (pT (pT P, pS P, pA P, pN P, 0)) := (k31 23 (by decide)).trans h15
  have h80 : f26 24 = iz E 300 (pS (pT P, pS P, pA P, pN P, 0)) := (k31 24 (by decide)).trans h16
  have h81 : f26 25 = iz E 300 (pA (pT P, pS P, pA P, pN P, 0)) := (k31 25 (by decide)).trans h17
  have h82 : f26 26 = iz E 300 (pN (pT P, pS P, pA P, pN P, 0)) := (k31 26 (by decide)).trans h18
  refine G_loc (lv' := [(0, .ref (eA E 0)), (1, .int (zI ch1)), (2, .int (zI w)), (3, .int (zI 0))]) [1, 2, 3, 0] rfl ?_
  exact loop32 (_ + 1) 0 (pT P, pS P, pA P, pN P, 0) c.toNat (cz g0 h 0 0 c0) en mA mS f26 (Nat.lt_succ_self _) ⟨Int.le_refl 0, by rw [Int.zero_mul]; omega⟩ hPB ⟨Int.le_refl 0, by rw [Int.zero_mul]; exact Int.le_refl 0, by show (0 : Int) ≤ 300; decide⟩ (fun a q1 q2 => by unfold cz; rw [if_pos (by omega)]; congr 1; omega) (isB_cz hB0 hhB) (by omega) rfl h78 h79 h80 h81 h82 h29 h30 Fr.rf
theorem c_Df_differ_no (E : EV) (f : Nat → va_E) (bk wi ns : Int) (n1 n2 : Int64) (ch1 w : Int) (hF : isDf E f bk wi ns n1 n2) (hk : ch1 < 1 ∨ 16 < ch1 ∨ w < 16 ∨ 256 < w) (hk2 : -2147483648 ≤ ch1 ∧ ch1 < 2147483648 ∧ -2147483648 ≤ w ∧ w < 2147483648) : CF yn_Df_differ cd_Df_differ 4 (some (.int)) 3 E [.ref (eA E 0), .int (zI ch1), .int (zI w)] f (fun r f' => r = some (.int (zI (-1))) ∧ f' = f) := by
  refine CF.of (by decide +kernel) (Nat.le_of_ble_eq_true rfl) fun X hX hE => ?_
  have hX : Ok E X "DeltaFerry" "differ" cd_Df_differ 4 (some (.int)) (rl 3) := hX
  refine G_cast (lv' := [(0, .ref (eA E 0)), (1, .int (zI ch1)), (2, .int (zI w))]) ?_ rfl rfl rfl rfl
  refine G_iload_n hX 1 rfl rfl d_Df_differ_0 ?_
  refine G_iconst hX d_Df_differ_1 ?_
  refine G_icmp_lt_z hX (tgt := 18) d_Df_differ_2 rfl (by omega) (fun c1 => ?_) (fun c2 => ?_)
  · skip
    refine G_iconst hX d_Df_differ_18 ?_
    exact F_iret hX hE d_Df_differ_19 ⟨rfl, rfl⟩
  · skip
    refine G_iload_n hX 1 rfl rfl d_Df_differ_5 ?_
    refine G_bipush hX (by decide) d_Df_differ_6 ?_
    refine G_icmp_gt_z hX (tgt := 18) d_Df_differ_8 rfl (by omega) (fun c3 => ?_) (fun c4 => ?_)
    · skip
      refine G_iconst hX d_Df_differ_18 ?_
      exact F_iret hX hE d_Df_differ_19 ⟨rfl, rfl⟩
    · skip
      refine G_iload_n hX 2 rfl rfl d_Df_differ_11 ?_
      refine F_callS hX (st := []) (c_Df_isWindow E f w (by omega)) cm_Df_isWindow sm_Df_isWindow ml_Df_141 d_Df_differ_12 rfl rfl (Nat.le_of_ble_eq_true rfl) (by decide) ?_
      rintro _ f5 ⟨rfl, e8⟩
      obtain rfl := e8.symm
      refine G_cast (st' := [.int (zI (if 16 ≤ w ∧ w ≤ 256 then 1 else 0))]) ?_ rfl rfl rfl rfl
      by_cases hw9 : 16 ≤ w ∧ w ≤ 256
      · skip
        refine G_top (show zI (if 16 ≤ w ∧ w ≤ 256 then 1 else 0) = zI 1 from by rw [if_pos hw9]) ?_
        refine G_if_ne_z hX (tgt := 20) d_Df_differ_15 rfl (by omega) (fun c10 => ?_) (fun c11 => by exfalso; omega)
        exfalso; omega
      · skip
        refine G_top (show zI (if 16 ≤ w ∧ w ≤ 256 then 1 else 0) = zI 0 from by rw [if_neg hw9]) ?_
        refine G_if_ne_z hX (tgt := 20) d_Df_differ_15 rfl (by omega) (fun c12 => by exfalso; omega) (fun c13 => ?_)
        refine G_iconst hX d_Df_differ_18 ?_
        exact F_iret hX hE d_Df_differ_19 ⟨rfl, rfl⟩
theorem c_Df_scan_no (E : EV) (f : Nat → va_E) (bk wi ns : Int) (n1 n2 : Int64) (W F L : Nat → Int64) (md bl ct : Int) (w : Int) (hF : isDf E f bk wi ns n1 n2) (hS : isSg E f W F L md bl ct) (hmd : md = 0 ∨ md = 1) (hk : md = 0 ∨ w < 16 ∨ 256 < w) (hk2 : -2147483648 ≤ w ∧ w < 2147483648) : CF yn_Df_scan cd_Df_scan 6 (some (.int)) 4 E [.ref (eA E 0), .int (zI w)] f (fun r f' => r = some (.int (zI (-1))) ∧ f' = f) := by
  refine CF.of (by decide +kernel) (Nat.le_of_ble_eq_true rfl) fun X hX hE => ?_
  have hX : Ok E X "DeltaFerry" "scan" cd_Df_scan 6 (some (.int)) (rl 4) := hX
  refine G_cast (lv' := [(0, .ref (eA E 0)), (1, .int (zI w))]) ?_ rfl rfl rfl rfl
  refine G_aload_n hX 0 rfl rfl d_Df_scan_0 ?_
  refine F_get hX fg_Df_32 d_Df_scan_1 0 (by decide) hF.1 rfl ?_
  refine F_get hX fg_Df_137 d_Df_scan_4 14 (by decide) hS.1 rfl ?_
  refine G_if_eq_z hX (tgt := 17) d_Df_scan_7 rfl (by omega) (fun c1 => ?_) (fun c2 => ?_)
  · skip
    refine G_iconst hX d_Df_scan_17 ?_
    exact F_iret hX hE d_Df_scan_18 ⟨rfl, rfl⟩
  · skip
    refine G_iload_n hX 1 rfl rfl d_Df_scan_10 ?_
    refine F_callS hX (st := []) (c_Df_isWindow E f w (by omega)) cm_Df_isWindow sm_Df_isWindow ml_Df_141 d_Df_scan_11 rfl rfl (Nat.le_of_ble_eq_true rfl) (by decide) ?_
    rintro _ f3 ⟨rfl, e6⟩
    obtain rfl := e6.symm
    refine G_cast (st' := [.int (zI (if 16 ≤ w ∧ w ≤ 256 then 1 else 0))]) ?_ rfl rfl rfl rfl
    by_cases hw7 : 16 ≤ w ∧ w ≤ 256
    · skip
      refine G_top (show zI (if 16 ≤ w ∧ w ≤ 256 then 1 else 0) = zI 1 from by rw [if_pos hw7]) ?_
      refine G_if_ne_z hX (tgt := 19) d_Df_scan_14 rfl (by omega) (fun c8 => ?_) (fun c9 => by exfalso; omega)
      exfalso; omega
    · skip
      refine G_top (show zI (if 16 ≤ w ∧ w ≤ 256 then 1 else 0) = zI 0 from by rw [if_neg hw7]) ?_
      refine G_if_ne_z hX (tgt := 19) d_Df_scan_14 rfl (by omega) (fun c10 => by exfalso; omega) (fun c11 => ?_)
      refine G_iconst hX d_Df_scan_17 ?_
      exact F_iret hX hE d_Df_scan_18 ⟨rfl, rfl⟩
theorem c_Df_encode_no (E : EV) (f : Nat → va_E) (bk wi ns : Int) (n1 n2 : Int64) (P : PS) (md w s : Int) (ck : Int) (hF : isDf E f bk wi ns n1 n2) (hP : isPl E f P md w s) (hmd : md = 0) : CF yn_Df_encode cd_Df_encode 3 (some (.int)) 5 E [.ref (eA E 0), .int (zI ck)] f (fun r f' => r = some (.int (zI (-1))) ∧ f' = f) := by
  refine CF.of (by decide +kernel) (Nat.le_of_ble_eq_true rfl) fun X hX hE => ?_
  have hX : Ok E X "DeltaFerry" "encode" cd_Df_encode 3 (some (.int)) (rl 5) := hX
  refine G_cast (lv' := [(0, .ref (eA E 0)), (1, .int (zI ck))]) ?_ rfl rfl rfl rfl
  refine G_aload_n hX 0 rfl rfl d_Df_encode_0 ?_
  refine F_get hX fg_Df_39 d_Df_encode_1 0 (by decide) hF.1 rfl ?_
  refine F_get hX fg_Df_175 d_Df_encode_4 22 (by decide) hP.1 rfl ?_
  refine G_if_ne_z hX (tgt := 12) d_Df_encode_7 rfl (by omega) (fun c1 => by exfalso; omega) (fun c2 => ?_)
  refine G_iconst hX d_Df_encode_10 ?_
  exact F_iret hX hE d_Df_encode_11 ⟨rfl, rfl⟩
