/-! DeltaFerry$Matcher: printed by wip/tools/m_ma.py -/
def cnt (p : Int → Bool) : Nat → Int → Int
  | 0, r => r
  | k + 1, r => if p r = true then cnt p k (r + 1) else r
/-- the first r from r0 on that p says no of, below B -/
def cntF (p : Int → Bool) (B r0 : Int) : Int := cnt p (B - r0).toNat r0
theorem cnt_go {p : Int → Bool} {B r : Int} (h : r < B) (hp : p r = true) : cntF p B r = cntF p B (r + 1) := by
  unfold cntF
  rw [show (B - r).toNat = (B - (r + 1)).toNat + 1 by omega]
  show (if p r = true then _ else _) = _
  rw [if_pos hp]
theorem cnt_stop {p : Int → Bool} {B r : Int} (hp : p r = false ∨ B ≤ r) : cntF p B r = r := by
  unfold cntF
  cases hk : (B - r).toNat with
  | zero => rfl
  | succ k =>
    show (if p r = true then _ else _) = _
    rcases hp with hp | hp
    · rw [if_neg (by rw [hp]; decide)]
    · omega
theorem cnt_bk (p : Int → Bool) : ∀ (k : Nat) (r : Int), r ≤ cnt p k r ∧ cnt p k r ≤ r + k := by
  intro k
  induction k with
  | zero => intro r; exact ⟨by simp only [cnt]; omega, by simp only [cnt]; omega⟩
  | succ k ih =>
    intro r
    have := ih (r + 1)
    simp only [cnt]
    split <;> omega
theorem cnt_b {p : Int → Bool} {B r : Int} (h : r ≤ B) : r ≤ cntF p B r ∧ cntF p B r ≤ B := by
  have := cnt_bk p (B - r).toNat r
  unfold cntF
  omega
def rnF (h : Int → Int) (here en : Int) : Int := cntF (fun r => decide (here + r < en ∧ h (here + r) = h here)) (en - here) 1
def smF (h : Int → Int) (ad here en : Int) : Int := cntF (fun r => decide (here + r < en ∧ h (ad + r) = h (here + r))) (en - here) 0
def sbF (h : Int → Int) (mA here add : Int) : Int := cntF (fun r => decide (r < add ∧ r < mA ∧ h (mA - r - 1) = h (here - r - 1))) add 0
abbrev cnP (h : Int → Int) (so ad here : Int) : Prop := h ad = h here ∧ ¬ (ad < so ∧ so < ad + 4) ∧ h (ad + 1) = h (here + 1) ∧ h (ad + 2) = h (here + 2) ∧ h (ad + 3) = h (here + 3)
def fmL (h : Int → Int) (so en ch here : Int) : Nat → Int → Int → Int → Int → Int × Int
  | 0, _, _, mA, mS => (mA, mS)
  | k + 1, ad, sn, mA, mS => if 0 ≤ ad ∧ sn < ch then (if cnP h so ad here then (if mS < smF h ad here en then fmL h so en ch here k (ad - 1) (sn + 1) ad (smF h ad here en) else fmL h so en ch here k (ad - 1) (sn + 1) mA mS) else fmL h so en ch here k (ad - 1) sn mA mS) else (mA, mS)
def fmF (h : Int → Int) (so en ch here : Int) : Int × Int := if en < here + 4 then (-1, 0) else fmL h so en ch here here.toNat (here - 1) 0 (-1) 0
theorem fmL_s {h : Int → Int} {so en ch here ad sn mA mS : Int} (h0 : 0 ≤ ad) : fmL h so en ch here (ad + 1).toNat ad sn mA mS = if sn < ch then (if cnP h so ad here then (if mS < smF h ad here en then fmL h so en ch here (ad - 1 + 1).toNat (ad - 1) (sn + 1) ad (smF h ad here en) else fmL h so en ch here (ad - 1 + 1).toNat (ad - 1) (sn + 1) mA mS) else fmL h so en ch here (ad - 1 + 1).toNat (ad - 1) sn mA mS) else (mA, mS) := by
  rw [show (ad + 1).toNat = (ad - 1 + 1).toNat + 1 by omega]
  show (if 0 ≤ ad ∧ sn < ch then _ else _) = _
  by_cases h1 : sn < ch
  · rw [if_pos ⟨h0, h1⟩, if_pos h1]
  · rw [if_neg (fun q => h1 q.2), if_neg h1]
theorem fmL_b {h : Int → Int} {so en ch here : Int} (hh : here ≤ en) : ∀ (k : Nat) (ad sn mA mS : Int), ad < here → (0 ≤ mS ∧ mS ≤ en - here) → (-1 ≤ mA ∧ mA < here) → (0 < mS → 0 ≤ mA) → (0 ≤ (fmL h so en ch here k ad sn mA mS).2 ∧ (fmL h so en ch here k ad sn mA mS).2 ≤ en - here) ∧ (-1 ≤ (fmL h so en ch here k ad sn mA mS).1 ∧ (fmL h so en ch here k ad sn mA mS).1 < here) ∧ (0 < (fmL h so en ch here k ad sn mA mS).2 → 0 ≤ (fmL h so en ch here k ad sn mA mS).1) := by
  intro k
  induction k with
  | zero => intro ad sn mA mS h1 h2 h3 h4; exact ⟨h2, h3, h4⟩
  | succ k ih =>
    intro ad sn mA mS h1 h2 h3 h4
    have hb := cnt_b (p := fun r => decide (here + r < en ∧ h (ad + r) = h (here + r))) (B := en - here) (r := 0) (by omega)
    simp only [fmL]
    split
    · rename_i h5
      split
      · split
        · exact ih _ _ _ _ (by omega) hb ⟨by omega, h1⟩ (fun _ => h5.1)
        · exact ih _ _ _ _ (by omega) h2 h3 h4
      · exact ih _ _ _ _ (by omega) h2 h3 h4
    · exact ⟨h2, h3, h4⟩
theorem fmF_b {h : Int → Int} {so en ch here : Int} (hh : here ≤ en) (h0 : 0 ≤ here) : (0 ≤ (fmF h so en ch here).2 ∧ (fmF h so en ch here).2 ≤ en - here) ∧ (-1 ≤ (fmF h so en ch here).1 ∧ (fmF h so en ch here).1 < here) ∧ (0 < (fmF h so en ch here).2 → 0 ≤ (fmF h so en ch here).1) := by
  unfold fmF
  split
  · exact ⟨⟨by decide, by show (0 : Int) ≤ _; omega⟩, ⟨by decide, by show (-1 : Int) < _; omega⟩, fun q => absurd q (by decide)⟩
  · exact fmL_b hh _ _ _ _ _ (by omega) ⟨by omega, by omega⟩ ⟨by omega, by omega⟩ (fun q => by omega)
def isMa (E : EV) (f : Nat → va_E) (h : Int → Int) (so en ch mA mS : Int) : Prop := f 27 = ob 3 [.ref (eA E 28), .int (zI so), .int (zI en), .int (zI ch), .int (zI mA), .int (zI mS)] ∧ f 28 = iz E 556 h
theorem c_Ma_takeSource (E : EV) (f : Nat → va_E) (h : Int → Int) (so en ch mA mS : Int) (g : Int → Int) (c ch1 : Int) (hM : isMa E f h so en ch mA mS) (hR : isR E f 2 3 300 g c) (hc : 0 ≤ c ∧ c ≤ 300) : CF yn_Ma_takeSource cd_Ma_takeSource 3 none 1 E [.ref (eA E 27), .ref (eA E 2), .int (zI ch1)] f (fun r f' => r = none ∧ isMa E f' (cz g h 0 0 c) c en ch1 mA mS ∧ Fr [27, 28] f f') := by
  refine CF.of (by decide +kernel) (Nat.le_of_ble_eq_true rfl) fun X hX hE => ?_
  have hX : Ok E X "DeltaFerry$Matcher" "takeSource" cd_Ma_takeSource 3 none (rl 1) := hX
  refine G_cast (lv' := [(0, .ref (eA E 27)), (1, .ref (eA E 2)), (2, .int (zI ch1))]) ?_ rfl rfl rfl rfl
  refine G_aload_n hX 0 rfl rfl d_Ma_takeSource_0 ?_
  refine G_iload_n hX 2 rfl rfl d_Ma_takeSource_1 ?_
  refine F_put hX fg_Ma_15 fp_Ma_3 d_Ma_takeSource_2 27 (fs' := [.ref (eA E 28), .int (zI so), .int (zI en), .int (zI ch1), .int (zI mA), .int (zI mS)]) (by decide) hM.1 rfl rfl (Nat.le_of_ble_eq_true rfl) rfl (fun f1 h2 k3 => ?_)
  refine G_aload_n hX 0 rfl rfl d_Ma_takeSource_5 ?_
  refine G_aload_n hX 1 rfl rfl d_Ma_takeSource_6 ?_
  have h4 : f1 2 = ob 6 [.ref (eA E 3), .int (zI c)] := (k3 2 (by decide)).trans hR.1
  refine F_get hX fg_Ma_19 d_Ma_takeSource_7 2 (by decide) h4 rfl ?_
  refine F_put hX fg_Ma_24 fp_Ma_1 d_Ma_takeSource_10 27 (fs' := [.ref (eA E 28), .int (zI c), .int (zI en), .int (zI ch1), .int (zI mA), .int (zI mS)]) (by decide) h2 rfl rfl (Nat.le_of_ble_eq_true rfl) rfl (fun f5 h6 k7 => ?_)
  refine G_aload_n hX 1 rfl rfl d_Ma_takeSource_13 ?_
  have h8 : f5 2 = ob 6 [.ref (eA E 3), .int (zI c)] := (k7 2 (by decide)).trans h4
  refine F_get hX fg_Ma_27 d_Ma_takeSource_14 2 (by decide) h8 rfl ?_
  refine G_iconst hX d_Ma_takeSource_17 ?_
  refine G_aload_n hX 0 rfl rfl d_Ma_takeSource_18 ?_
  refine F_get hX fg_Ma_9 d_Ma_takeSource_19 27 (by decide) h6 rfl ?_
  refine G_iconst hX d_Ma_takeSource_22 ?_
  refine G_aload_n hX 0 rfl rfl d_Ma_takeSource_23 ?_
  refine F_get hX fg_Ma_24 d_Ma_takeSource_24 27 (by decide) h6 rfl ?_
  have h9 : f5 3 = iz E 300 g := (k7 3 (by decide)).trans ((k3 3 (by decide)).trans hR.2)
  have h10 : f5 28 = iz E 556 h := (k7 28 (by decide)).trans ((k3 28 (by decide)).trans hM.2)
  refine F_acopy hX ml_Ma_28 kw_native kw_st_System kj_System d_Ma_takeSource_27 3 28 (by decide) (by decide) h9 h10 (by omega) (by decide) (Nat.le_of_ble_eq_true rfl) (fun f11 h12 k13 => ?_)
  have h14 : f11 27 = ob 3 [.ref (eA E 28), .int (zI c), .int (zI en), .int (zI ch1), .int (zI mA), .int (zI mS)] := (k13 27 (by decide)).trans h6
  exact F_vret hX hE d_Ma_takeSource_30 ⟨rfl, ⟨h14, h12⟩, (Fr.tr (Fr.tr (Fr.tr Fr.rf k3 (by decide)) k7 (by decide)) k13 (by decide))⟩
theorem c_Ma_takeWindow (E : EV) (f : Nat → va_E) (h : Int → Int) (so en ch mA mS : Int) (g : Int → Int) (c x m : Int) (hM : isMa E f h so en ch mA mS) (hR : isR E f 4 5 300 g c) (hc : 0 ≤ c ∧ c ≤ 300 ∧ 0 ≤ x ∧ x ≤ c ∧ 0 ≤ m ∧ m ≤ 256 ∧ 0 ≤ so ∧ so ≤ 300) : CF yn_Ma_takeWindow cd_Ma_takeWindow 5 none 1 E [.ref (eA E 27), .ref (eA E 4), .int (zI x), .int (zI m)] f (fun r f' => r = none ∧ isMa E f' (cz g h x so (if m ≤ c - x then m else c - x)) so (so + (if m ≤ c - x then m else c - x)) ch mA mS ∧ Fr [27, 28] f f') := by
  refine CF.of (by decide +kernel) (Nat.le_of_ble_eq_true rfl) fun X hX hE => ?_
  have hX : Ok E X "DeltaFerry$Matcher" "takeWindow" cd_Ma_takeWindow 5 none (rl 1) := hX
  refine G_cast (lv' := [(0, .ref (eA E 27)), (1, .ref (eA E 4)), (2, .int (zI x)), (3, .int (zI m))]) ?_ rfl rfl rfl rfl
  refine G_iload_n hX 3 rfl rfl d_Ma_takeWindow_0 ?_
  refine G_aload_n hX 1 rfl rfl d_Ma_takeWindow_1 ?_
  refine F_get hX fg_Ma_19 d_Ma_takeWindow_2 4 (by decide) hR.1 rfl ?_
  refine G_iload_n hX 2 rfl rfl d_Ma_takeWindow_5 ?_
  refine G_isub_z hX d_Ma_takeWindow_6 ?_
  refine F_min hX ml_Ma_34 kw_st_Math kj_Math kw_min (by decide) (Nat.le_of_ble_eq_true rfl) (by omega) d_Ma_takeWindow_7 ?_
  refine G_namz (fun u hu => ?_)
  have hu2 : 0 ≤ u ∧ u ≤ 256 ∧ x + u ≤ c := by rw [hu]; split <;> omega
  refine G_istore hX (lv' := [(4, .int (zI u)), (0, .ref (eA E 27)), (1, .ref (eA E 4)), (2, .int (zI x)), (3, .int (zI m))]) (by decide) rfl d_Ma_takeWindow_10 ?_
  refine G_aload_n hX 2 rfl rfl d_Ma_takeWindow_12 ?_
  refine F_get hX fg_Ma_27 d_Ma_takeWindow_13 4 (by decide) hR.1 rfl ?_
  refine G_iload_n hX 3 rfl rfl d_Ma_takeWindow_16 ?_
  refine G_aload_n hX 1 rfl rfl d_Ma_takeWindow_17 ?_
  refine F_get hX fg_Ma_9 d_Ma_takeWindow_18 27 (by decide) hM.1 rfl ?_
  refine G_aload_n hX 1 rfl rfl d_Ma_takeWindow_21 ?_
  refine F_get hX fg_Ma_24 d_Ma_takeWindow_22 27 (by decide) hM.1 rfl ?_
  refine G_iload hX 0 rfl d_Ma_takeWindow_25 ?_
  refine F_acopy hX ml_Ma_28 kw_native kw_st_System kj_System d_Ma_takeWindow_27 5 28 (by decide) (by decide) hR.2 hM.2 (by omega) (by decide) (Nat.le_of_ble_eq_true rfl) (fun f1 h2 k3 => ?_)
  refine G_aload_n hX 1 rfl rfl d_Ma_takeWindow_30 ?_
  refine G_aload_n hX 1 rfl rfl d_Ma_takeWindow_31 ?_
  have h4 : f1 27 = ob 3 [.ref (eA E 28), .int (zI so), .int (zI en), .int (zI ch), .int (zI mA), .int (zI mS)] := (k3 27 (by decide)).trans hM.1
  refine F_get hX fg_Ma_24 d_Ma_takeWindow_32 27 (by decide) h4 rfl ?_
  refine G_iload hX 0 rfl d_Ma_takeWindow_35 ?_
  refine G_iadd_z hX d_Ma_takeWindow_37 ?_
  refine F_put hX fg_Ma_40 fp_Ma_2 d_Ma_takeWindow_38 27 (fs' := [.ref (eA E 28), .int (zI so), .int (zI (so + u)), .int (zI ch), .int (zI mA), .int (zI mS)]) (by decide) h4 rfl rfl (Nat.le_of_ble_eq_true rfl) rfl (fun f5 h6 k7 => ?_)
  rw [← hu] at hE
  have h8 : f5 28 = iz E 556 (cz g h x so u) := (k7 28 (by decide)).trans h2
  exact F_vret hX hE d_Ma_takeWindow_41 ⟨rfl, ⟨h6, h8⟩, (Fr.tr (Fr.tr Fr.rf k3 (by decide)) k7 (by decide))⟩
theorem c_Ma_runAt (E : EV) (f : Nat → va_E) (h : Int → Int) (so en ch mA mS : Int) (here : Int) (hM : isMa E f h so en ch mA mS) (hB : isB h) (hso : 0 ≤ so ∧ so ≤ en ∧ en ≤ 556) (hh : 0 ≤ here ∧ here < en) : CF yn_Ma_runAt cd_Ma_runAt 3 (some (.int)) 0 E [.ref (eA E 27), .int (zI here)] f (fun r f' => r = some (.int (zI (rnF h here en))) ∧ f' = f) := by
  refine CF.of (by decide +kernel) (Nat.le_of_ble_eq_true rfl) fun X hX hE => ?_
  have hX : Ok E X "DeltaFerry$Matcher" "runAt" cd_Ma_runAt 3 (some (.int)) (rl 0) := hX
  refine G_cast (lv' := [(0, .ref (eA E 27)), (1, .int (zI here))]) ?_ rfl rfl rfl rfl
  refine G_iconst hX d_Ma_runAt_0 ?_
  refine G_istore_n hX (lv' := [(2, .int (zI 1)), (0, .ref (eA E 27)), (1, .int (zI here))]) rfl (by decide) rfl d_Ma_runAt_1 ?_
  have loop1 : ∀ (q : Nat) (r1 : Int) (f2 : Nat → va_E), (en - here - r1).toNat < q → (1 ≤ r1 ∧ r1 ≤ en - here) → (rnF h here en = cntF (fun r => decide (here + r < en ∧ h (here + r) = h here)) (en - here) r1) → Fr [] f f2 → G E X 0 0 2 [(0, .ref (eA E 27)), (1, .int (zI here)), (2, .int (zI r1))] [] (wl E f2) := by
    intro q
    induction q with
    | zero => intro r1 f2 hms4; exact absurd hms4 (Nat.not_lt_zero _)
    | succ q ih5 =>
      intro r1 f2 hms4 ht hs k3
      refine G_iload_n hX 1 rfl rfl d_Ma_runAt_2 ?_
      refine G_iload_n hX 2 rfl rfl d_Ma_runAt_3 ?_
      refine G_iadd_z hX d_Ma_runAt_4 ?_
      refine G_aload_n hX 0 rfl rfl d_Ma_runAt_5 ?_
      have h6 : f2 27 = ob 3 [.ref (eA E 28), .int (zI so), .int (zI en), .int (zI ch), .int (zI mA), .int (zI mS)] := (k3 27 (List.not_mem_nil)).trans hM.1
      refine F_get hX fg_Ma_40 d_Ma_runAt_6 27 (by decide) h6 rfl ?_
      refine G_icmp_ge_z hX (tgt := 35) d_Ma_runAt_9 rfl (by omega) (fun c7 => ?_) (fun c8 => ?_)
      · skip
        refine G_iload_n hX 2 rfl rfl d_Ma_runAt_35 ?_
        exact F_iret hX hE d_Ma_runAt_36 ⟨by rw [hs, cnt_stop (Or.inl (decide_eq_false (by omega)))], funext fun x => k3 x List.not_mem_nil⟩
      · skip
        refine G_aload_n hX 0 rfl rfl d_Ma_runAt_12 ?_
        refine F_get hX fg_Ma_9 d_Ma_runAt_13 27 (by decide) h6 rfl ?_
        refine G_iload_n hX 1 rfl rfl d_Ma_runAt_16 ?_
        refine G_iload_n hX 2 rfl rfl d_Ma_runAt_17 ?_
        refine G_iadd_z hX d_Ma_runAt_18 ?_
        have h9 : f2 28 = iz E 556 h := (k3 28 (List.not_mem_nil)).trans hM.2
        refine F_iald hX d_Ma_runAt_19 28 (by decide) h9 (by omega) ?_
        have b10 := hB (here + r1)
        refine G_aload_n hX 0 rfl rfl d_Ma_runAt_20 ?_
        refine F_get hX fg_Ma_9 d_Ma_runAt_21 27 (by decide) h6 rfl ?_
        refine G_iload_n hX 1 rfl rfl d_Ma_runAt_24 ?_
        refine F_iald hX d_Ma_runAt_25 28 (by decide) h9 (by omega) ?_
        have b11 := hB here
        refine G_icmp_ne_z hX (tgt := 35) d_Ma_runAt_26 rfl (by omega) (fun c12 => ?_) (fun c13 => ?_)
        · skip
          refine G_iload_n hX 2 rfl rfl d_Ma_runAt_35 ?_
          exact F_iret hX hE d_Ma_runAt_36 ⟨by rw [hs, cnt_stop (Or.inl (decide_eq_false (by omega)))], funext fun x => k3 x List.not_mem_nil⟩
        · skip
          refine G_iinc_z hX (lv' := [(2, .int (zI (r1 + 1))), (0, .ref (eA E 27)), (1, .int (zI here))]) 2 rfl (by decide) rfl d_Ma_runAt_29 ?_
          refine G_goto hX (tgt := 2) d_Ma_runAt_32 rfl ?_
          refine G_loc (lv' := [(0, .ref (eA E 27)), (1, .int (zI here)), (2, .int (zI (r1 + 1)))]) [1, 2, 0] rfl ?_
          exact ih5 (r1 + 1) f2 (by omega) (by omega) (hs.trans (cnt_go (by omega) (decide_eq_true ⟨by omega, by omega⟩)))  (Fr.tr Fr.rf k3 (by decide))
  refine G_loc (lv' := [(0, .ref (eA E 27)), (1, .int (zI here)), (2, .int (zI 1))]) [1, 2, 0] rfl ?_
  exact loop1 (_ + 1) 1 f (Nat.lt_succ_self _) (by omega) rfl  Fr.rf
theorem c_Ma_sameFrom (E : EV) (f : Nat → va_E) (h : Int → Int) (so en ch mA mS : Int) (ad here : Int) (hM : isMa E f h so en ch mA mS) (hB : isB h) (hso : 0 ≤ so ∧ so ≤ en ∧ en ≤ 556) (hh : 0 ≤ ad ∧ ad ≤ here ∧ here ≤ en) : CF yn_Ma_sameFrom cd_Ma_sameFrom 4 (some (.int)) 0 E [.ref (eA E 27), .int (zI ad), .int (zI here)] f (fun r f' => r = some (.int (zI (smF h ad here en))) ∧ f' = f) := by
  refine CF.of (by decide +kernel) (Nat.le_of_ble_eq_true rfl) fun X hX hE => ?_
  have hX : Ok E X "DeltaFerry$Matcher" "sameFrom" cd_Ma_sameFrom 4 (some (.int)) (rl 0) := hX
  refine G_cast (lv' := [(0, .ref (eA E 27)), (1, .int (zI ad)), (2, .int (zI here))]) ?_ rfl rfl rfl rfl
  refine G_iconst hX d_Ma_sameFrom_0 ?_
  refine G_istore_n hX (lv' := [(3, .int (zI 0)), (0, .ref (eA E 27)), (1, .int (zI ad)), (2, .int (zI here))]) rfl (by decide) rfl d_Ma_sameFrom_1 ?_
  have loop1 : ∀ (q : Nat) (r1 : Int) (f2 : Nat → va_E), (en - here - r1).toNat < q → (0 ≤ r1 ∧ r1 ≤ en - here) → (smF h ad here en = cntF (fun r => decide (here + r < en ∧ h (ad + r) = h (here + r))) (en - here) r1) → Fr [] f f2 → G E X 0 0 2 [(0, .ref (eA E 27)), (1, .int (zI ad)), (2, .int (zI here)), (3, .int (zI r1))] [] (wl E f2) := by
    intro q
    induction q with
    | zero => intro r1 f2 hms4; exact absurd hms4 (Nat.not_lt_zero _)
    | succ q ih5 =>
      intro r1 f2 hms4 ht hs k3
      refine G_iload_n hX 2 rfl rfl d_Ma_sameFrom_2 ?_
      refine G_iload_n hX 3 rfl rfl d_Ma_sameFrom_3 ?_
      refine G_iadd_z hX d_Ma_sameFrom_4 ?_
      refine G_aload_n hX 0 rfl rfl d_Ma_sameFrom_5 ?_
      have h6 : f2 27 = ob 3 [.ref (eA E 28), .int (zI so), .int (zI en), .int (zI ch), .int (zI mA), .int (zI mS)] := (k3 27 (List.not_mem_nil)).trans hM.1
      refine F_get hX fg_Ma_40 d_Ma_sameFrom_6 27 (by decide) h6 rfl ?_
      refine G_icmp_ge_z hX (tgt := 37) d_Ma_sameFrom_9 rfl (by omega) (fun c7 => ?_) (fun c8 => ?_)
      · skip
        refine G_iload_n hX 3 rfl rfl d_Ma_sameFrom_37 ?_
        exact F_iret hX hE d_Ma_sameFrom_38 ⟨by rw [hs, cnt_stop (Or.inl (decide_eq_false (by omega)))], funext fun x => k3 x List.not_mem_nil⟩
      · skip
        refine G_aload_n hX 0 rfl rfl d_Ma_sameFrom_12 ?_
        refine F_get hX fg_Ma_9 d_Ma_sameFrom_13 27 (by decide) h6 rfl ?_
        refine G_iload_n hX 1 rfl rfl d_Ma_sameFrom_16 ?_
        refine G_iload_n hX 3 rfl rfl d_Ma_sameFrom_17 ?_
        refine G_iadd_z hX d_Ma_sameFrom_18 ?_
        have h9 : f2 28 = iz E 556 h := (k3 28 (List.not_mem_nil)).trans hM.2
        refine F_iald hX d_Ma_sameFrom_19 28 (by decide) h9 (by omega) ?_
        have b10 := hB (ad + r1)
        refine G_aload_n hX 0 rfl rfl d_Ma_sameFrom_20 ?_
        refine F_get hX fg_Ma_9 d_Ma_sameFrom_21 27 (by decide) h6 rfl ?_
        refine G_iload_n hX 2 rfl rfl d_Ma_sameFrom_24 ?_
        refine G_iload_n hX 3 rfl rfl d_Ma_sameFrom_25 ?_
        refine G_iadd_z hX d_Ma_sameFrom_26 ?_
        refine F_iald hX d_Ma_sameFrom_27 28 (by decide) h9 (by omega) ?_
        have b11 := hB (here + r1)
        refine G_icmp_ne_z hX (tgt := 37) d_Ma_sameFrom_28 rfl (by omega) (fun c12 => ?_) (fun c13 => ?_)
        · skip
          refine G_iload_n hX 3 rfl rfl d_Ma_sameFrom_37 ?_
          exact F_iret hX hE d_Ma_sameFrom_38 ⟨by rw [hs, cnt_stop (Or.inl (decide_eq_false (by omega)))], funext fun x => k3 x List.not_mem_nil⟩
        · skip
          refine G_iinc_z hX (lv' := [(3, .int (zI (r1 + 1))), (0, .ref (eA E 27)), (1, .int (zI ad)), (2, .int (zI here))]) 3 rfl (by decide) rfl d_Ma_sameFrom_31 ?_
          refine G_goto hX (tgt := 2) d_Ma_sameFrom_34 rfl ?_
          refine G_loc (lv' := [(0, .ref (eA E 27)), (1, .int (zI ad)), (2, .int (zI here)), (3, .int (zI (r1 + 1)))]) [1, 2, 3, 0] rfl ?_
          exact ih5 (r1 + 1) f2 (by omega) (by omega) (hs.trans (cnt_go (by omega) (decide_eq_true ⟨by omega, by omega⟩)))  (Fr.tr Fr.rf k3 (by decide))
  refine G_loc (lv' := [(0, .ref (eA E 27)), (1, .int (zI ad)), (2, .int (zI here)), (3, .int (zI 0))]) [1, 2, 3, 0] rfl ?_
  exact loop1 (_ + 1) 0 f (Nat.lt_succ_self _) (by omega) rfl  Fr.rf
theorem c_Ma_sameBefore (E : EV) (f : Nat → va_E) (h : Int → Int) (so en ch mA mS : Int) (here add : Int) (hM : isMa E f h so en ch mA mS) (hB : isB h) (hso : 0 ≤ so ∧ so ≤ en ∧ en ≤ 556) (hh : 0 ≤ add ∧ add ≤ here ∧ here ≤ en ∧ -1 ≤ mA ∧ mA ≤ here) : CF yn_Ma_sameBefore cd_Ma_sameBefore 4 (some (.int)) 0 E [.ref (eA E 27), .int (zI here), .int (zI add)] f (fun r f' => r = some (.int (zI (sbF h mA here add))) ∧ f' = f) := by
  refine CF.of (by decide +kernel) (Nat.le_of_ble_eq_true rfl) fun X hX hE => ?_
  have hX : Ok E X "DeltaFerry$Matcher" "sameBefore" cd_Ma_sameBefore 4 (some (.int)) (rl 0) := hX
  refine G_cast (lv' := [(0, .ref (eA E 27)), (1, .int (zI here)), (2, .int (zI add))]) ?_ rfl rfl rfl rfl
  refine G_iconst hX d_Ma_sameBefore_0 ?_
  refine G_istore_n hX (lv' := [(3, .int (zI 0)), (0, .ref (eA E 27)), (1, .int (zI here)), (2, .int (zI add))]) rfl (by decide) rfl d_Ma_sameBefore_1 ?_
  have loop1 : ∀ (q : Nat) (r1 : Int) (f2 : Nat → va_E), (add - r1).toNat < q → (0 ≤ r1 ∧ r1 ≤ add) → (sbF h mA here add = cntF (fun r => decide (r < add ∧ r < mA ∧ h (mA - r - 1) = h (here - r - 1))) (add) r1) → Fr [] f f2 → G E X 0 0 2 [(0, .ref (eA E 27)), (1, .int (zI here)), (2, .int (zI add)), (3, .int (zI r1))] [] (wl E f2) := by
    intro q
    induction q with
    | zero => intro r1 f2 hms4; exact absurd hms4 (Nat.not_lt_zero _)
    | succ q ih5 =>
      intro r1 f2 hms4 ht hs k3
      refine G_iload_n hX 3 rfl rfl d_Ma_sameBefore_2 ?_
      refine G_iload_n hX 2 rfl rfl d_Ma_sameBefore_3 ?_
      refine G_icmp_ge_z hX (tgt := 47) d_Ma_sameBefore_4 rfl (by omega) (fun c6 => ?_) (fun c7 => ?_)
      · skip
        refine G_iload_n hX 3 rfl rfl d_Ma_sameBefore_47 ?_
        exact F_iret hX hE d_Ma_sameBefore_48 ⟨by rw [hs, cnt_stop (Or.inl (decide_eq_false (by omega)))], funext fun x => k3 x List.not_mem_nil⟩
      · skip
        refine G_iload_n hX 3 rfl rfl d_Ma_sameBefore_7 ?_
        refine G_aload_n hX 0 rfl rfl d_Ma_sameBefore_8 ?_
        have h8 : f2 27 = ob 3 [.ref (eA E 28), .int (zI so), .int (zI en), .int (zI ch), .int (zI mA), .int (zI mS)] := (k3 27 (List.not_mem_nil)).trans hM.1
        refine F_get hX fg_Ma_67 d_Ma_sameBefore_9 27 (by decide) h8 rfl ?_
        refine G_icmp_ge_z hX (tgt := 47) d_Ma_sameBefore_12 rfl (by omega) (fun c9 => ?_) (fun c10 => ?_)
        · skip
          refine G_iload_n hX 3 rfl rfl d_Ma_sameBefore_47 ?_
          exact F_iret hX hE d_Ma_sameBefore_48 ⟨by rw [hs, cnt_stop (Or.inl (decide_eq_false (by omega)))], funext fun x => k3 x List.not_mem_nil⟩
        · skip
          refine G_aload_n hX 0 rfl rfl d_Ma_sameBefore_15 ?_
          refine F_get hX fg_Ma_9 d_Ma_sameBefore_16 27 (by decide) h8 rfl ?_
          refine G_aload_n hX 0 rfl rfl d_Ma_sameBefore_19 ?_
          refine F_get hX fg_Ma_67 d_Ma_sameBefore_20 27 (by decide) h8 rfl ?_
          refine G_iload_n hX 3 rfl rfl d_Ma_sameBefore_23 ?_
          refine G_isub_z hX d_Ma_sameBefore_24 ?_
          refine G_iconst hX d_Ma_sameBefore_25 ?_
          refine G_isub_z hX d_Ma_sameBefore_26 ?_
          have h11 : f2 28 = iz E 556 h := (k3 28 (List.not_mem_nil)).trans hM.2
          refine F_iald hX d_Ma_sameBefore_27 28 (by decide) h11 (by omega) ?_
          have b12 := hB ((mA - r1) - 1)
          refine G_aload_n hX 0 rfl rfl d_Ma_sameBefore_28 ?_
          refine F_get hX fg_Ma_9 d_Ma_sameBefore_29 27 (by decide) h8 rfl ?_
          refine G_iload_n hX 1 rfl rfl d_Ma_sameBefore_32 ?_
          refine G_iload_n hX 3 rfl rfl d_Ma_sameBefore_33 ?_
          refine G_isub_z hX d_Ma_sameBefore_34 ?_
          refine G_iconst hX d_Ma_sameBefore_35 ?_
          refine G_isub_z hX d_Ma_sameBefore_36 ?_
          refine F_iald hX d_Ma_sameBefore_37 28 (by decide) h11 (by omega) ?_
          have b13 := hB ((here - r1) - 1)
          refine G_icmp_ne_z hX (tgt := 47) d_Ma_sameBefore_38 rfl (by omega) (fun c14 => ?_) (fun c15 => ?_)
          · skip
            refine G_iload_n hX 3 rfl rfl d_Ma_sameBefore_47 ?_
            exact F_iret hX hE d_Ma_sameBefore_48 ⟨by rw [hs, cnt_stop (Or.inl (decide_eq_false (by omega)))], funext fun x => k3 x List.not_mem_nil⟩
          · skip
            refine G_iinc_z hX (lv' := [(3, .int (zI (r1 + 1))), (0, .ref (eA E 27)), (1, .int (zI here)), (2, .int (zI add))]) 3 rfl (by decide) rfl d_Ma_sameBefore_41 ?_
            refine G_goto hX (tgt := 2) d_Ma_sameBefore_44 rfl ?_
            refine G_loc (lv' := [(0, .ref (eA E 27)), (1, .int (zI here)), (2, .int (zI add)), (3, .int (zI (r1 + 1)))]) [1, 2, 3, 0] rfl ?_
            exact ih5 (r1 + 1) f2 (by omega) (by omega) (hs.trans (cnt_go (by omega) (decide_eq_true ⟨by omega, by omega, by omega⟩)))  (Fr.tr Fr.rf k3 (by decide))
  refine G_loc (lv' := [(0, .ref (eA E 27)), (1, .int (zI here)), (2, .int (zI add)), (3, .int (zI 0))]) [1, 2, 3, 0] rfl ?_
  exact loop1 (_ + 1) 0 f (Nat.lt_succ_self _) (by omega) rfl  Fr.rf
theorem c_Ma_isCandidate (E : EV) (f : Nat → va_E) (h : Int → Int) (so en ch mA mS : Int) (ad here : Int) (hM : isMa E f h so en ch mA mS) (hB : isB h) (hso : 0 ≤ so ∧ so ≤ en ∧ en ≤ 556) (hh : 0 ≤ ad ∧ ad < here ∧ here + 4 ≤ en) : CF yn_Ma_isCandidate cd_Ma_isCandidate 3 (some (.boolean)) 0 E [.ref (eA E 27), .int (zI ad), .int (zI here)] f (fun r f' => r = some (.int (zI (if cnP h so ad here then 1 else 0))) ∧ f' = f) := by
  refine CF.of (by decide +kernel) (Nat.le_of_ble_eq_true rfl) fun X hX hE => ?_
  have hX : Ok E X "DeltaFerry$Matcher" "isCandidate" cd_Ma_isCandidate 3 (some (.boolean)) (rl 0) := hX
  refine G_cast (lv' := [(0, .ref (eA E 27)), (1, .int (zI ad)), (2, .int (zI here))]) ?_ rfl rfl rfl rfl
  refine G_aload_n hX 0 rfl rfl d_Ma_isCandidate_0 ?_
  refine F_get hX fg_Ma_9 d_Ma_isCandidate_1 27 (by decide) hM.1 rfl ?_
  refine G_iload_n hX 1 rfl rfl d_Ma_isCandidate_4 ?_
  refine F_iald hX d_Ma_isCandidate_5 28 (by decide) hM.2 (by omega) ?_
  have b1 := hB ad
  refine G_aload_n hX 0 rfl rfl d_Ma_isCandidate_6 ?_
  refine F_get hX fg_Ma_9 d_Ma_isCandidate_7 27 (by decide) hM.1 rfl ?_
  refine G_iload_n hX 2 rfl rfl d_Ma_isCandidate_10 ?_
  refine F_iald hX d_Ma_isCandidate_11 28 (by decide) hM.2 (by omega) ?_
  have b2 := hB here
  refine G_icmp_ne_z hX (tgt := 33) d_Ma_isCandidate_12 rfl (by omega) (fun c3 => ?_) (fun c4 => ?_)
  · skip
    refine G_iconst hX d_Ma_isCandidate_33 ?_
    exact F_zret hX hE (by decide) d_Ma_isCandidate_34 ⟨by rw [if_neg (by omega)], rfl⟩
  · skip
    refine G_iload_n hX 1 rfl rfl d_Ma_isCandidate_15 ?_
    refine G_aload_n hX 0 rfl rfl d_Ma_isCandidate_16 ?_
    refine F_get hX fg_Ma_24 d_Ma_isCandidate_17 27 (by decide) hM.1 rfl ?_
    refine G_icmp_ge_z hX (tgt := 35) d_Ma_isCandidate_20 rfl (by omega) (fun c5 => ?_) (fun c6 => ?_)
    · skip
      refine G_aload_n hX 0 rfl rfl d_Ma_isCandidate_35 ?_
      refine F_get hX fg_Ma_9 d_Ma_isCandidate_36 27 (by decide) hM.1 rfl ?_
      refine G_iload_n hX 1 rfl rfl d_Ma_isCandidate_39 ?_
      refine G_iconst hX d_Ma_isCandidate_40 ?_
      refine G_iadd_z hX d_Ma_isCandidate_41 ?_
      refine F_iald hX d_Ma_isCandidate_42 28 (by decide) hM.2 (by omega) ?_
      have b7 := hB (ad + 1)
      refine G_aload_n hX 0 rfl rfl d_Ma_isCandidate_43 ?_
      refine F_get hX fg_Ma_9 d_Ma_isCandidate_44 27 (by decide) hM.1 rfl ?_
      refine G_iload_n hX 2 rfl rfl d_Ma_isCandidate_47 ?_
      refine G_iconst hX d_Ma_isCandidate_48 ?_
      refine G_iadd_z hX d_Ma_isCandidate_49 ?_
      refine F_iald hX d_Ma_isCandidate_50 28 (by decide) hM.2 (by omega) ?_
      have b8 := hB (here + 1)
      refine G_icmp_ne_z hX (tgt := 96) d_Ma_isCandidate_51 rfl (by omega) (fun c9 => ?_) (fun c10 => ?_)
      · skip
        refine G_iconst hX d_Ma_isCandidate_96 ?_
        exact F_zret hX hE (by decide) d_Ma_isCandidate_97 ⟨by rw [if_neg (by omega)], rfl⟩
      · skip
        refine G_aload_n hX 0 rfl rfl d_Ma_isCandidate_54 ?_
        refine F_get hX fg_Ma_9 d_Ma_isCandidate_55 27 (by decide) hM.1 rfl ?_
        refine G_iload_n hX 1 rfl rfl d_Ma_isCandidate_58 ?_
        refine G_iconst hX d_Ma_isCandidate_59 ?_
        refine G_iadd_z hX d_Ma_isCandidate_60 ?_
        refine F_iald hX d_Ma_isCandidate_61 28 (by decide) hM.2 (by omega) ?_
        have b11 := hB (ad + 2)
        refine G_aload_n hX 0 rfl rfl d_Ma_isCandidate_62 ?_
        refine F_get hX fg_Ma_9 d_Ma_isCandidate_63 27 (by decide) hM.1 rfl ?_
        refine G_iload_n hX 2 rfl rfl d_Ma_isCandidate_66 ?_
        refine G_iconst hX d_Ma_isCandidate_67 ?_
        refine G_iadd_z hX d_Ma_isCandidate_68 ?_
        refine F_iald hX d_Ma_isCandidate_69 28 (by decide) hM.2 (by omega) ?_
        have b12 := hB (here + 2)
        refine G_icmp_ne_z hX (tgt := 96) d_Ma_isCandidate_70 rfl (by omega) (fun c13 => ?_) (fun c14 => ?_)
        · skip
          refine G_iconst hX d_Ma_isCandidate_96 ?_
          exact F_zret hX hE (by decide) d_Ma_isCandidate_97 ⟨by rw [if_neg (by omega)], rfl⟩
        · skip
          refine G_aload_n hX 0 rfl rfl d_Ma_isCandidate_73 ?_
          refine F_get hX fg_Ma_9 d_Ma_isCandidate_74 27 (by decide) hM.1 rfl ?_
          refine G_iload_n hX 1 rfl rfl d_Ma_isCandidate_77 ?_
          refine G_iconst hX d_Ma_isCandidate_78 ?_
          refine G_iadd_z hX d_Ma_isCandidate_79 ?_
          refine F_iald hX d_Ma_isCandidate_80 28 (by decide) hM.2 (by omega) ?_
          have b15 := hB (ad + 3)
          refine G_aload_n hX 0 rfl rfl d_Ma_isCandidate_81 ?_
          refine F_get hX fg_Ma_9 d_Ma_isCandidate_82 27 (by decide) hM.1 rfl ?_
          refine G_iload_n hX 2 rfl rfl d_Ma_isCandidate_85 ?_
          refine G_iconst hX d_Ma_isCandidate_86 ?_
          refine G_iadd_z hX d_Ma_isCandidate_87 ?_
          refine F_iald hX d_Ma_isCandidate_88 28 (by decide) hM.2 (by omega) ?_
          have b16 := hB (here + 3)
          refine G_icmp_ne_z hX (tgt := 96) d_Ma_isCandidate_89 rfl (by omega) (fun c17 => ?_) (fun c18 => ?_)
          · skip
            refine G_iconst hX d_Ma_isCandidate_96 ?_
            exact F_zret hX hE (by decide) d_Ma_isCandidate_97 ⟨by rw [if_neg (by omega)], rfl⟩
          · skip
            refine G_iconst hX d_Ma_isCandidate_92 ?_
            refine G_goto hX (tgt := 97) d_Ma_isCandidate_93 rfl ?_
            exact F_zret hX hE (by decide) d_Ma_isCandidate_97 ⟨by rw [if_pos (by omega)], rfl⟩
    · skip
      refine G_iload_n hX 1 rfl rfl d_Ma_isCandidate_23 ?_
      refine G_iconst hX d_Ma_isCandidate_24 ?_
      refine G_iadd_z hX d_Ma_isCandidate_25 ?_
      refine G_aload_n hX 0 rfl rfl d_Ma_isCandidate_26 ?_
      refine F_get hX fg_Ma_24 d_Ma_isCandidate_27 27 (by decide) hM.1 rfl ?_
      refine G_icmp_le_z hX (tgt := 35) d_Ma_isCandidate_30 rfl (by omega) (fun c19 => ?_) (fun c20 => ?_)
      · skip
        refine G_aload_n hX 0 rfl rfl d_Ma_isCandidate_35 ?_
        refine F_get hX fg_Ma_9 d_Ma_isCandidate_36 27 (by decide) hM.1 rfl ?_
        refine G_iload_n hX 1 rfl rfl d_Ma_isCandidate_39 ?_
        refine G_iconst hX d_Ma_isCandidate_40 ?_
        refine G_iadd_z hX d_Ma_isCandidate_41 ?_
        refine F_iald hX d_Ma_isCandidate_42 28 (by decide) hM.2 (by omega) ?_
        have b21 := hB (ad + 1)
        refine G_aload_n hX 0 rfl rfl d_Ma_isCandidate_43 ?_
        refine F_get hX fg_Ma_9 d_Ma_isCandidate_44 27 (by decide) hM.1 rfl ?_
        refine G_iload_n hX 2 rfl rfl d_Ma_isCandidate_47 ?_
        refine G_iconst hX d_Ma_isCandidate_48 ?_
        refine G_iadd_z hX d_Ma_isCandidate_49 ?_
        refine F_iald hX d_Ma_isCandidate_50 28 (by decide) hM.2 (by omega) ?_
        have b22 := hB (here + 1)
        refine G_icmp_ne_z hX (tgt := 96) d_Ma_isCandidate_51 rfl (by omega) (fun c23 => ?_) (fun c24 => ?_)
        · skip
          refine G_iconst hX d_Ma_isCandidate_96 ?_
          exact F_zret hX hE (by decide) d_Ma_isCandidate_97 ⟨by rw [if_neg (by omega)], rfl⟩
        · skip
          refine G_aload_n hX 0 rfl rfl d_Ma_isCandidate_54 ?_
          refine F_get hX fg_Ma_9 d_Ma_isCandidate_55 27 (by decide) hM.1 rfl ?_
          refine G_iload_n hX 1 rfl rfl d_Ma_isCandidate_58 ?_
          refine G_iconst hX d_Ma_isCandidate_59 ?_
          refine G_iadd_z hX d_Ma_isCandidate_60 ?_
          refine F_iald hX d_Ma_isCandidate_61 28 (by decide) hM.2 (by omega) ?_
          have b25 := hB (ad + 2)
          refine G_aload_n hX 0 rfl rfl d_Ma_isCandidate_62 ?_
          refine F_get hX fg_Ma_9 d_Ma_isCandidate_63 27 (by decide) hM.1 rfl ?_
          refine G_iload_n hX 2 rfl rfl d_Ma_isCandidate_66 ?_
          refine G_iconst hX d_Ma_isCandidate_67 ?_
          refine G_iadd_z hX d_Ma_isCandidate_68 ?_
          refine F_iald hX d_Ma_isCandidate_69 28 (by decide) hM.2 (by omega) ?_
          have b26 := hB (here + 2)
          refine G_icmp_ne_z hX (tgt := 96) d_Ma_isCandidate_70 rfl (by omega) (fun c27 => ?_) (fun c28 => ?_)
          · skip
            refine G_iconst hX d_Ma_isCandidate_96 ?_
            exact F_zret hX hE (by decide) d_Ma_isCandidate_97 ⟨by rw [if_neg (by omega)], rfl⟩
          · skip
            refine G_aload_n hX 0 rfl rfl d_Ma_isCandidate_73 ?_
            refine F_get hX fg_Ma_9 d_Ma_isCandidate_74 27 (by decide) hM.1 rfl ?_
            refine G_iload_n hX 1 rfl rfl d_Ma_isCandidate_77 ?_
            refine G_iconst hX d_Ma_isCandidate_78 ?_
            refine G_iadd_z hX d_Ma_isCandidate_79 ?_
            refine F_iald hX d_Ma_isCandidate_80 28 (by decide) hM.2 (by omega) ?_
            have b29 := hB (ad + 3)
            refine G_aload_n hX 0 rfl rfl d_Ma_isCandidate_81 ?_
            refine F_get hX fg_Ma_9 d_Ma_isCandidate_82 27 (by decide) hM.1 rfl ?_
            refine G_iload_n hX 2 rfl rfl d_Ma_isCandidate_85 ?_
            refine G_iconst hX d_Ma_isCandidate_86 ?_
            refine G_iadd_z hX d_Ma_isCandidate_87 ?_
            refine F_iald hX d_Ma_isCandidate_88 28 (by decide) hM.2 (by omega) ?_
            have b30 := hB (here + 3)
            refine G_icmp_ne_z hX (tgt := 96) d_Ma_isCandidate_89 rfl (by omega) (fun c31 => ?_) (fun c32 => ?_)
            · skip
              refine G_iconst hX d_Ma_isCandidate_96 ?_
              exact F_zret hX hE (by decide) d_Ma_isCandidate_97 ⟨by rw [if_neg (by omega)], rfl⟩
            · skip
              refine G_iconst hX d_Ma_isCandidate_92 ?_
              refine G_goto hX (tgt := 97) d_Ma_isCandidate_93 rfl ?_
              exact F_zret hX hE (by decide) d_Ma_isCandidate_97 ⟨by rw [if_pos (by omega)], rfl⟩
      · skip
        refine G_iconst hX d_Ma_isCandidate_33 ?_
        exact F_zret hX hE (by decide) d_Ma_isCandidate_34 ⟨by rw [if_neg (by omega)], rfl⟩
theorem c_Ma_findMatch (E : EV) (f : Nat → va_E) (h : Int → Int) (so en ch mA mS : Int) (here : Int) (hM : isMa E f h so en ch mA mS) (hB : isB h) (hso : 0 ≤ so ∧ so ≤ en ∧ en ≤ 556) (hh : 0 ≤ here ∧ here ≤ en) (hch : 1 ≤ ch ∧ ch ≤ 16) : CF yn_Ma_findMatch cd_Ma_findMatch 5 none 1 E [.ref (eA E 27), .int (zI here)] f (fun r f' => r = none ∧ isMa E f' h so en ch (fmF h so en ch here).1 (fmF h so en ch here).2 ∧ Fr [27] f f') := by
  refine CF.of (by decide +kernel) (Nat.le_of_ble_eq_true rfl) fun X hX hE => ?_
  have hX : Ok E X "DeltaFerry$Matcher" "findMatch" cd_Ma_findMatch 5 none (rl 1) := hX
  refine G_cast (lv' := [(0, .ref (eA E 27)), (1, .int (zI here))]) ?_ rfl rfl rfl rfl
  refine G_aload_n hX 0 rfl rfl d_Ma_findMatch_0 ?_
  refine G_iconst hX d_Ma_findMatch_1 ?_
  refine F_put hX fg_Ma_51 fp_Ma_5 d_Ma_findMatch_2 27 (fs' := [.ref (eA E 28), .int (zI so), .int (zI en), .int (zI ch), .int (zI mA), .int (zI 0)]) (by decide) hM.1 rfl rfl (Nat.le_of_ble_eq_true rfl) rfl (fun f1 h2 k3 => ?_)
  refine G_aload_n hX 0 rfl rfl d_Ma_findMatch_5 ?_
  refine G_iconst hX d_Ma_findMatch_6 ?_
  refine F_put hX fg_Ma_67 fp_Ma_4 d_Ma_findMatch_7 27 (fs' := [.ref (eA E 28), .int (zI so), .int (zI en), .int (zI ch), .int (zI (-1)), .int (zI 0)]) (by decide) h2 rfl rfl (Nat.le_of_ble_eq_true rfl) rfl (fun f4 h5 k6 => ?_)
  refine G_iload_n hX 1 rfl rfl d_Ma_findMatch_10 ?_
  refine G_iconst hX d_Ma_findMatch_11 ?_
  refine G_iadd_z hX d_Ma_findMatch_12 ?_
  refine G_aload_n hX 0 rfl rfl d_Ma_findMatch_13 ?_
  refine F_get hX fg_Ma_40 d_Ma_findMatch_14 27 (by decide) h5 rfl ?_
  refine G_icmp_le_z hX (tgt := 21) d_Ma_findMatch_17 rfl (by omega) (fun c7 => ?_) (fun c8 => ?_)
  · skip
    refine G_iconst hX d_Ma_findMatch_21 ?_
    refine G_istore_n hX (lv' := [(2, .int (zI 0)), (0, .ref (eA E 27)), (1, .int (zI here))]) rfl (by decide) rfl d_Ma_findMatch_22 ?_
    refine G_iload_n hX 2 rfl rfl d_Ma_findMatch_23 ?_
    refine G_iconst hX d_Ma_findMatch_24 ?_
    refine G_isub_z hX d_Ma_findMatch_25 ?_
    refine G_istore_n hX (lv' := [(3, .int (zI (here - 1))), (2, .int (zI 0)), (0, .ref (eA E 27)), (1, .int (zI here))]) rfl (by decide) rfl d_Ma_findMatch_26 ?_
    have loop9 : ∀ (q : Nat) (ad : Int) (sn : Int) (a1 : Int) (s1 : Int) (f10 : Nat → va_E), (ad + 1).toNat < q → (-1 ≤ ad ∧ ad < here) → (0 ≤ sn ∧ sn ≤ here - 1 - ad) → (0 ≤ s1 ∧ s1 ≤ en - here) → (fmF h so en ch here = fmL h so en ch here (ad + 1).toNat ad sn a1 s1) → f10 27 = ob 3 [.ref (eA E 28), .int (zI so), .int (zI en), .int (zI ch), .int (zI a1), .int (zI s1)] → Fr [27] f4 f10 → G E X 0 0 27 [(0, .ref (eA E 27)), (1, .int (zI here)), (2, .int (zI sn)), (3, .int (zI ad))] [] (wl E f10) := by
      intro q
      induction q with
      | zero => intro ad sn a1 s1 f10 hms12; exact absurd hms12 (Nat.not_lt_zero _)
      | succ q ih13 =>
        intro ad sn a1 s1 f10 hms12 had hsn hs1 hs h14 k11
        have hsb := fun h5 => cnt_b (p := fun r => decide (here + r < en ∧ h (ad + r) = h (here + r))) (B := en - here) (r := 0) h5
        refine G_iload_n hX 3 rfl rfl d_Ma_findMatch_27 ?_
        refine G_if_lt_z hX (tgt := 85) d_Ma_findMatch_28 rfl (by omega) (fun c15 => ?_) (fun c16 => ?_)
        · skip
          have e1 : fmF h so en ch here = (a1, s1) := by
            rw [hs]
            by_cases h0 : 0 ≤ ad
            · rw [fmL_s h0, if_neg (by omega)]
            · rw [show (ad + 1).toNat = 0 by omega]; rfl
          rw [e1] at hE
          have h17 : f10 28 = iz E 556 h := (k11 28 (by decide)).trans ((k6 28 (by decide)).trans ((k3 28 (by decide)).trans hM.2))
          exact F_vret hX hE d_Ma_findMatch_85 ⟨rfl, ⟨h14, h17⟩, (Fr.tr (Fr.tr (Fr.tr Fr.rf k3 (by decide)) k6 (by decide)) k11 (by decide))⟩
        · skip
          refine G_iload_n hX 2 rfl rfl d_Ma_findMatch_31 ?_
          refine G_aload_n hX 0 rfl rfl d_Ma_findMatch_32 ?_
          refine F_get hX fg_Ma_15 d_Ma_findMatch_33 27 (by decide) h14 rfl ?_
          refine G_icmp_ge_z hX (tgt := 85) d_Ma_findMatch_36 rfl (by omega) (fun c18 => ?_) (fun c19 => ?_)
          · skip
            have e1 : fmF h so en ch here = (a1, s1) := by
              rw [hs]
              by_cases h0 : 0 ≤ ad
              · rw [fmL_s h0, if_neg (by omega)]
              · rw [show (ad + 1).toNat = 0 by omega]; rfl
            rw [e1] at hE
            have h20 : f10 28 = iz E 556 h := (k11 28 (by decide)).trans ((k6 28 (by decide)).trans ((k3 28 (by decide)).trans hM.2))
            exact F_vret hX hE d_Ma_findMatch_85 ⟨rfl, ⟨h14, h20⟩, (Fr.tr (Fr.tr (Fr.tr Fr.rf k3 (by decide)) k6 (by decide)) k11 (by decide))⟩
          · skip
            refine G_aload_n hX 0 rfl rfl d_Ma_findMatch_39 ?_
            refine G_iload_n hX 3 rfl rfl d_Ma_findMatch_40 ?_
            refine G_iload_n hX 1 rfl rfl d_Ma_findMatch_41 ?_
            have h21 : f10 28 = iz E 556 h := (k11 28 (by decide)).trans ((k6 28 (by decide)).trans ((k3 28 (by decide)).trans hM.2))
            refine F_callV hX (st := []) (c_Ma_isCandidate E f10 h so en ch a1 s1 ad here ⟨h14, h21⟩ hB (by omega) (by omega)) cm_Ma_isCandidate im_Ma_isCandidate se_Ma_isCandidate rfl ml_Ma_70 d_Ma_findMatch_42 (by decide) h14 rfl rfl (Nat.le_of_ble_eq_true rfl) (by decide) ?_
            rintro _ f22 ⟨rfl, e25⟩
            obtain rfl := e25.symm
            refine G_cast (st' := [.int (zI (if cnP h so ad here then 1 else 0))]) ?_ rfl rfl rfl rfl
            by_cases hcn : cnP h so ad here
            · skip
              refine G_top (show zI (if cnP h so ad here then 1 else 0) = zI 1 from by rw [if_pos hcn]) ?_
              refine G_if_eq_z hX (tgt := 79) d_Ma_findMatch_45 rfl (by omega) (fun c26 => by exfalso; omega) (fun c27 => ?_)
              refine G_iinc_z hX (lv' := [(2, .int (zI (sn + 1))), (0, .ref (eA E 27)), (1, .int (zI here)), (3, .int (zI ad))]) 2 rfl (by decide) rfl d_Ma_findMatch_48 ?_
              refine G_aload_n hX 1 rfl rfl d_Ma_findMatch_51 ?_
              refine G_iload_n hX 3 rfl rfl d_Ma_findMatch_52 ?_
              refine G_iload_n hX 2 rfl rfl d_Ma_findMatch_53 ?_
              refine F_callV hX (st := []) (c_Ma_sameFrom E f10 h so en ch a1 s1 ad here ⟨h14, h21⟩ hB (by omega) (by omega)) cm_Ma_sameFrom im_Ma_sameFrom se_Ma_sameFrom rfl ml_Ma_74 d_Ma_findMatch_54 (by decide) h14 rfl rfl (Nat.le_of_ble_eq_true rfl) (by decide) ?_
              rintro _ f28 ⟨rfl, e31⟩
              obtain rfl := e31.symm
              refine G_cast (st' := [.int (zI (smF h ad here en))]) ?_ rfl rfl rfl rfl
              refine G_istore hX (lv' := [(4, .int (zI (smF h ad here en))), (2, .int (zI (sn + 1))), (0, .ref (eA E 27)), (1, .int (zI here)), (3, .int (zI ad))]) (by decide) rfl d_Ma_findMatch_57 ?_
              have hsb2 : 0 ≤ smF h ad here en ∧ smF h ad here en ≤ en - here := hsb (by omega)
              refine G_iload hX 0 rfl d_Ma_findMatch_59 ?_
              refine G_aload_n hX 2 rfl rfl d_Ma_findMatch_61 ?_
              refine F_get hX fg_Ma_51 d_Ma_findMatch_62 27 (by decide) h14 rfl ?_
              refine G_icmp_le_z hX (tgt := 79) d_Ma_findMatch_65 rfl (by omega) (fun c32 => ?_) (fun c33 => ?_)
              · skip
                refine G_iinc_z hX (lv' := [(3, .int (zI (ad + (-1)))), (4, .int (zI (smF h ad here en))), (2, .int (zI (sn + 1))), (0, .ref (eA E 27)), (1, .int (zI here))]) 4 rfl (by decide) rfl d_Ma_findMatch_79 ?_
                refine G_goto hX (tgt := 27) d_Ma_findMatch_82 rfl ?_
                refine G_loc (lv' := [(0, .ref (eA E 27)), (1, .int (zI here)), (2, .int (zI (sn + 1))), (3, .int (zI (ad + (-1))))]) [3, 4, 2, 0] rfl ?_
                refine G_cast (ih13 (ad - 1) (sn + 1) a1 s1 f10 (by omega) (by omega) (by omega) (by omega) (by rw [hs, fmL_s (by omega), if_pos (by omega), if_pos hcn, if_neg (by omega)]) h14 (Fr.tr Fr.rf k11 (by decide))) rfl (by rw [show ad - 1 = ad + (-1) by omega]) rfl rfl
              · skip
                refine G_aload_n hX 2 rfl rfl d_Ma_findMatch_68 ?_
                refine G_iload hX 0 rfl d_Ma_findMatch_69 ?_
                refine F_put hX fg_Ma_51 fp_Ma_5 d_Ma_findMatch_71 27 (fs' := [.ref (eA E 28), .int (zI so), .int (zI en), .int (zI ch), .int (zI a1), .int (zI (smF h ad here en))]) (by decide) h14 rfl rfl (Nat.le_of_ble_eq_true rfl) rfl (fun f34 h35 k36 => ?_)
                refine G_aload_n hX 2 rfl rfl d_Ma_findMatch_74 ?_
                refine G_iload_n hX 4 rfl rfl d_Ma_findMatch_75 ?_
                refine F_put hX fg_Ma_67 fp_Ma_4 d_Ma_findMatch_76 27 (fs' := [.ref (eA E 28), .int (zI so), .int (zI en), .int (zI ch), .int (zI ad), .int (zI (smF h ad here en))]) (by decide) h35 rfl rfl (Nat.le_of_ble_eq_true rfl) rfl (fun f37 h38 k39 => ?_)
                refine G_iinc_z hX (lv' := [(3, .int (zI (ad + (-1)))), (4, .int (zI (smF h ad here en))), (2, .int (zI (sn + 1))), (0, .ref (eA E 27)), (1, .int (zI here))]) 4 rfl (by decide) rfl d_Ma_findMatch_79 ?_
                refine G_goto hX (tgt := 27) d_Ma_findMatch_82 rfl ?_
                refine G_loc (lv' := [(0, .ref (eA E 27)), (1, .int (zI here)), (2, .int (zI (sn + 1))), (3, .int (zI (ad + (-1))))]) [3, 4, 2, 0] rfl ?_
                refine G_cast (ih13 (ad - 1) (sn + 1) ad (smF h ad here en) f37 (by omega) (by omega) (by omega) (by omega) (by rw [hs, fmL_s (by omega), if_pos (by omega), if_pos hcn, if_pos (by omega)]) h38 (Fr.tr (Fr.tr (Fr.tr Fr.rf k11 (by decide)) k36 (by decide)) k39 (by decide))) rfl (by rw [show ad - 1 = ad + (-1) by omega]) rfl rfl
            · skip
              refine G_top (show zI (if cnP h so ad here then 1 else 0) = zI 0 from by rw [if_neg hcn]) ?_
              refine G_if_eq_z hX (tgt := 79) d_Ma_findMatch_45 rfl (by omega) (fun c40 => ?_) (fun c41 => by exfalso; omega)
              refine G_iinc_z hX (lv' := [(3, .int (zI (ad + (-1)))), (0, .ref (eA E 27)), (1, .int (zI here)), (2, .int (zI sn))]) 3 rfl (by decide) rfl d_Ma_findMatch_79 ?_
              refine G_goto hX (tgt := 27) d_Ma_findMatch_82 rfl ?_
              refine G_loc (lv' := [(0, .ref (eA E 27)), (1, .int (zI here)), (2, .int (zI sn)), (3, .int (zI (ad + (-1))))]) [1, 2, 3, 0] rfl ?_
              refine G_cast (ih13 (ad - 1) sn a1 s1 f10 (by omega) (by omega) (by omega) (by omega) (by rw [hs, fmL_s (by omega), if_pos (by omega), if_neg hcn]) h14 (Fr.tr Fr.rf k11 (by decide))) rfl (by rw [show ad - 1 = ad + (-1) by omega]) rfl rfl
    refine G_loc (lv' := [(0, .ref (eA E 27)), (1, .int (zI here)), (2, .int (zI 0)), (3, .int (zI (here - 1)))]) [2, 3, 1, 0] rfl ?_
    exact loop9 (_ + 1) (here - 1) 0 (-1) 0 f4 (Nat.lt_succ_self _) (by omega) (by omega) (by omega) (by unfold fmF; rw [if_neg (by omega), show here - 1 + 1 = here by omega]) h5 Fr.rf
  · skip
    have e1 : fmF h so en ch here = (-1, 0) := by unfold fmF; rw [if_pos (by omega)]
    rw [e1] at hE
    have h42 : f4 28 = iz E 556 h := (k6 28 (by decide)).trans ((k3 28 (by decide)).trans hM.2)
    exact F_vret hX hE d_Ma_findMatch_20 ⟨rfl, ⟨h5, h42⟩, (Fr.tr (Fr.tr Fr.rf k3 (by decide)) k6 (by decide))⟩
