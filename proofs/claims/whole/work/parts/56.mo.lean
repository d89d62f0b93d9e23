/-! DeltaFerryModel: differ, instruction; printed by wip/tools/m_mo6.py -/
def encF (m : Int × Int) : Int := if m.2 = 0 then 0 else 1000 * m.1 + m.2
theorem enc_m {m : Int × Int} (h : 0 ≤ m.2 ∧ m.2 < 1000) : encF m % 1000 = m.2 := by
  unfold encF; split <;> omega
theorem enc_d {m : Int × Int} (h : 0 < m.2 ∧ m.2 < 1000) : encF m / 1000 = m.1 := by
  unfold encF; split <;> omega
theorem enc_b {m : Int × Int} (h : 0 ≤ m.2 ∧ m.2 < 1000) (h2 : -1 ≤ m.1 ∧ m.1 < 1000) (h3 : 0 < m.2 → 0 ≤ m.1) : 0 ≤ encF m ∧ encF m < 1001000 := by
  unfold encF; split <;> omega
theorem appA_p {P : PS} {ad num : Int} (h : 0 < ad) : appA P ad num = plApp P 1 ad (-1) num := if_pos h
theorem appA_n {P : PS} {ad num : Int} (h : ¬ 0 < ad) : appA P ad num = P := if_neg h
theorem appA_C {P : PS} {ad num : Int} : pC (appA P ad num) = pC P + (if 0 < ad then 1 else 0) := by
  by_cases h : 0 < ad
  · rw [appA_p h, if_pos h]; rfl
  · rw [appA_n h, if_neg h, Int.add_zero]
/-- the plan does not end with an ADD of the window -/
def noA (P : PS) (num : Int) : Prop := 0 < pC P → ¬ (pT P (pC P - 1) = 1 ∧ pN P (pC P - 1) = num)
abbrev iaP (mt mn : Int → Int) (pl num : Int) : Prop := 0 < pl ∧ mt (pl - 1) = 1 ∧ mn (pl - 1) = num
theorem ia_p {mt ms ma mn : Int → Int} {P : PS} {ad num pl : Int} (h : plE mt ms ma mn (appA P ad num)) (hpl : pl = pC (appA P ad num)) (hc : 0 ≤ pC P) (ha : 0 < ad) : iaP mt mn pl num ∧ ms (pl - 1) = ad ∧ pl - 1 = pC P := by
  rw [appA_p ha] at h hpl
  have hl := app_last P 1 ad (-1) num
  have hp : pl = pC P + 1 := hpl
  have h1 := h (pC P) hc (show pC P < pC P + 1 by omega)
  rw [hl.2.1, hl.2.2.1, hl.2.2.2.1, hl.2.2.2.2] at h1
  rw [show pl - 1 = pC P by omega]
  exact ⟨⟨by omega, by rw [show pl - 1 = pC P by omega]; exact h1.1, by rw [show pl - 1 = pC P by omega]; exact h1.2.2.2⟩, h1.2.1, rfl⟩
theorem ia_n {mt ms ma mn : Int → Int} {P : PS} {ad num pl : Int} (h : plE mt ms ma mn (appA P ad num)) (hpl : pl = pC (appA P ad num)) (hn : noA P num) (ha : ¬ 0 < ad) : ¬ iaP mt mn pl num := by
  rw [appA_n ha] at h hpl
  rintro ⟨h1, h2, h3⟩
  rw [hpl] at h1 h2 h3
  have h4 := h (pC P - 1) (by omega) (by omega)
  exact hn h1 ⟨h4.1.symm.trans h2, h4.2.2.2.symm.trans h3⟩
theorem ia_b {mt ms ma mn : Int → Int} {P : PS} {pl : Int} (h : plE mt ms ma mn P) (hpl : pl = pC P) (hB : plB P) : 0 < pl → (0 ≤ mt (pl - 1) ∧ mt (pl - 1) ≤ 3) ∧ 0 ≤ mn (pl - 1) ∧ mn (pl - 1) ≤ 300 := by
  intro h1
  have h4 := h (pl - 1) (by omega) (by omega)
  have h5 := hB (pl - 1)
  rw [h4.1, h4.2.2.2]
  exact ⟨h5.1, h5.2.2.2⟩
theorem plE_sz {mt ms ma mn : Int → Int} {P : PS} {num ad v q : Int} (h : plE mt ms ma mn (appA P ad num)) (ha : 0 < ad) (hv : 0 ≤ v) (hq : q = pC P) : plE mt (uz ms q v) ma mn (appA P v num) := by
  rw [appA_p ha] at h
  subst hq
  by_cases h0 : 0 < v
  · rw [appA_p h0]
    intro i hi hi2
    have h1 := h i hi hi2
    refine ⟨h1.1, ?_, h1.2.2.1, h1.2.2.2⟩
    show (if i = pC P then v else ms i) = (if i = pC P then v else pS P i)
    by_cases e : i = pC P
    · rw [if_pos e, if_pos e]
    · rw [if_neg e, if_neg e]
      exact h1.2.1.trans (if_neg e)
  · rw [appA_n h0]
    intro i hi hi2
    have h1 := h i hi (show i < pC P + 1 by omega)
    have e : ¬ i = pC P := by omega
    exact ⟨h1.1.trans (if_neg e), (if_neg e).trans (h1.2.1.trans (if_neg e)), h1.2.2.1.trans (if_neg e), h1.2.2.2.trans (if_neg e)⟩
theorem plE_one {mt ms ma mn : Int → Int} {P : PS} {num ad pl : Int} (h : plE mt ms ma mn (appA P ad num)) (ha : ¬ 0 < ad) (hpl : pl = pC (appA P ad num)) : plE (uz mt pl 1) (uz ms pl 1) (uz ma pl (-1)) (uz mn pl num) (appA P 1 num) := by
  rw [appA_n ha] at h hpl
  rw [appA_p (by decide), hpl]
  exact plE_app h rfl rfl rfl rfl
theorem plE_tl {mt ms ma mn : Int → Int} {P : PS} {t n a w pl : Int} (h : plE mt ms ma mn P) (hpl : pl = pC P) : plE (uz mt pl t) (uz ms pl n) (uz ma pl a) (uz mn pl w) (plApp P t n a w) := by
  rw [hpl]; exact plE_app h rfl rfl rfl rfl
theorem hc_lo {g0 g : Int → Int} {so x a : Int} (h : a < so) : hcF g0 g so x a = g0 a := if_pos h
theorem hc_hi {g0 g : Int → Int} {so x a i : Int} (h : ¬ a < so) (hi : i = x + (a - so)) : hcF g0 g so x a = g i := by rw [hi]; exact if_neg h
theorem hc_B {g0 g : Int → Int} {so x : Int} (h0 : isB g0) (h1 : isB g) : isB (hcF g0 g so x) := by
  intro a
  unfold hcF
  split
  · exact h0 a
  · exact h1 _
theorem noA_app {P : PS} {t n a w num : Int} (h : ¬ t = 1) : noA (plApp P t n a w) num := by
  intro _ q
  have hl := app_last P t n a w
  rw [hl.1, hl.2.1] at q
  exact h q.1
theorem cnt_t {p : Int → Prop} [DecidablePred p] {B r : Int} (h : r < B) (hp : p r) : cntF (fun r => decide (p r)) B r = cntF (fun r => decide (p r)) B (r + 1) := cnt_go h (decide_eq_true hp)
theorem cnt_f {p : Int → Prop} [DecidablePred p] {B r : Int} (hp : ¬ p r ∨ B ≤ r) : cntF (fun r => decide (p r)) B r = r := cnt_stop (hp.imp (fun q => decide_eq_false q) id)
theorem c_Mo_both (E : EV) (f : Nat → va_E) (F : Nat → Value) (a : Int) (so : Int) (bg : Int) (en : Int) (b : Int → Int) (h : Int → Int) (hMo : f 61 = mob F) (hmk : moK E F) (hF12 : F 12 = .int (zI so)) (hc63 : f 63 = iz E 1600 b) (hB : isB h) (hho : ∀ a, 0 ≤ a → a < so → b a = h a) (hhn : ∀ i, 0 ≤ i → i < en - bg → b (300 + bg + i) = h (so + i)) (hso : 0 ≤ so ∧ so ≤ 300 ∧ 0 ≤ bg ∧ bg ≤ en ∧ en ≤ 300) (ha : 0 ≤ a ∧ a < so + (en - bg)) : CF yn_Mo_both cd_Mo_both 3 (some (.int)) 0 E [.ref (eA E 61), .int (zI a), .int (zI bg)] f (fun r f' => r = some (.int (zI (h a))) ∧ f' = f) := by
  refine CF.of (by decide +kernel) (Nat.le_of_ble_eq_true rfl) fun X hX hE => ?_
  have hX : Ok E X "DeltaFerryModel" "both" cd_Mo_both 3 (some (.int)) (rl 0) := hX
  refine G_cast (lv' := [(0, .ref (eA E 61)), (1, .int (zI a)), (2, .int (zI bg))]) ?_ rfl rfl rfl rfl
  refine G_iload_n hX 1 rfl rfl d_Mo_both_0 ?_
  refine G_aload_n hX 0 rfl rfl d_Mo_both_1 ?_
  refine M_get hX fg_Mo_249 d_Mo_both_2 hMo (by decide) hF12 ?_
  refine G_icmp_ge_z hX (tgt := 17) d_Mo_both_5 rfl (by omega) (fun c1 => ?_) (fun c2 => ?_)
  · skip
    refine G_aload_n hX 0 rfl rfl d_Mo_both_17 ?_
    refine M_get hX fg_Mo_77 d_Mo_both_18 hMo (by decide) (hmk 1 63 (by decide)) ?_
    refine G_sipush hX (by decide) d_Mo_both_21 ?_
    refine G_iload_n hX 2 rfl rfl d_Mo_both_24 ?_
    refine G_iadd_z hX d_Mo_both_25 ?_
    refine G_iload_n hX 1 rfl rfl d_Mo_both_26 ?_
    refine G_iadd_z hX d_Mo_both_27 ?_
    refine G_aload_n hX 0 rfl rfl d_Mo_both_28 ?_
    refine M_get hX fg_Mo_249 d_Mo_both_29 hMo (by decide) hF12 ?_
    refine G_isub_z hX d_Mo_both_32 ?_
    refine F_iald hX d_Mo_both_33 63 (by decide) hc63 (by omega) ?_
    refine G_top (show zI (b (((300 + bg) + a) - so)) = zI (h a) from congrArg zI ((congrArg b (by omega)).trans ((hhn (a - so) (by omega) (by omega)).trans (congrArg h (by omega))))) ?_
    exact F_iret hX hE d_Mo_both_34 ⟨rfl, rfl⟩
  · skip
    refine G_aload_n hX 0 rfl rfl d_Mo_both_8 ?_
    refine M_get hX fg_Mo_77 d_Mo_both_9 hMo (by decide) (hmk 1 63 (by decide)) ?_
    refine G_iload_n hX 1 rfl rfl d_Mo_both_12 ?_
    refine F_iald hX d_Mo_both_13 63 (by decide) hc63 (by omega) ?_
    refine G_top (show zI (b a) = zI (h a) from congrArg zI (hho a (by omega) (by omega))) ?_
    refine G_goto hX (tgt := 34) d_Mo_both_14 rfl ?_
    exact F_iret hX hE d_Mo_both_34 ⟨rfl, rfl⟩
theorem c_Mo_matched (E : EV) (f : Nat → va_E) (F : Nat → Value) (a : Int) (p : Int) (so : Int) (bg : Int) (en : Int) (b : Int → Int) (h : Int → Int) (hMo : f 61 = mob F) (hmk : moK E F) (hF12 : F 12 = .int (zI so)) (hc63 : f 63 = iz E 1600 b) (hB : isB h) (hho : ∀ a, 0 ≤ a → a < so → b a = h a) (hhn : ∀ i, 0 ≤ i → i < en - bg → b (300 + bg + i) = h (so + i)) (hso : 0 ≤ so ∧ so ≤ 300 ∧ 0 ≤ bg ∧ bg ≤ en ∧ en ≤ 300) (ha : 0 ≤ a ∧ a < so + (p - bg)) (hp : bg ≤ p ∧ p ≤ en) : CF yn_Mo_matched cd_Mo_matched 6 (some (.int)) 1 E [.ref (eA E 61), .int (zI a), .int (zI p), .int (zI bg), .int (zI en)] f (fun r f' => r = some (.int (zI (smF h a (so + (p - bg)) (so + (en - bg))))) ∧ f' = f) := by
  refine CF.of (by decide +kernel) (Nat.le_of_ble_eq_true rfl) fun X hX hE => ?_
  have hX : Ok E X "DeltaFerryModel" "matched" cd_Mo_matched 6 (some (.int)) (rl 1) := hX
  refine G_cast (lv' := [(0, .ref (eA E 61)), (1, .int (zI a)), (2, .int (zI p)), (3, .int (zI bg)), (4, .int (zI en))]) ?_ rfl rfl rfl rfl
  refine G_iconst hX d_Mo_matched_0 ?_
  refine G_istore hX (lv' := [(5, .int (zI 0)), (0, .ref (eA E 61)), (1, .int (zI a)), (2, .int (zI p)), (3, .int (zI bg)), (4, .int (zI en))]) (by decide) rfl d_Mo_matched_1 ?_
  have loop1 : ∀ (q : Nat) (n : Int) (f2 : Nat → va_E), (en - p - n).toNat < q → (0 ≤ n ∧ n ≤ en - p) → (smF h a (so + (p - bg)) (so + (en - bg)) = cntF (fun r => decide (so + (p - bg) + r < so + (en - bg) ∧ h (a + r) = h (so + (p - bg) + r))) (so + (en - bg) - (so + (p - bg))) n) → Fr [] f f2 → G E X 0 0 3 [(0, .ref (eA E 61)), (1, .int (zI a)), (2, .int (zI p)), (3, .int (zI bg)), (4, .int (zI en)), (5, .int (zI n))] [] (wl E f2) := by
    intro q
    induction q with
    | zero => intro n f2 hms4; exact absurd hms4 (Nat.not_lt_zero _)
    | succ q ih5 =>
      intro n f2 hms4 hn hs k3
      refine G_iload_n hX 2 rfl rfl d_Mo_matched_3 ?_
      refine G_iload hX 5 rfl d_Mo_matched_4 ?_
      refine G_iadd_z hX d_Mo_matched_6 ?_
      refine G_iload hX 4 rfl d_Mo_matched_7 ?_
      refine G_icmp_ge_z hX (tgt := 43) d_Mo_matched_9 rfl (by omega) (fun c6 => ?_) (fun c7 => ?_)
      · skip
        refine G_iload hX 5 rfl d_Mo_matched_43 ?_
        have e9 : smF h a (so + (p - bg)) (so + (en - bg)) = n := by
          refine hs.trans (cnt_stop ?_)
          by_cases q : so + (en - bg) - (so + (p - bg)) ≤ n
          · exact Or.inr q
          · refine Or.inl (decide_eq_false (fun q2 => ?_))
            have q3 := q2.2
            first | omega | contradiction
        exact F_iret hX hE d_Mo_matched_45 ⟨by rw [e9], Fr_nil (Fr.tr Fr.rf k3 (by decide))⟩
      · skip
        refine G_aload_n hX 0 rfl rfl d_Mo_matched_12 ?_
        refine G_iload_n hX 1 rfl rfl d_Mo_matched_13 ?_
        refine G_iload hX 5 rfl d_Mo_matched_14 ?_
        refine G_iadd_z hX d_Mo_matched_16 ?_
        refine G_iload_n hX 3 rfl rfl d_Mo_matched_17 ?_
        have h8 : f2 61 = mob F := (k3 61 (List.not_mem_nil)).trans hMo
        have h9 : f2 63 = iz E 1600 b := (k3 63 (List.not_mem_nil)).trans hc63
        refine F_callV hX (st := []) (c_Mo_both E f2 F (a + n) so bg en b h h8 hmk hF12 h9 hB hho hhn (by omega) (by omega)) cm_Mo_both im_Mo_both se_Mo_both rfl ml_Mo_261 d_Mo_matched_18 (by decide) h8 rfl rfl (Nat.le_of_ble_eq_true rfl) (by decide) ?_
        rintro _ f10 ⟨rfl, e13⟩
        obtain rfl := e13.symm
        refine G_cast (st' := [.int (zI (h (a + n)))]) ?_ rfl rfl rfl rfl
        have hb1 := hB (a + n)
        refine G_aload_n hX 0 rfl rfl d_Mo_matched_21 ?_
        refine M_get hX fg_Mo_77 d_Mo_matched_22 h8 (by decide) (hmk 1 63 (by decide)) ?_
        refine G_sipush hX (by decide) d_Mo_matched_25 ?_
        refine G_iload_n hX 2 rfl rfl d_Mo_matched_28 ?_
        refine G_iadd_z hX d_Mo_matched_29 ?_
        refine G_iload hX 5 rfl d_Mo_matched_30 ?_
        refine G_iadd_z hX d_Mo_matched_32 ?_
        refine F_iald hX d_Mo_matched_33 63 (by decide) h9 (by omega) ?_
        refine G_top (show zI (b ((300 + p) + n)) = zI (h (so + (p - bg) + n)) from congrArg zI ((congrArg b (show _ = 300 + bg + ((so + (p - bg) + n) - so) by omega)).trans ((hhn ((so + (p - bg) + n) - so) (by omega) (by omega)).trans (congrArg h (by omega))))) ?_
        have b14 := hB (so + (p - bg) + n)
        refine G_icmp_ne_z hX (tgt := 43) d_Mo_matched_34 rfl (by omega) (fun c15 => ?_) (fun c16 => ?_)
        · skip
          refine G_iload hX 5 rfl d_Mo_matched_43 ?_
          have e9 : smF h a (so + (p - bg)) (so + (en - bg)) = n := by
            refine hs.trans (cnt_stop ?_)
            by_cases q : so + (en - bg) - (so + (p - bg)) ≤ n
            · exact Or.inr q
            · refine Or.inl (decide_eq_false (fun q2 => ?_))
              have q3 := q2.2
              first | omega | contradiction
          exact F_iret hX hE d_Mo_matched_45 ⟨by rw [e9], Fr_nil (Fr.tr Fr.rf k3 (by decide))⟩
        · skip
          refine G_iinc_z hX (lv' := [(5, .int (zI (n + 1))), (0, .ref (eA E 61)), (1, .int (zI a)), (2, .int (zI p)), (3, .int (zI bg)), (4, .int (zI en))]) 5 rfl (by decide) rfl d_Mo_matched_37 ?_
          refine G_goto hX (tgt := 3) d_Mo_matched_40 rfl ?_
          refine G_loc (lv' := [(0, .ref (eA E 61)), (1, .int (zI a)), (2, .int (zI p)), (3, .int (zI bg)), (4, .int (zI en)), (5, .int (zI (n + 1)))]) [1, 2, 3, 4, 5, 0] rfl ?_
          exact ih5 (n + 1) f2 (by omega) (by omega) (hs.trans (cnt_go (by omega) (decide_eq_true ⟨by omega, by assumption⟩)))  (Fr.tr Fr.rf k3 (by decide))
  refine G_loc (lv' := [(0, .ref (eA E 61)), (1, .int (zI a)), (2, .int (zI p)), (3, .int (zI bg)), (4, .int (zI en)), (5, .int (zI 0))]) [1, 2, 3, 4, 5, 0] rfl ?_
  exact loop1 (_ + 1) 0 f (Nat.lt_succ_self _) (by omega) rfl  Fr.rf
theorem c_Mo_bestMatch (E : EV) (f : Nat → va_E) (F : Nat → Value) (p : Int) (ch : Int) (so : Int) (bg : Int) (en : Int) (b : Int → Int) (h : Int → Int) (hMo : f 61 = mob F) (hmk : moK E F) (hF12 : F 12 = .int (zI so)) (hc63 : f 63 = iz E 1600 b) (hB : isB h) (hho : ∀ a, 0 ≤ a → a < so → b a = h a) (hhn : ∀ i, 0 ≤ i → i < en - bg → b (300 + bg + i) = h (so + i)) (hso : 0 ≤ so ∧ so ≤ 300 ∧ 0 ≤ bg ∧ bg ≤ en ∧ en ≤ 300) (hp : bg ≤ p ∧ p < en) (hch : 1 ≤ ch ∧ ch ≤ 16) : CF yn_Mo_bestMatch cd_Mo_bestMatch 10 (some (.int)) 2 E [.ref (eA E 61), .int (zI p), .int (zI bg), .int (zI en), .int (zI ch)] f (fun r f' => r = some (.int (zI (encF (fmF h so (so + (en - bg)) ch (so + (p - bg)))))) ∧ f' = f) := by
  refine CF.of (by decide +kernel) (Nat.le_of_ble_eq_true rfl) fun X hX hE => ?_
  have hX : Ok E X "DeltaFerryModel" "bestMatch" cd_Mo_bestMatch 10 (some (.int)) (rl 2) := hX
  refine G_cast (lv' := [(0, .ref (eA E 61)), (1, .int (zI p)), (2, .int (zI bg)), (3, .int (zI en)), (4, .int (zI ch))]) ?_ rfl rfl rfl rfl
  refine G_iconst hX d_Mo_bestMatch_0 ?_
  refine G_istore hX (lv' := [(5, .int (zI 0)), (0, .ref (eA E 61)), (1, .int (zI p)), (2, .int (zI bg)), (3, .int (zI en)), (4, .int (zI ch))]) (by decide) rfl d_Mo_bestMatch_1 ?_
  refine G_iconst hX d_Mo_bestMatch_3 ?_
  refine G_istore hX (lv' := [(6, .int (zI 0)), (5, .int (zI 0)), (0, .ref (eA E 61)), (1, .int (zI p)), (2, .int (zI bg)), (3, .int (zI en)), (4, .int (zI ch))]) (by decide) rfl d_Mo_bestMatch_4 ?_
  refine G_aload_n hX 2 rfl rfl d_Mo_bestMatch_6 ?_
  refine M_get hX fg_Mo_249 d_Mo_bestMatch_7 hMo (by decide) hF12 ?_
  refine G_iload_n hX 3 rfl rfl d_Mo_bestMatch_10 ?_
  refine G_iadd_z hX d_Mo_bestMatch_11 ?_
  refine G_iload_n hX 4 rfl rfl d_Mo_bestMatch_12 ?_
  refine G_isub_z hX d_Mo_bestMatch_13 ?_
  refine G_iconst hX d_Mo_bestMatch_14 ?_
  refine G_isub_z hX d_Mo_bestMatch_15 ?_
  refine G_istore hX (lv' := [(7, .int (zI (((so + p) - bg) - 1))), (6, .int (zI 0)), (5, .int (zI 0)), (0, .ref (eA E 61)), (1, .int (zI p)), (2, .int (zI bg)), (3, .int (zI en)), (4, .int (zI ch))]) (by decide) rfl d_Mo_bestMatch_16 ?_
  by_cases q9 : en < p + 4
  · skip
    refine G_iload hX 0 rfl d_Mo_bestMatch_18 ?_
    refine G_if_lt_z hX (tgt := 169) d_Mo_bestMatch_20 rfl (by omega) (fun c1 => ?_) (fun c2 => ?_)
    · skip
      refine G_iload hX 2 rfl d_Mo_bestMatch_169 ?_
      exact F_iret hX hE d_Mo_bestMatch_171 ⟨by unfold fmF; rw [if_pos (by omega)]; rfl, rfl⟩
    · skip
      refine G_iload hX 1 rfl d_Mo_bestMatch_23 ?_
      refine G_iload hX 7 rfl d_Mo_bestMatch_25 ?_
      refine G_icmp_ge_z hX (tgt := 169) d_Mo_bestMatch_27 rfl (by omega) (fun c3 => ?_) (fun c4 => ?_)
      · skip
        refine G_iload hX 2 rfl d_Mo_bestMatch_169 ?_
        exact F_iret hX hE d_Mo_bestMatch_171 ⟨by unfold fmF; rw [if_pos (by omega)]; rfl, rfl⟩
      · skip
        refine G_iload_n hX 4 rfl rfl d_Mo_bestMatch_30 ?_
        refine G_iconst hX d_Mo_bestMatch_31 ?_
        refine G_iadd_z hX d_Mo_bestMatch_32 ?_
        refine G_iload_n hX 6 rfl rfl d_Mo_bestMatch_33 ?_
        refine G_icmp_gt_z hX (tgt := 169) d_Mo_bestMatch_34 rfl (by omega) (fun c5 => ?_) (fun c6 => by exfalso; omega)
        refine G_iload hX 2 rfl d_Mo_bestMatch_169 ?_
        exact F_iret hX hE d_Mo_bestMatch_171 ⟨by unfold fmF; rw [if_pos (by omega)]; rfl, rfl⟩
  · skip
    have hs0 : fmF h so (so + (en - bg)) ch (so + (p - bg)) = fmL h so (so + (en - bg)) ch (so + (p - bg)) (so + p - bg - 1 + 1).toNat (so + p - bg - 1) (0) (-1) (0) := by unfold fmF; rw [if_neg (by omega), show (so + p - bg - 1 + 1).toNat = (so + (p - bg)).toNat by omega, show so + (p - bg) - 1 = so + p - bg - 1 by omega]
    have loop7 : ∀ (q : Nat) (a : Int) (sn : Int) (mA : Int) (mS : Int) (f8 : Nat → va_E), (a + 1).toNat < q → (-1 ≤ a ∧ a < so + (p - bg) ∧ 0 ≤ sn ∧ sn ≤ ch) → ((0 ≤ mS ∧ mS ≤ en - p) ∧ (-1 ≤ mA ∧ mA < so + (p - bg)) ∧ (0 < mS → 0 ≤ mA)) → (fmF h so (so + (en - bg)) ch (so + (p - bg)) = fmL h so (so + (en - bg)) ch (so + (p - bg)) (a + 1).toNat (a) (sn) (mA) (mS)) → Fr [] f f8 → G E X 0 0 18 [(0, .ref (eA E 61)), (1, .int (zI p)), (2, .int (zI bg)), (3, .int (zI en)), (4, .int (zI ch)), (5, .int (zI (encF (mA, mS)))), (6, .int (zI sn)), (7, .int (zI a))] [] (wl E f8) := by
      intro q
      induction q with
      | zero => intro a sn mA mS f8 hms10; exact absurd hms10 (Nat.not_lt_zero _)
      | succ q ih11 =>
        intro a sn mA mS f8 hms10 ha hm hs k9
        have hem := enc_m (m := (mA, mS)) (show 0 ≤ mS ∧ mS < 1000 by omega)
        have heb := enc_b (m := (mA, mS)) (show 0 ≤ mS ∧ mS < 1000 by omega) (show -1 ≤ mA ∧ mA < 1000 by omega) hm.2.2
        refine G_iload hX 7 rfl d_Mo_bestMatch_18 ?_
        refine G_if_lt_z hX (tgt := 169) d_Mo_bestMatch_20 rfl (by omega) (fun c12 => ?_) (fun c13 => ?_)
        · skip
          refine G_iload hX 5 rfl d_Mo_bestMatch_169 ?_
          have e9 : fmF h so (so + (en - bg)) ch (so + (p - bg)) = (mA, mS) := by
            rw [hs]
            by_cases q : a < 0
            · rw [show (a + 1).toNat = 0 by omega]; rfl
            · rw [fmL_s (by omega), if_neg (by omega)]
          exact F_iret hX hE d_Mo_bestMatch_171 ⟨by rw [e9], Fr_nil (Fr.tr Fr.rf k9 (by decide))⟩
        · skip
          refine G_iload hX 6 rfl d_Mo_bestMatch_23 ?_
          refine G_iload hX 4 rfl d_Mo_bestMatch_25 ?_
          refine G_icmp_ge_z hX (tgt := 169) d_Mo_bestMatch_27 rfl (by omega) (fun c14 => ?_) (fun c15 => ?_)
          · skip
            refine G_iload hX 5 rfl d_Mo_bestMatch_169 ?_
            have e9 : fmF h so (so + (en - bg)) ch (so + (p - bg)) = (mA, mS) := by
              rw [hs]
              by_cases q : a < 0
              · rw [show (a + 1).toNat = 0 by omega]; rfl
              · rw [fmL_s (by omega), if_neg (by omega)]
            exact F_iret hX hE d_Mo_bestMatch_171 ⟨by rw [e9], Fr_nil (Fr.tr Fr.rf k9 (by decide))⟩
          · skip
            refine G_iload_n hX 1 rfl rfl d_Mo_bestMatch_30 ?_
            refine G_iconst hX d_Mo_bestMatch_31 ?_
            refine G_iadd_z hX d_Mo_bestMatch_32 ?_
            refine G_iload_n hX 3 rfl rfl d_Mo_bestMatch_33 ?_
            refine G_icmp_gt_z hX (tgt := 169) d_Mo_bestMatch_34 rfl (by omega) (fun c16 => by exfalso; omega) (fun c17 => ?_)
            have hst := hs.trans ((fmL_s (by omega)).trans (if_pos (by omega)))
            refine G_iload hX 7 rfl d_Mo_bestMatch_37 ?_
            refine G_aload_n hX 0 rfl rfl d_Mo_bestMatch_39 ?_
            have h18 : f8 61 = mob F := (k9 61 (List.not_mem_nil)).trans hMo
            refine M_get hX fg_Mo_249 d_Mo_bestMatch_40 h18 (by decide) hF12 ?_
            refine G_icmp_ge_z hX (tgt := 57) d_Mo_bestMatch_43 rfl (by omega) (fun c19 => ?_) (fun c20 => ?_)
            · skip
              refine G_iconst hX d_Mo_bestMatch_57 ?_
              refine G_goto hX (tgt := 62) d_Mo_bestMatch_58 rfl ?_
              refine G_istore hX (lv' := [(8, .int (zI 1)), (0, .ref (eA E 61)), (1, .int (zI p)), (2, .int (zI bg)), (3, .int (zI en)), (4, .int (zI ch)), (5, .int (zI (encF (mA, mS)))), (6, .int (zI sn)), (7, .int (zI a))]) (by decide) rfl d_Mo_bestMatch_62 ?_
              refine G_iconst hX d_Mo_bestMatch_64 ?_
              refine G_istore hX (lv' := [(9, .int (zI 0)), (8, .int (zI 1)), (0, .ref (eA E 61)), (1, .int (zI p)), (2, .int (zI bg)), (3, .int (zI en)), (4, .int (zI ch)), (5, .int (zI (encF (mA, mS)))), (6, .int (zI sn)), (7, .int (zI a))]) (by decide) rfl d_Mo_bestMatch_65 ?_
              refine G_iload hX 0 rfl d_Mo_bestMatch_67 ?_
              refine G_iconst hX d_Mo_bestMatch_69 ?_
              refine G_icmp_ge_z hX (tgt := 117) d_Mo_bestMatch_70 rfl (by omega) (fun c21 => by exfalso; omega) (fun c22 => ?_)
              refine G_iload hX 1 rfl d_Mo_bestMatch_73 ?_
              refine G_if_eq_z hX (tgt := 117) d_Mo_bestMatch_75 rfl (by omega) (fun c23 => by exfalso; omega) (fun c24 => ?_)
              refine G_aload_n hX 2 rfl rfl d_Mo_bestMatch_78 ?_
              refine G_iload hX 9 rfl d_Mo_bestMatch_79 ?_
              refine G_iload hX 0 rfl d_Mo_bestMatch_81 ?_
              refine G_iadd_z hX d_Mo_bestMatch_83 ?_
              refine G_iload_n hX 4 rfl rfl d_Mo_bestMatch_84 ?_
              have h25 : f8 63 = iz E 1600 b := (k9 63 (List.not_mem_nil)).trans hc63
              refine F_callV hX (st := []) (c_Mo_both E f8 F (a + 0) so bg en b h h18 hmk hF12 h25 hB hho hhn (by omega) (by omega)) cm_Mo_both im_Mo_both se_Mo_both rfl ml_Mo_261 d_Mo_bestMatch_85 (by decide) h18 rfl rfl (Nat.le_of_ble_eq_true rfl) (by decide) ?_
              rintro _ f26 ⟨rfl, e29⟩
              obtain rfl := e29.symm
              refine G_cast (st' := [.int (zI (h (a + 0)))]) ?_ rfl rfl rfl rfl
              refine G_top (show zI (h (a + 0)) = zI (h (a)) from congrArg (fun q => zI (h q)) (by omega)) ?_
              have b30 := hB (a)
              refine G_aload_n hX 2 rfl rfl d_Mo_bestMatch_88 ?_
              refine M_get hX fg_Mo_77 d_Mo_bestMatch_89 h18 (by decide) (hmk 1 63 (by decide)) ?_
              refine G_sipush hX (by decide) d_Mo_bestMatch_92 ?_
              refine G_iload_n hX 3 rfl rfl d_Mo_bestMatch_95 ?_
              refine G_iadd_z hX d_Mo_bestMatch_96 ?_
              refine G_iload hX 0 rfl d_Mo_bestMatch_97 ?_
              refine G_iadd_z hX d_Mo_bestMatch_99 ?_
              refine F_iald hX d_Mo_bestMatch_100 63 (by decide) h25 (by omega) ?_
              refine G_top (show zI (b ((300 + p) + 0)) = zI (h (so + (p - bg))) from congrArg zI ((congrArg b (show _ = 300 + bg + ((so + (p - bg)) - so) by omega)).trans ((hhn ((so + (p - bg)) - so) (by omega) (by omega)).trans (congrArg h (by omega))))) ?_
              have b31 := hB (so + (p - bg))
              refine G_icmp_ne_z hX (tgt := 108) d_Mo_bestMatch_101 rfl (by omega) (fun c32 => ?_) (fun c33 => ?_)
              · skip
                refine G_iconst hX d_Mo_bestMatch_108 ?_
                refine G_istore hX (lv' := [(8, .int (zI 0)), (9, .int (zI 0)), (0, .ref (eA E 61)), (1, .int (zI p)), (2, .int (zI bg)), (3, .int (zI en)), (4, .int (zI ch)), (5, .int (zI (encF (mA, mS)))), (6, .int (zI sn)), (7, .int (zI a))]) (by decide) rfl d_Mo_bestMatch_109 ?_
                refine G_iinc_z hX (lv' := [(9, .int (zI (0 + 1))), (8, .int (zI 0)), (0, .ref (eA E 61)), (1, .int (zI p)), (2, .int (zI bg)), (3, .int (zI en)), (4, .int (zI ch)), (5, .int (zI (encF (mA, mS)))), (6, .int (zI sn)), (7, .int (zI a))]) 1 rfl (by decide) rfl d_Mo_bestMatch_111 ?_
                refine G_goto hX (tgt := 67) d_Mo_bestMatch_114 rfl ?_
                refine G_iload hX 0 rfl d_Mo_bestMatch_67 ?_
                refine G_iconst hX d_Mo_bestMatch_69 ?_
                refine G_icmp_ge_z hX (tgt := 117) d_Mo_bestMatch_70 rfl (by omega) (fun c34 => by exfalso; omega) (fun c35 => ?_)
                refine G_iload hX 1 rfl d_Mo_bestMatch_73 ?_
                refine G_if_eq_z hX (tgt := 117) d_Mo_bestMatch_75 rfl (by omega) (fun c36 => ?_) (fun c37 => by exfalso; omega)
                have hcn : ¬ cnP h so a (so + (p - bg)) := by
                  rintro ⟨n1, n2, n3, n4, n5⟩
                  first | omega | contradiction
                rw [if_neg hcn] at hst
                refine G_iload hX 1 rfl d_Mo_bestMatch_117 ?_
                refine G_if_eq_z hX (tgt := 163) d_Mo_bestMatch_119 rfl (by omega) (fun c38 => ?_) (fun c39 => by exfalso; omega)
                refine G_iinc_z hX (lv' := [(7, .int (zI (a + (-1)))), (9, .int (zI (0 + 1))), (8, .int (zI 0)), (0, .ref (eA E 61)), (1, .int (zI p)), (2, .int (zI bg)), (3, .int (zI en)), (4, .int (zI ch)), (5, .int (zI (encF (mA, mS)))), (6, .int (zI sn))]) 9 rfl (by decide) rfl d_Mo_bestMatch_163 ?_
                refine G_goto hX (tgt := 18) d_Mo_bestMatch_166 rfl ?_
                refine G_loc (lv' := [(0, .ref (eA E 61)), (1, .int (zI p)), (2, .int (zI bg)), (3, .int (zI en)), (4, .int (zI ch)), (5, .int (zI (encF (mA, mS)))), (6, .int (zI sn)), (7, .int (zI (a + (-1))))]) [3, 4, 5, 6, 7, 8, 9, 0] rfl ?_
                exact ih11 (a - 1) sn mA mS f8 (by omega) (by omega) (by omega) hst  (Fr.tr Fr.rf k9 (by decide))
              · skip
                refine G_iconst hX d_Mo_bestMatch_104 ?_
                refine G_goto hX (tgt := 109) d_Mo_bestMatch_105 rfl ?_
                refine G_istore hX (lv' := [(8, .int (zI 1)), (9, .int (zI 0)), (0, .ref (eA E 61)), (1, .int (zI p)), (2, .int (zI bg)), (3, .int (zI en)), (4, .int (zI ch)), (5, .int (zI (encF (mA, mS)))), (6, .int (zI sn)), (7, .int (zI a))]) (by decide) rfl d_Mo_bestMatch_109 ?_
                refine G_iinc_z hX (lv' := [(9, .int (zI (0 + 1))), (8, .int (zI 1)), (0, .ref (eA E 61)), (1, .int (zI p)), (2, .int (zI bg)), (3, .int (zI en)), (4, .int (zI ch)), (5, .int (zI (encF (mA, mS)))), (6, .int (zI sn)), (7, .int (zI a))]) 1 rfl (by decide) rfl d_Mo_bestMatch_111 ?_
                refine G_goto hX (tgt := 67) d_Mo_bestMatch_114 rfl ?_
                refine G_iload hX 0 rfl d_Mo_bestMatch_67 ?_
                refine G_iconst hX d_Mo_bestMatch_69 ?_
                refine G_icmp_ge_z hX (tgt := 117) d_Mo_bestMatch_70 rfl (by omega) (fun c40 => by exfalso; omega) (fun c41 => ?_)
                refine G_iload hX 1 rfl d_Mo_bestMatch_73 ?_
                refine G_if_eq_z hX (tgt := 117) d_Mo_bestMatch_75 rfl (by omega) (fun c42 => by exfalso; omega) (fun c43 => ?_)
                refine G_aload_n hX 2 rfl rfl d_Mo_bestMatch_78 ?_
                refine G_iload hX 9 rfl d_Mo_bestMatch_79 ?_
                refine G_iload hX 0 rfl d_Mo_bestMatch_81 ?_
                refine G_iadd_z hX d_Mo_bestMatch_83 ?_
                refine G_iload_n hX 4 rfl rfl d_Mo_bestMatch_84 ?_
                refine F_callV hX (st := []) (c_Mo_both E f8 F (a + (0 + 1)) so bg en b h h18 hmk hF12 h25 hB hho hhn (by omega) (by omega)) cm_Mo_both im_Mo_both se_Mo_both rfl ml_Mo_261 d_Mo_bestMatch_85 (by decide) h18 rfl rfl (Nat.le_of_ble_eq_true rfl) (by decide) ?_
                rintro _ f44 ⟨rfl, e47⟩
                obtain rfl := e47.symm
                refine G_cast (st' := [.int (zI (h (a + (0 + 1))))]) ?_ rfl rfl rfl rfl
                refine G_top (show zI (h (a + (0 + 1))) = zI (h (a + 1)) from congrArg (fun q => zI (h q)) (by omega)) ?_
                have b48 := hB (a + 1)
                refine G_aload_n hX 2 rfl rfl d_Mo_bestMatch_88 ?_
                refine M_get hX fg_Mo_77 d_Mo_bestMatch_89 h18 (by decide) (hmk 1 63 (by decide)) ?_
                refine G_sipush hX (by decide) d_Mo_bestMatch_92 ?_
                refine G_iload_n hX 3 rfl rfl d_Mo_bestMatch_95 ?_
                refine G_iadd_z hX d_Mo_bestMatch_96 ?_
                refine G_iload hX 0 rfl d_Mo_bestMatch_97 ?_
                refine G_iadd_z hX d_Mo_bestMatch_99 ?_
                refine F_iald hX d_Mo_bestMatch_100 63 (by decide) h25 (by omega) ?_
                refine G_top (show zI (b ((300 + p) + (0 + 1))) = zI (h (so + (p - bg) + 1)) from congrArg zI ((congrArg b (show _ = 300 + bg + ((so + (p - bg) + 1) - so) by omega)).trans ((hhn ((so + (p - bg) + 1) - so) (by omega) (by omega)).trans (congrArg h (by omega))))) ?_
                have b49 := hB (so + (p - bg) + 1)
                refine G_icmp_ne_z hX (tgt := 108) d_Mo_bestMatch_101 rfl (by omega) (fun c50 => ?_) (fun c51 => ?_)
                · skip
                  refine G_iconst hX d_Mo_bestMatch_108 ?_
                  refine G_istore hX (lv' := [(8, .int (zI 0)), (9, .int (zI (0 + 1))), (0, .ref (eA E 61)), (1, .int (zI p)), (2, .int (zI bg)), (3, .int (zI en)), (4, .int (zI ch)), (5, .int (zI (encF (mA, mS)))), (6, .int (zI sn)), (7, .int (zI a))]) (by decide) rfl d_Mo_bestMatch_109 ?_
                  refine G_iinc_z hX (lv' := [(9, .int (zI ((0 + 1) + 1))), (8, .int (zI 0)), (0, .ref (eA E 61)), (1, .int (zI p)), (2, .int (zI bg)), (3, .int (zI en)), (4, .int (zI ch)), (5, .int (zI (encF (mA, mS)))), (6, .int (zI sn)), (7, .int (zI a))]) 1 rfl (by decide) rfl d_Mo_bestMatch_111 ?_
                  refine G_goto hX (tgt := 67) d_Mo_bestMatch_114 rfl ?_
                  refine G_iload hX 0 rfl d_Mo_bestMatch_67 ?_
                  refine G_iconst hX d_Mo_bestMatch_69 ?_
                  refine G_icmp_ge_z hX (tgt := 117) d_Mo_bestMatch_70 rfl (by omega) (fun c52 => by exfalso; omega) (fun c53 => ?_)
                  refine G_iload hX 1 rfl d_Mo_bestMatch_73 ?_
                  refine G_if_eq_z hX (tgt := 117) d_Mo_bestMatch_75 rfl (by omega) (fun c54 => ?_) (fun c55 => by exfalso; omega)
                  have hcn : ¬ cnP h so a (so + (p - bg)) := by
                    rintro ⟨n1, n2, n3, n4, n5⟩
                    first | omega | contradiction
                  rw [if_neg hcn] at hst
                  refine G_iload hX 1 rfl d_Mo_bestMatch_117 ?_
                  refine G_if_eq_z hX (tgt := 163) d_Mo_bestMatch_119 rfl (by omega) (fun c56 => ?_) (fun c57 => by exfalso; omega)
                  refine G_iinc_z hX (lv' := [(7, .int (zI (a + (-1)))), (9, .int (zI ((0 + 1) + 1))), (8, .int (zI 0)), (0, .ref (eA E 61)), (1, .int (zI p)), (2, .int (zI bg)), (3, .int (zI en)), (4, .int (zI ch)), (5, .int (zI (encF (mA, mS)))), (6, .int (zI sn))]) 9 rfl (by decide) rfl d_Mo_bestMatch_163 ?_
                  refine G_goto hX (tgt := 18) d_Mo_bestMatch_166 rfl ?_
                  refine G_loc (lv' := [(0, .ref (eA E 61)), (1, .int (zI p)), (2, .int (zI bg)), (3, .int (zI en)), (4, .int (zI ch)), (5, .int (zI (encF (mA, mS)))), (6, .int (zI sn)), (7, .int (zI (a + (-1))))]) [3, 4, 5, 6, 7, 8, 9, 0] rfl ?_
                  exact ih11 (a - 1) sn mA mS f8 (by omega) (by omega) (by omega) hst  (Fr.tr Fr.rf k9 (by decide))
                · skip
                  refine G_iconst hX d_Mo_bestMatch_104 ?_
                  refine G_goto hX (tgt := 109) d_Mo_bestMatch_105 rfl ?_
                  refine G_istore hX (lv' := [(8, .int (zI 1)), (9, .int (zI (0 + 1))), (0, .ref (eA E 61)), (1, .int (zI p)), (2, .int (zI bg)), (3, .int (zI en)), (4, .int (zI ch)), (5, .int (zI (encF (mA, mS)))), (6, .int (zI sn)), (7, .int (zI a))]) (by decide) rfl d_Mo_bestMatch_109 ?_
                  refine G_iinc_z hX (lv' := [(9, .int (zI ((0 + 1) + 1))), (8, .int (zI 1)), (0, .ref (eA E 61)), (1, .int (zI p)), (2, .int (zI bg)), (3, .int (zI en)), (4, .int (zI ch)), (5, .int (zI (encF (mA, mS)))), (6, .int (zI sn)), (7, .int (zI a))]) 1 rfl (by decide) rfl d_Mo_bestMatch_111 ?_
                  refine G_goto hX (tgt := 67) d_Mo_bestMatch_114 rfl ?_
                  refine G_iload hX 0 rfl d_Mo_bestMatch_67 ?_
                  refine G_iconst hX d_Mo_bestMatch_69 ?_
                  refine G_icmp_ge_z hX (tgt := 117) d_Mo_bestMatch_70 rfl (by omega) (fun c58 => by exfalso; omega) (fun c59 => ?_)
                  refine G_iload hX 1 rfl d_Mo_bestMatch_73 ?_
                  refine G_if_eq_z hX (tgt := 117) d_Mo_bestMatch_75 rfl (by omega) (fun c60 => by exfalso; omega) (fun c61 => ?_)
                  refine G_aload_n hX 2 rfl rfl d_Mo_bestMatch_78 ?_
                  refine G_iload hX 9 rfl d_Mo_bestMatch_79 ?_
                  refine G_iload hX 0 rfl d_Mo_bestMatch_81 ?_
                  refine G_iadd_z hX d_Mo_bestMatch_83 ?_
                  refine G_iload_n hX 4 rfl rfl d_Mo_bestMatch_84 ?_
                  refine F_callV hX (st := []) (c_Mo_both E f8 F (a + ((0 + 1) + 1)) so bg en b h h18 hmk hF12 h25 hB hho hhn (by omega) (by omega)) cm_Mo_both im_Mo_both se_Mo_both rfl ml_Mo_261 d_Mo_bestMatch_85 (by decide) h18 rfl rfl (Nat.le_of_ble_eq_true rfl) (by decide) ?_
                  rintro _ f62 ⟨rfl, e65⟩
                  obtain rfl := e65.symm
                  refine G_cast (st' := [.int (zI (h (a + ((0 + 1) + 1))))]) ?_ rfl rfl rfl rfl
                  refine G_top (show zI (h (a + ((0 + 1) + 1))) = zI (h (a + 2)) from congrArg (fun q => zI (h q)) (by omega)) ?_
                  have b66 := hB (a + 2)
                  refine G_aload_n hX 2 rfl rfl d_Mo_bestMatch_88 ?_
                  refine M_get hX fg_Mo_77 d_Mo_bestMatch_89 h18 (by decide) (hmk 1 63 (by decide)) ?_
                  refine G_sipush hX (by decide) d_Mo_bestMatch_92 ?_
                  refine G_iload_n hX 3 rfl rfl d_Mo_bestMatch_95 ?_
                  refine G_iadd_z hX d_Mo_bestMatch_96 ?_
                  refine G_iload hX 0 rfl d_Mo_bestMatch_97 ?_
                  refine G_iadd_z hX d_Mo_bestMatch_99 ?_
                  refine F_iald hX d_Mo_bestMatch_100 63 (by decide) h25 (by omega) ?_
                  refine G_top (show zI (b ((300 + p) + ((0 + 1) + 1))) = zI (h (so + (p - bg) + 2)) from congrArg zI ((congrArg b (show _ = 300 + bg + ((so + (p - bg) + 2) - so) by omega)).trans ((hhn ((so + (p - bg) + 2) - so) (by omega) (by omega)).trans (congrArg h (by omega))))) ?_
                  have b67 := hB (so + (p - bg) + 2)
                  refine G_icmp_ne_z hX (tgt := 108) d_Mo_bestMatch_101 rfl (by omega) (fun c68 => ?_) (fun c69 => ?_)
                  · skip
                    refine G_iconst hX d_Mo_bestMatch_108 ?_
                    refine G_istore hX (lv' := [(8, .int (zI 0)), (9, .int (zI ((0 + 1) + 1))), (0, .ref (eA E 61)), (1, .int (zI p)), (2, .int (zI bg)), (3, .int (zI en)), (4, .int (zI ch)), (5, .int (zI (encF (mA, mS)))), (6, .int (zI sn)), (7, .int (zI a))]) (by decide) rfl d_Mo_bestMatch_109 ?_
                    refine G_iinc_z hX (lv' := [(9, .int (zI (((0 + 1) + 1) + 1))), (8, .int (zI 0)), (0, .ref (eA E 61)), (1, .int (zI p)), (2, .int (zI bg)), (3, .int (zI en)), (4, .int (zI ch)), (5, .int (zI (encF (mA, mS)))), (6, .int (zI sn)), (7, .int (zI a))]) 1 rfl (by decide) rfl d_Mo_bestMatch_111 ?_
                    refine G_goto hX (tgt := 67) d_Mo_bestMatch_114 rfl ?_
                    refine G_iload hX 0 rfl d_Mo_bestMatch_67 ?_
                    refine G_iconst hX d_Mo_bestMatch_69 ?_
                    refine G_icmp_ge_z hX (tgt := 117) d_Mo_bestMatch_70 rfl (by omega) (fun c70 => by exfalso; omega) (fun c71 => ?_)
                    refine G_iload hX 1 rfl d_Mo_bestMatch_73 ?_
                    refine G_if_eq_z hX (tgt := 117) d_Mo_bestMatch_75 rfl (by omega) (fun c72 => ?_) (fun c73 => by exfalso; omega)
                    have hcn : ¬ cnP h so a (so + (p - bg)) := by
                      rintro ⟨n1, n2, n3, n4, n5⟩
                      first | omega | contradiction
                    rw [if_neg hcn] at hst
                    refine G_iload hX 1 rfl d_Mo_bestMatch_117 ?_
                    refine G_if_eq_z hX (tgt := 163) d_Mo_bestMatch_119 rfl (by omega) (fun c74 => ?_) (fun c75 => by exfalso; omega)
                    refine G_iinc_z hX (lv' := [(7, .int (zI (a + (-1)))), (9, .int (zI (((0 + 1) + 1) + 1))), (8, .int (zI 0)), (0, .ref (eA E 61)), (1, .int (zI p)), (2, .int (zI bg)), (3, .int (zI en)), (4, .int (zI ch)), (5, .int (zI (encF (mA, mS)))), (6, .int (zI sn))]) 9 rfl (by decide) rfl d_Mo_bestMatch_163 ?_
                    refine G_goto hX (tgt := 18) d_Mo_bestMatch_166 rfl ?_
                    refine G_loc (lv' := [(0, .ref (eA E 61)), (1, .int (zI p)), (2, .int (zI bg)), (3, .int (zI en)), (4, .int (zI ch)), (5, .int (zI (encF (mA, mS)))), (6, .int (zI sn)), (7, .int (zI (a + (-1))))]) [3, 4, 5, 6, 7, 8, 9, 0] rfl ?_
                    exact ih11 (a - 1) sn mA mS f8 (by omega) (by omega) (by omega) hst  (Fr.tr Fr.rf k9 (by decide))
                  · skip
                    refine G_iconst hX d_Mo_bestMatch_104 ?_
                    refine G_goto hX (tgt := 109) d_Mo_bestMatch_105 rfl ?_
                    refine G_istore hX (lv' := [(8, .int (zI 1)), (9, .int (zI ((0 + 1) + 1))), (0, .ref (eA E 61)), (1, .int (zI p)), (2, .int (zI bg)), (3, .int (zI en)), (4, .int (zI ch)), (5, .int (zI (encF (mA, mS)))), (6, .int (zI sn)), (7, .int (zI a))]) (by decide) rfl d_Mo_bestMatch_109 ?_
                    refine G_iinc_z hX (lv' := [(9, .int (zI (((0 + 1) + 1) + 1))), (8, .int (zI 1)), (0, .ref (eA E 61)), (1, .int (zI p)), (2, .int (zI bg)), (3, .int (zI en)), (4, .int (zI ch)), (5, .int (zI (encF (mA, mS)))), (6, .int (zI sn)), (7, .int (zI a))]) 1 rfl (by decide) rfl d_Mo_bestMatch_111 ?_
                    refine G_goto hX (tgt := 67) d_Mo_bestMatch_114 rfl ?_
                    refine G_iload hX 0 rfl d_Mo_bestMatch_67 ?_
                    refine G_iconst hX d_Mo_bestMatch_69 ?_
                    refine G_icmp_ge_z hX (tgt := 117) d_Mo_bestMatch_70 rfl (by omega) (fun c76 => by exfalso; omega) (fun c77 => ?_)
                    refine G_iload hX 1 rfl d_Mo_bestMatch_73 ?_
                    refine G_if_eq_z hX (tgt := 117) d_Mo_bestMatch_75 rfl (by omega) (fun c78 => by exfalso; omega) (fun c79 => ?_)
                    refine G_aload_n hX 2 rfl rfl d_Mo_bestMatch_78 ?_
                    refine G_iload hX 9 rfl d_Mo_bestMatch_79 ?_
                    refine G_iload hX 0 rfl d_Mo_bestMatch_81 ?_
                    refine G_iadd_z hX d_Mo_bestMatch_83 ?_
                    refine G_iload_n hX 4 rfl rfl d_Mo_bestMatch_84 ?_
                    refine F_callV hX (st := []) (c_Mo_both E f8 F (a + (((0 + 1) + 1) + 1)) so bg en b h h18 hmk hF12 h25 hB hho hhn (by omega) (by omega)) cm_Mo_both im_Mo_both se_Mo_both rfl ml_Mo_261 d_Mo_bestMatch_85 (by decide) h18 rfl rfl (Nat.le_of_ble_eq_true rfl) (by decide) ?_
                    rintro _ f80 ⟨rfl, e83⟩
                    obtain rfl := e83.symm
                    refine G_cast (st' := [.int (zI (h (a + (((0 + 1) + 1) + 1))))]) ?_ rfl rfl rfl rfl
                    refine G_top (show zI (h (a + (((0 + 1) + 1) + 1))) = zI (h (a + 3)) from congrArg (fun q => zI (h q)) (by omega)) ?_
                    have b84 := hB (a + 3)
                    refine G_aload_n hX 2 rfl rfl d_Mo_bestMatch_88 ?_
                    refine M_get hX fg_Mo_77 d_Mo_bestMatch_89 h18 (by decide) (hmk 1 63 (by decide)) ?_
                    refine G_sipush hX (by decide) d_Mo_bestMatch_92 ?_
                    refine G_iload_n hX 3 rfl rfl d_Mo_bestMatch_95 ?_
                    refine G_iadd_z hX d_Mo_bestMatch_96 ?_
                    refine G_iload hX 0 rfl d_Mo_bestMatch_97 ?_
                    refine G_iadd_z hX d_Mo_bestMatch_99 ?_
                    refine F_iald hX d_Mo_bestMatch_100 63 (by decide) h25 (by omega) ?_
                    refine G_top (show zI (b ((300 + p) + (((0 + 1) + 1) + 1))) = zI (h (so + (p - bg) + 3)) from congrArg zI ((congrArg b (show _ = 300 + bg + ((so + (p - bg) + 3) - so) by omega)).trans ((hhn ((so + (p - bg) + 3) - so) (by omega) (by omega)).trans (congrArg h (by omega))))) ?_
                    have b85 := hB (so + (p - bg) + 3)
                    refine G_icmp_ne_z hX (tgt := 108) d_Mo_bestMatch_101 rfl (by omega) (fun c86 => ?_) (fun c87 => ?_)
                    · skip
                      refine G_iconst hX d_Mo_bestMatch_108 ?_
                      refine G_istore hX (lv' := [(8, .int (zI 0)), (9, .int (zI (((0 + 1) + 1) + 1))), (0, .ref (eA E 61)), (1, .int (zI p)), (2, .int (zI bg)), (3, .int (zI en)), (4, .int (zI ch)), (5, .int (zI (encF (mA, mS)))), (6, .int (zI sn)), (7, .int (zI a))]) (by decide) rfl d_Mo_bestMatch_109 ?_
                      refine G_iinc_z hX (lv' := [(9, .int (zI ((((0 + 1) + 1) + 1) + 1))), (8, .int (zI 0)), (0, .ref (eA E 61)), (1, .int (zI p)), (2, .int (zI bg)), (3, .int (zI en)), (4, .int (zI ch)), (5, .int (zI (encF (mA, mS)))), (6, .int (zI sn)), (7, .int (zI a))]) 1 rfl (by decide) rfl d_Mo_bestMatch_111 ?_
                      refine G_goto hX (tgt := 67) d_Mo_bestMatch_114 rfl ?_
                      refine G_iload hX 0 rfl d_Mo_bestMatch_67 ?_
                      refine G_iconst hX d_Mo_bestMatch_69 ?_
                      refine G_icmp_ge_z hX (tgt := 117) d_Mo_bestMatch_70 rfl (by omega) (fun c88 => ?_) (fun c89 => by exfalso; omega)
                      have hcn : ¬ cnP h so a (so + (p - bg)) := by
                        rintro ⟨n1, n2, n3, n4, n5⟩
                        first | omega | contradiction
                      rw [if_neg hcn] at hst
                      refine G_iload hX 1 rfl d_Mo_bestMatch_117 ?_
                      refine G_if_eq_z hX (tgt := 163) d_Mo_bestMatch_119 rfl (by omega) (fun c90 => ?_) (fun c91 => by exfalso; omega)
                      refine G_iinc_z hX (lv' := [(7, .int (zI (a + (-1)))), (9, .int (zI ((((0 + 1) + 1) + 1) + 1))), (8, .int (zI 0)), (0, .ref (eA E 61)), (1, .int (zI p)), (2, .int (zI bg)), (3, .int (zI en)), (4, .int (zI ch)), (5, .int (zI (encF (mA, mS)))), (6, .int (zI sn))]) 9 rfl (by decide) rfl d_Mo_bestMatch_163 ?_
                      refine G_goto hX (tgt := 18) d_Mo_bestMatch_166 rfl ?_
                      refine G_loc (lv' := [(0, .ref (eA E 61)), (1, .int (zI p)), (2, .int (zI bg)), (3, .int (zI en)), (4, .int (zI ch)), (5, .int (zI (encF (mA, mS)))), (6, .int (zI sn)), (7, .int (zI (a + (-1))))]) [3, 4, 5, 6, 7, 8, 9, 0] rfl ?_
                      exact ih11 (a - 1) sn mA mS f8 (by omega) (by omega) (by omega) hst  (Fr.tr Fr.rf k9 (by decide))
                    · skip
                      refine G_iconst hX d_Mo_bestMatch_104 ?_
                      refine G_goto hX (tgt := 109) d_Mo_bestMatch_105 rfl ?_
                      refine G_istore hX (lv' := [(8, .int (zI 1)), (9, .int (zI (((0 + 1) + 1) + 1))), (0, .ref (eA E 61)), (1, .int (zI p)), (2, .int (zI bg)), (3, .int (zI en)), (4, .int (zI ch)), (5, .int (zI (encF (mA, mS)))), (6, .int (zI sn)), (7, .int (zI a))]) (by decide) rfl d_Mo_bestMatch_109 ?_
                      refine G_iinc_z hX (lv' := [(9, .int (zI ((((0 + 1) + 1) + 1) + 1))), (8, .int (zI 1)), (0, .ref (eA E 61)), (1, .int (zI p)), (2, .int (zI bg)), (3, .int (zI en)), (4, .int (zI ch)), (5, .int (zI (encF (mA, mS)))), (6, .int (zI sn)), (7, .int (zI a))]) 1 rfl (by decide) rfl d_Mo_bestMatch_111 ?_
                      refine G_goto hX (tgt := 67) d_Mo_bestMatch_114 rfl ?_
                      refine G_iload hX 0 rfl d_Mo_bestMatch_67 ?_
                      refine G_iconst hX d_Mo_bestMatch_69 ?_
                      refine G_icmp_ge_z hX (tgt := 117) d_Mo_bestMatch_70 rfl (by omega) (fun c92 => ?_) (fun c93 => by exfalso; omega)
                      have hcn : cnP h so a (so + (p - bg)) := ⟨by assumption, by omega, by assumption, by assumption, by assumption⟩
                      rw [if_pos hcn] at hst
                      have hsm := cnt_b (p := fun r => decide (so + (p - bg) + r < so + (en - bg) ∧ h (a + r) = h (so + (p - bg) + r))) (B := so + (en - bg) - (so + (p - bg))) (r := 0) (by omega)
                      have hsm2 : 0 ≤ smF h a (so + (p - bg)) (so + (en - bg)) ∧ smF h a (so + (p - bg)) (so + (en - bg)) ≤ en - p := by unfold smF; omega
                      refine G_iload hX 1 rfl d_Mo_bestMatch_117 ?_
                      refine G_if_eq_z hX (tgt := 163) d_Mo_bestMatch_119 rfl (by omega) (fun c94 => by exfalso; omega) (fun c95 => ?_)
                      refine G_iinc_z hX (lv' := [(6, .int (zI (sn + 1))), (9, .int (zI ((((0 + 1) + 1) + 1) + 1))), (8, .int (zI 1)), (0, .ref (eA E 61)), (1, .int (zI p)), (2, .int (zI bg)), (3, .int (zI en)), (4, .int (zI ch)), (5, .int (zI (encF (mA, mS)))), (7, .int (zI a))]) 8 rfl (by decide) rfl d_Mo_bestMatch_122 ?_
                      refine G_aload_n hX 3 rfl rfl d_Mo_bestMatch_125 ?_
                      refine G_iload hX 9 rfl d_Mo_bestMatch_126 ?_
                      refine G_iload_n hX 4 rfl rfl d_Mo_bestMatch_128 ?_
                      refine G_iload_n hX 5 rfl rfl d_Mo_bestMatch_129 ?_
                      refine G_iload_n hX 6 rfl rfl d_Mo_bestMatch_130 ?_
                      refine F_callV hX (st := []) (c_Mo_matched E f8 F a p so bg en b h h18 hmk hF12 h25 hB hho hhn (by omega) (by omega) (by omega)) cm_Mo_matched im_Mo_matched se_Mo_matched rfl ml_Mo_265 d_Mo_bestMatch_131 (by decide) h18 rfl rfl (Nat.le_of_ble_eq_true rfl) (by decide) ?_
                      rintro _ f96 ⟨rfl, e99⟩
                      obtain rfl := e99.symm
                      refine G_cast (st' := [.int (zI (smF h a (so + (p - bg)) (so + (en - bg))))]) ?_ rfl rfl rfl rfl
                      refine G_istore hX (lv' := [(9, .int (zI (smF h a (so + (p - bg)) (so + (en - bg))))), (6, .int (zI (sn + 1))), (8, .int (zI 1)), (0, .ref (eA E 61)), (1, .int (zI p)), (2, .int (zI bg)), (3, .int (zI en)), (4, .int (zI ch)), (5, .int (zI (encF (mA, mS)))), (7, .int (zI a))]) (by decide) rfl d_Mo_bestMatch_134 ?_
                      refine G_iload hX 0 rfl d_Mo_bestMatch_136 ?_
                      refine G_iload hX 8 rfl d_Mo_bestMatch_138 ?_
                      refine G_sipush hX (by decide) d_Mo_bestMatch_140 ?_
                      refine G_irem_z hX (by omega) d_Mo_bestMatch_143 ?_
                      refine G_top (show zI ((encF (mA, mS)) % 1000) = zI mS from congrArg zI hem) ?_
                      refine G_icmp_le_z hX (tgt := 159) d_Mo_bestMatch_144 rfl (by omega) (fun c100 => ?_) (fun c101 => ?_)
                      · skip
                        refine G_iload hX 8 rfl d_Mo_bestMatch_159 ?_
                        refine G_istore hX (lv' := [(5, .int (zI (encF (mA, mS)))), (9, .int (zI (smF h a (so + (p - bg)) (so + (en - bg))))), (6, .int (zI (sn + 1))), (8, .int (zI 1)), (0, .ref (eA E 61)), (1, .int (zI p)), (2, .int (zI bg)), (3, .int (zI en)), (4, .int (zI ch)), (7, .int (zI a))]) (by decide) rfl d_Mo_bestMatch_161 ?_
                        refine G_iinc_z hX (lv' := [(7, .int (zI (a + (-1)))), (5, .int (zI (encF (mA, mS)))), (9, .int (zI (smF h a (so + (p - bg)) (so + (en - bg))))), (6, .int (zI (sn + 1))), (8, .int (zI 1)), (0, .ref (eA E 61)), (1, .int (zI p)), (2, .int (zI bg)), (3, .int (zI en)), (4, .int (zI ch))]) 9 rfl (by decide) rfl d_Mo_bestMatch_163 ?_
                        refine G_goto hX (tgt := 18) d_Mo_bestMatch_166 rfl ?_
                        rw [if_neg (by omega)] at hst
                        refine G_loc (lv' := [(0, .ref (eA E 61)), (1, .int (zI p)), (2, .int (zI bg)), (3, .int (zI en)), (4, .int (zI ch)), (5, .int (zI (encF (mA, mS)))), (6, .int (zI (sn + 1))), (7, .int (zI (a + (-1))))]) [5, 6, 7, 8, 9, 1, 3, 0] rfl ?_
                        exact ih11 (a - 1) (sn + 1) mA mS f8 (by omega) (by omega) (by omega) hst  (Fr.tr Fr.rf k9 (by decide))
                      · skip
                        refine G_sipush hX (by decide) d_Mo_bestMatch_147 ?_
                        refine G_iload hX 9 rfl d_Mo_bestMatch_150 ?_
                        refine G_imul_z hX d_Mo_bestMatch_152 ?_
                        refine G_iload hX 0 rfl d_Mo_bestMatch_153 ?_
                        refine G_iadd_z hX d_Mo_bestMatch_155 ?_
                        refine G_goto hX (tgt := 161) d_Mo_bestMatch_156 rfl ?_
                        refine G_istore hX (lv' := [(5, .int (zI ((1000 * a) + (smF h a (so + (p - bg)) (so + (en - bg)))))), (9, .int (zI (smF h a (so + (p - bg)) (so + (en - bg))))), (6, .int (zI (sn + 1))), (8, .int (zI 1)), (0, .ref (eA E 61)), (1, .int (zI p)), (2, .int (zI bg)), (3, .int (zI en)), (4, .int (zI ch)), (7, .int (zI a))]) (by decide) rfl d_Mo_bestMatch_161 ?_
                        refine G_iinc_z hX (lv' := [(7, .int (zI (a + (-1)))), (5, .int (zI ((1000 * a) + (smF h a (so + (p - bg)) (so + (en - bg)))))), (9, .int (zI (smF h a (so + (p - bg)) (so + (en - bg))))), (6, .int (zI (sn + 1))), (8, .int (zI 1)), (0, .ref (eA E 61)), (1, .int (zI p)), (2, .int (zI bg)), (3, .int (zI en)), (4, .int (zI ch))]) 9 rfl (by decide) rfl d_Mo_bestMatch_163 ?_
                        refine G_goto hX (tgt := 18) d_Mo_bestMatch_166 rfl ?_
                        rw [if_pos (by omega)] at hst
                        refine G_loc (lv' := [(0, .ref (eA E 61)), (1, .int (zI p)), (2, .int (zI bg)), (3, .int (zI en)), (4, .int (zI ch)), (5, .int (zI ((1000 * a) + (smF h a (so + (p - bg)) (so + (en - bg)))))), (6, .int (zI (sn + 1))), (7, .int (zI (a + (-1))))]) [5, 6, 7, 8, 9, 1, 3, 0] rfl ?_
                        refine G_cast (ih11 (a - 1) (sn + 1) a (smF h a (so + (p - bg)) (so + (en - bg))) f8 (by omega) (by omega) (by omega) hst  (Fr.tr Fr.rf k9 (by decide))) rfl (by rw [show encF (a, smF h a (so + (p - bg)) (so + (en - bg))) = 1000 * a + smF h a (so + (p - bg)) (so + (en - bg)) from if_neg (show ¬ smF h a (so + (p - bg)) (so + (en - bg)) = 0 by omega)]; rfl) rfl rfl
            · skip
              refine G_iload hX 7 rfl d_Mo_bestMatch_46 ?_
              refine G_iconst hX d_Mo_bestMatch_48 ?_
              refine G_iadd_z hX d_Mo_bestMatch_49 ?_
              refine G_aload_n hX 0 rfl rfl d_Mo_bestMatch_50 ?_
              refine M_get hX fg_Mo_249 d_Mo_bestMatch_51 h18 (by decide) hF12 ?_
              refine G_icmp_gt_z hX (tgt := 61) d_Mo_bestMatch_54 rfl (by omega) (fun c102 => ?_) (fun c103 => ?_)
              · skip
                refine G_iconst hX d_Mo_bestMatch_61 ?_
                refine G_istore hX (lv' := [(8, .int (zI 0)), (0, .ref (eA E 61)), (1, .int (zI p)), (2, .int (zI bg)), (3, .int (zI en)), (4, .int (zI ch)), (5, .int (zI (encF (mA, mS)))), (6, .int (zI sn)), (7, .int (zI a))]) (by decide) rfl d_Mo_bestMatch_62 ?_
                refine G_iconst hX d_Mo_bestMatch_64 ?_
                refine G_istore hX (lv' := [(9, .int (zI 0)), (8, .int (zI 0)), (0, .ref (eA E 61)), (1, .int (zI p)), (2, .int (zI bg)), (3, .int (zI en)), (4, .int (zI ch)), (5, .int (zI (encF (mA, mS)))), (6, .int (zI sn)), (7, .int (zI a))]) (by decide) rfl d_Mo_bestMatch_65 ?_
                refine G_iload hX 0 rfl d_Mo_bestMatch_67 ?_
                refine G_iconst hX d_Mo_bestMatch_69 ?_
                refine G_icmp_ge_z hX (tgt := 117) d_Mo_bestMatch_70 rfl (by omega) (fun c104 => by exfalso; omega) (fun c105 => ?_)
                refine G_iload hX 1 rfl d_Mo_bestMatch_73 ?_
                refine G_if_eq_z hX (tgt := 117) d_Mo_bestMatch_75 rfl (by omega) (fun c106 => ?_) (fun c107 => by exfalso; omega)
                have hcn : ¬ cnP h so a (so + (p - bg)) := by
                  rintro ⟨n1, n2, n3, n4, n5⟩
                  first | omega | contradiction
                rw [if_neg hcn] at hst
                refine G_iload hX 1 rfl d_Mo_bestMatch_117 ?_
                refine G_if_eq_z hX (tgt := 163) d_Mo_bestMatch_119 rfl (by omega) (fun c108 => ?_) (fun c109 => by exfalso; omega)
                refine G_iinc_z hX (lv' := [(7, .int (zI (a + (-1)))), (9, .int (zI 0)), (8, .int (zI 0)), (0, .ref (eA E 61)), (1, .int (zI p)), (2, .int (zI bg)), (3, .int (zI en)), (4, .int (zI ch)), (5, .int (zI (encF (mA, mS)))), (6, .int (zI sn))]) 9 rfl (by decide) rfl d_Mo_bestMatch_163 ?_
                refine G_goto hX (tgt := 18) d_Mo_bestMatch_166 rfl ?_
                refine G_loc (lv' := [(0, .ref (eA E 61)), (1, .int (zI p)), (2, .int (zI bg)), (3, .int (zI en)), (4, .int (zI ch)), (5, .int (zI (encF (mA, mS)))), (6, .int (zI sn)), (7, .int (zI (a + (-1))))]) [3, 4, 5, 6, 7, 8, 9, 0] rfl ?_
                exact ih11 (a - 1) sn mA mS f8 (by omega) (by omega) (by omega) hst  (Fr.tr Fr.rf k9 (by decide))
              · skip
                refine G_iconst hX d_Mo_bestMatch_57 ?_
                refine G_goto hX (tgt := 62) d_Mo_bestMatch_58 rfl ?_
                refine G_istore hX (lv' := [(8, .int (zI 1)), (0, .ref (eA E 61)), (1, .int (zI p)), (2, .int (zI bg)), (3, .int (zI en)), (4, .int (zI ch)), (5, .int (zI (encF (mA, mS)))), (6, .int (zI sn)), (7, .int (zI a))]) (by decide) rfl d_Mo_bestMatch_62 ?_
                refine G_iconst hX d_Mo_bestMatch_64 ?_
                refine G_istore hX (lv' := [(9, .int (zI 0)), (8, .int (zI 1)), (0, .ref (eA E 61)), (1, .int (zI p)), (2, .int (zI bg)), (3, .int (zI en)), (4, .int (zI ch)), (5, .int (zI (encF (mA, mS)))), (6, .int (zI sn)), (7, .int (zI a))]) (by decide) rfl d_Mo_bestMatch_65 ?_
                refine G_iload hX 0 rfl d_Mo_bestMatch_67 ?_
                refine G_iconst hX d_Mo_bestMatch_69 ?_
                refine G_icmp_ge_z hX (tgt := 117) d_Mo_bestMatch_70 rfl (by omega) (fun c110 => by exfalso; omega) (fun c111 => ?_)
                refine G_iload hX 1 rfl d_Mo_bestMatch_73 ?_
                refine G_if_eq_z hX (tgt := 117) d_Mo_bestMatch_75 rfl (by omega) (fun c112 => by exfalso; omega) (fun c113 => ?_)
                refine G_aload_n hX 2 rfl rfl d_Mo_bestMatch_78 ?_
                refine G_iload hX 9 rfl d_Mo_bestMatch_79 ?_
                refine G_iload hX 0 rfl d_Mo_bestMatch_81 ?_
                refine G_iadd_z hX d_Mo_bestMatch_83 ?_
                refine G_iload_n hX 4 rfl rfl d_Mo_bestMatch_84 ?_
                have h114 : f8 63 = iz E 1600 b := (k9 63 (List.not_mem_nil)).trans hc63
                refine F_callV hX (st := []) (c_Mo_both E f8 F (a + 0) so bg en b h h18 hmk hF12 h114 hB hho hhn (by omega) (by omega)) cm_Mo_both im_Mo_both se_Mo_both rfl ml_Mo_261 d_Mo_bestMatch_85 (by decide) h18 rfl rfl (Nat.le_of_ble_eq_true rfl) (by decide) ?_
                rintro _ f115 ⟨rfl, e118⟩
                obtain rfl := e118.symm
                refine G_cast (st' := [.int (zI (h (a + 0)))]) ?_ rfl rfl rfl rfl
                refine G_top (show zI (h (a + 0)) = zI (h (a)) from congrArg (fun q => zI (h q)) (by omega)) ?_
                have b119 := hB (a)
                refine G_aload_n hX 2 rfl rfl d_Mo_bestMatch_88 ?_
                refine M_get hX fg_Mo_77 d_Mo_bestMatch_89 h18 (by decide) (hmk 1 63 (by decide)) ?_
                refine G_sipush hX (by decide) d_Mo_bestMatch_92 ?_
                refine G_iload_n hX 3 rfl rfl d_Mo_bestMatch_95 ?_
                refine G_iadd_z hX d_Mo_bestMatch_96 ?_
                refine G_iload hX 0 rfl d_Mo_bestMatch_97 ?_
                refine G_iadd_z hX d_Mo_bestMatch_99 ?_
                refine F_iald hX d_Mo_bestMatch_100 63 (by decide) h114 (by omega) ?_
                refine G_top (show zI (b ((300 + p) + 0)) = zI (h (so + (p - bg))) from congrArg zI ((congrArg b (show _ = 300 + bg + ((so + (p - bg)) - so) by omega)).trans ((hhn ((so + (p - bg)) - so) (by omega) (by omega)).trans (congrArg h (by omega))))) ?_
                have b120 := hB (so + (p - bg))
                refine G_icmp_ne_z hX (tgt := 108) d_Mo_bestMatch_101 rfl (by omega) (fun c121 => ?_) (fun c122 => ?_)
                · skip
                  refine G_iconst hX d_Mo_bestMatch_108 ?_
                  refine G_istore hX (lv' := [(8, .int (zI 0)), (9, .int (zI 0)), (0, .ref (eA E 61)), (1, .int (zI p)), (2, .int (zI bg)), (3, .int (zI en)), (4, .int (zI ch)), (5, .int (zI (encF (mA, mS)))), (6, .int (zI sn)), (7, .int (zI a))]) (by decide) rfl d_Mo_bestMatch_109 ?_
                  refine G_iinc_z hX (lv' := [(9, .int (zI (0 + 1))), (8, .int (zI 0)), (0, .ref (eA E 61)), (1, .int (zI p)), (2, .int (zI bg)), (3, .int (zI en)), (4, .int (zI ch)), (5, .int (zI (encF (mA, mS)))), (6, .int (zI sn)), (7, .int (zI a))]) 1 rfl (by decide) rfl d_Mo_bestMatch_111 ?_
                  refine G_goto hX (tgt := 67) d_Mo_bestMatch_114 rfl ?_
                  refine G_iload hX 0 rfl d_Mo_bestMatch_67 ?_
                  refine G_iconst hX d_Mo_bestMatch_69 ?_
                  refine G_icmp_ge_z hX (tgt := 117) d_Mo_bestMatch_70 rfl (by omega) (fun c123 => by exfalso; omega) (fun c124 => ?_)
                  refine G_iload hX 1 rfl d_Mo_bestMatch_73 ?_
                  refine G_if_eq_z hX (tgt := 117) d_Mo_bestMatch_75 rfl (by omega) (fun c125 => ?_) (fun c126 => by exfalso; omega)
                  have hcn : ¬ cnP h so a (so + (p - bg)) := by
                    rintro ⟨n1, n2, n3, n4, n5⟩
                    first | omega | contradiction
                  rw [if_neg hcn] at hst
                  refine G_iload hX 1 rfl d_Mo_bestMatch_117 ?_
                  refine G_if_eq_z hX (tgt := 163) d_Mo_bestMatch_119 rfl (by omega) (fun c127 => ?_) (fun c128 => by exfalso; omega)
                  refine G_iinc_z hX (lv' := [(7, .int (zI (a + (-1)))), (9, .int (zI (0 + 1))), (8, .int (zI 0)), (0, .ref (eA E 61)), (1, .int (zI p)), (2, .int (zI bg)), (3, .int (zI en)), (4, .int (zI ch)), (5, .int (zI (encF (mA, mS)))), (6, .int (zI sn))]) 9 rfl (by decide) rfl d_Mo_bestMatch_163 ?_
                  refine G_goto hX (tgt := 18) d_Mo_bestMatch_166 rfl ?_
                  refine G_loc (lv' := [(0, .ref (eA E 61)), (1, .int (zI p)), (2, .int (zI bg)), (3, .int (zI en)), (4, .int (zI ch)), (5, .int (zI (encF (mA, mS)))), (6, .int (zI sn)), (7, .int (zI (a + (-1))))]) [3, 4, 5, 6, 7, 8, 9, 0] rfl ?_
                  exact ih11 (a - 1) sn mA mS f8 (by omega) (by omega) (by omega) hst  (Fr.tr Fr.rf k9 (by decide))
                · skip
                  refine G_iconst hX d_Mo_bestMatch_104 ?_
                  refine G_goto hX (tgt := 109) d_Mo_bestMatch_105 rfl ?_
                  refine G_istore hX (lv' := [(8, .int (zI 1)), (9, .int (zI 0)), (0, .ref (eA E 61)), (1, .int (zI p)), (2, .int (zI bg)), (3, .int (zI en)), (4, .int (zI ch)), (5, .int (zI (encF (mA, mS)))), (6, .int (zI sn)), (7, .int (zI a))]) (by decide) rfl d_Mo_bestMatch_109 ?_
                  refine G_iinc_z hX (lv' := [(9, .int (zI (0 + 1))), (8, .int (zI 1)), (0, .ref (eA E 61)), (1, .int (zI p)), (2, .int (zI bg)), (3, .int (zI en)), (4, .int (zI ch)), (5, .int (zI (encF (mA, mS)))), (6, .int (zI sn)), (7, .int (zI a))]) 1 rfl (by decide) rfl d_Mo_bestMatch_111 ?_
                  refine G_goto hX (tgt := 67) d_Mo_bestMatch_114 rfl ?_
                  refine G_iload hX 0 rfl d_Mo_bestMatch_67 ?_
                  refine G_iconst hX d_Mo_bestMatch_69 ?_
                  refine G_icmp_ge_z hX (tgt := 117) d_Mo_bestMatch_70 rfl (by omega) (fun c129 => by exfalso; omega) (fun c130 => ?_)
                  refine G_iload hX 1 rfl d_Mo_bestMatch_73 ?_
                  refine G_if_eq_z hX (tgt := 117) d_Mo_bestMatch_75 rfl (by omega) (fun c131 => by exfalso; omega) (fun c132 => ?_)
                  refine G_aload_n hX 2 rfl rfl d_Mo_bestMatch_78 ?_
                  refine G_iload hX 9 rfl d_Mo_bestMatch_79 ?_
                  refine G_iload hX 0 rfl d_Mo_bestMatch_81 ?_
                  refine G_iadd_z hX d_Mo_bestMatch_83 ?_
                  refine G_iload_n hX 4 rfl rfl d_Mo_bestMatch_84 ?_
                  refine F_callV hX (st := []) (c_Mo_both E f8 F (a + (0 + 1)) so bg en b h h18 hmk hF12 h114 hB hho hhn (by omega) (by omega)) cm_Mo_both im_Mo_both se_Mo_both rfl ml_Mo_261 d_Mo_bestMatch_85 (by decide) h18 rfl rfl (Nat.le_of_ble_eq_true rfl) (by decide) ?_
                  rintro _ f133 ⟨rfl, e136⟩
                  obtain rfl := e136.symm
                  refine G_cast (st' := [.int (zI (h (a + (0 + 1))))]) ?_ rfl rfl rfl rfl
                  refine G_top (show zI (h (a + (0 + 1))) = zI (h (a + 1)) from congrArg (fun q => zI (h q)) (by omega)) ?_
                  have b137 := hB (a + 1)
                  refine G_aload_n hX 2 rfl rfl d_Mo_bestMatch_88 ?_
                  refine M_get hX fg_Mo_77 d_Mo_bestMatch_89 h18 (by decide) (hmk 1 63 (by decide)) ?_
                  refine G_sipush hX (by decide) d_Mo_bestMatch_92 ?_
                  refine G_iload_n hX 3 rfl rfl d_Mo_bestMatch_95 ?_
                  refine G_iadd_z hX d_Mo_bestMatch_96 ?_
                  refine G_iload hX 0 rfl d_Mo_bestMatch_97 ?_
                  refine G_iadd_z hX d_Mo_bestMatch_99 ?_
                  refine F_iald hX d_Mo_bestMatch_100 63 (by decide) h114 (by omega) ?_
                  refine G_top (show zI (b ((300 + p) + (0 + 1))) = zI (h (so + (p - bg) + 1)) from congrArg zI ((congrArg b (show _ = 300 + bg + ((so + (p - bg) + 1) - so) by omega)).trans ((hhn ((so + (p - bg) + 1) - so) (by omega) (by omega)).trans (congrArg h (by omega))))) ?_
                  have b138 := hB (so + (p - bg) + 1)
                  refine G_icmp_ne_z hX (tgt := 108) d_Mo_bestMatch_101 rfl (by omega) (fun c139 => ?_) (fun c140 => ?_)
                  · skip
                    refine G_iconst hX d_Mo_bestMatch_108 ?_
                    refine G_istore hX (lv' := [(8, .int (zI 0)), (9, .int (zI (0 + 1))), (0, .ref (eA E 61)), (1, .int (zI p)), (2, .int (zI bg)), (3, .int (zI en)), (4, .int (zI ch)), (5, .int (zI (encF (mA, mS)))), (6, .int (zI sn)), (7, .int (zI a))]) (by decide) rfl d_Mo_bestMatch_109 ?_
                    refine G_iinc_z hX (lv' := [(9, .int (zI ((0 + 1) + 1))), (8, .int (zI 0)), (0, .ref (eA E 61)), (1, .int (zI p)), (2, .int (zI bg)), (3, .int (zI en)), (4, .int (zI ch)), (5, .int (zI (encF (mA, mS)))), (6, .int (zI sn)), (7, .int (zI a))]) 1 rfl (by decide) rfl d_Mo_bestMatch_111 ?_
                    refine G_goto hX (tgt := 67) d_Mo_bestMatch_114 rfl ?_
                    refine G_iload hX 0 rfl d_Mo_bestMatch_67 ?_
                    refine G_iconst hX d_Mo_bestMatch_69 ?_
                    refine G_icmp_ge_z hX (tgt := 117) d_Mo_bestMatch_70 rfl (by omega) (fun c141 => by exfalso; omega) (fun c142 => ?_)
                    refine G_iload hX 1 rfl d_Mo_bestMatch_73 ?_
                    refine G_if_eq_z hX (tgt := 117) d_Mo_bestMatch_75 rfl (by omega) (fun c143 => ?_) (fun c144 => by exfalso; omega)
                    have hcn : ¬ cnP h so a (so + (p - bg)) := by
                      rintro ⟨n1, n2, n3, n4, n5⟩
                      first | omega | contradiction
                    rw [if_neg hcn] at hst
                    refine G_iload hX 1 rfl d_Mo_bestMatch_117 ?_
                    refine G_if_eq_z hX (tgt := 163) d_Mo_bestMatch_119 rfl (by omega) (fun c145 => ?_) (fun c146 => by exfalso; omega)
                    refine G_iinc_z hX (lv' := [(7, .int (zI (a + (-1)))), (9, .int (zI ((0 + 1) + 1))), (8, .int (zI 0)), (0, .ref (eA E 61)), (1, .int (zI p)), (2, .int (zI bg)), (3, .int (zI en)), (4, .int (zI ch)), (5, .int (zI (encF (mA, mS)))), (6, .int (zI sn))]) 9 rfl (by decide) rfl d_Mo_bestMatch_163 ?_
                    refine G_goto hX (tgt := 18) d_Mo_bestMatch_166 rfl ?_
                    refine G_loc (lv' := [(0, .ref (eA E 61)), (1, .int (zI p)), (2, .int (zI bg)), (3, .int (zI en)), (4, .int (zI ch)), (5, .int (zI (encF (mA, mS)))), (6, .int (zI sn)), (7, .int (zI (a + (-1))))]) [3, 4, 5, 6, 7, 8, 9, 0] rfl ?_
                    exact ih11 (a - 1) sn mA mS f8 (by omega) (by omega) (by omega) hst  (Fr.tr Fr.rf k9 (by decide))
                  · skip
                    refine G_iconst hX d_Mo_bestMatch_104 ?_
                    refine G_goto hX (tgt := 109) d_Mo_bestMatch_105 rfl ?_
                    refine G_istore hX (lv' := [(8, .int (zI 1)), (9, .int (zI (0 + 1))), (0, .ref (eA E 61)), (1, .int (zI p)), (2, .int (zI bg)), (3, .int (zI en)), (4, .int (zI ch)), (5, .int (zI (encF (mA, mS)))), (6, .int (zI sn)), (7, .int (zI a))]) (by decide) rfl d_Mo_bestMatch_109 ?_
                    refine G_iinc_z hX (lv' := [(9, .int (zI ((0 + 1) + 1))), (8, .int (zI 1)), (0, .ref (eA E 61)), (1, .int (zI p)), (2, .int (zI bg)), (3, .int (zI en)), (4, .int (zI ch)), (5, .int (zI (encF (mA, mS)))), (6, .int (zI sn)), (7, .int (zI a))]) 1 rfl (by decide) rfl d_Mo_bestMatch_111 ?_
                    refine G_goto hX (tgt := 67) d_Mo_bestMatch_114 rfl ?_
                    refine G_iload hX 0 rfl d_Mo_bestMatch_67 ?_
                    refine G_iconst hX d_Mo_bestMatch_69 ?_
                    refine G_icmp_ge_z hX (tgt := 117) d_Mo_bestMatch_70 rfl (by omega) (fun c147 => by exfalso; omega) (fun c148 => ?_)
                    refine G_iload hX 1 rfl d_Mo_bestMatch_73 ?_
                    refine G_if_eq_z hX (tgt := 117) d_Mo_bestMatch_75 rfl (by omega) (fun c149 => by exfalso; omega) (fun c150 => ?_)
                    refine G_aload_n hX 2 rfl rfl d_Mo_bestMatch_78 ?_
                    refine G_iload hX 9 rfl d_Mo_bestMatch_79 ?_
                    refine G_iload hX 0 rfl d_Mo_bestMatch_81 ?_
                    refine G_iadd_z hX d_Mo_bestMatch_83 ?_
                    refine G_iload_n hX 4 rfl rfl d_Mo_bestMatch_84 ?_
                    refine F_callV hX (st := []) (c_Mo_both E f8 F (a + ((0 + 1) + 1)) so bg en b h h18 hmk hF12 h114 hB hho hhn (by omega) (by omega)) cm_Mo_both im_Mo_both se_Mo_both rfl ml_Mo_261 d_Mo_bestMatch_85 (by decide) h18 rfl rfl (Nat.le_of_ble_eq_true rfl) (by decide) ?_
                    rintro _ f151 ⟨rfl, e154⟩
                    obtain rfl := e154.symm
                    refine G_cast (st' := [.int (zI (h (a + ((0 + 1) + 1))))]) ?_ rfl rfl rfl rfl
                    refine G_top (show zI (h (a + ((0 + 1) + 1))) = zI (h (a + 2)) from congrArg (fun q => zI (h q)) (by omega)) ?_
                    have b155 := hB (a + 2)
                    refine G_aload_n hX 2 rfl rfl d_Mo_bestMatch_88 ?_
                    refine M_get hX fg_Mo_77 d_Mo_bestMatch_89 h18 (by decide) (hmk 1 63 (by decide)) ?_
                    refine G_sipush hX (by decide) d_Mo_bestMatch_92 ?_
                    refine G_iload_n hX 3 rfl rfl d_Mo_bestMatch_95 ?_
                    refine G_iadd_z hX d_Mo_bestMatch_96 ?_
                    refine G_iload hX 0 rfl d_Mo_bestMatch_97 ?_
                    refine G_iadd_z hX d_Mo_bestMatch_99 ?_
                    refine F_iald hX d_Mo_bestMatch_100 63 (by decide) h114 (by omega) ?_
                    refine G_top (show zI (b ((300 + p) + ((0 + 1) + 1))) = zI (h (so + (p - bg) + 2)) from congrArg zI ((congrArg b (show _ = 300 + bg + ((so + (p - bg) + 2) - so) by omega)).trans ((hhn ((so + (p - bg) + 2) - so) (by omega) (by omega)).trans (congrArg h (by omega))))) ?_
                    have b156 := hB (so + (p - bg) + 2)
                    refine G_icmp_ne_z hX (tgt := 108) d_Mo_bestMatch_101 rfl (by omega) (fun c157 => ?_) (fun c158 => ?_)
                    · skip
                      refine G_iconst hX d_Mo_bestMatch_108 ?_
                      refine G_istore hX (lv' := [(8, .int (zI 0)), (9, .int (zI ((0 + 1) + 1))), (0, .ref (eA E 61)), (1, .int (zI p)), (2, .int (zI bg)), (3, .int (zI en)), (4, .int (zI ch)), (5, .int (zI (encF (mA, mS)))), (6, .int (zI sn)), (7, .int (zI a))]) (by decide) rfl d_Mo_bestMatch_109 ?_
                      refine G_iinc_z hX (lv' := [(9, .int (zI (((0 + 1) + 1) + 1))), (8, .int (zI 0)), (0, .ref (eA E 61)), (1, .int (zI p)), (2, .int (zI bg)), (3, .int (zI en)), (4, .int (zI ch)), (5, .int (zI (encF (mA, mS)))), (6, .int (zI sn)), (7, .int (zI a))]) 1 rfl (by decide) rfl d_Mo_bestMatch_111 ?_
                      refine G_goto hX (tgt := 67) d_Mo_bestMatch_114 rfl ?_
                      refine G_iload hX 0 rfl d_Mo_bestMatch_67 ?_
                      refine G_iconst hX d_Mo_bestMatch_69 ?_
                      refine G_icmp_ge_z hX (tgt := 117) d_Mo_bestMatch_70 rfl (by omega) (fun c159 => by exfalso; omega) (fun c160 => ?_)
                      refine G_iload hX 1 rfl d_Mo_bestMatch_73 ?_
                      refine G_if_eq_z hX (tgt := 117) d_Mo_bestMatch_75 rfl (by omega) (fun c161 => ?_) (fun c162 => by exfalso; omega)
                      have hcn : ¬ cnP h so a (so + (p - bg)) := by
                        rintro ⟨n1, n2, n3, n4, n5⟩
                        first | omega | contradiction
                      rw [if_neg hcn] at hst
                      refine G_iload hX 1 rfl d_Mo_bestMatch_117 ?_
                      refine G_if_eq_z hX (tgt := 163) d_Mo_bestMatch_119 rfl (by omega) (fun c163 => ?_) (fun c164 => by exfalso; omega)
                      refine G_iinc_z hX (lv' := [(7, .int (zI (a + (-1)))), (9, .int (zI (((0 + 1) + 1) + 1))), (8, .int (zI 0)), (0, .ref (eA E 61)), (1, .int (zI p)), (2, .int (zI bg)), (3, .int (zI en)), (4, .int (zI ch)), (5, .int (zI (encF (mA, mS)))), (6, .int (zI sn))]) 9 rfl (by decide) rfl d_Mo_bestMatch_163 ?_
                      refine G_goto hX (tgt := 18) d_Mo_bestMatch_166 rfl ?_
                      refine G_loc (lv' := [(0, .ref (eA E 61)), (1, .int (zI p)), (2, .int (zI bg)), (3, .int (zI en)), (4, .int (zI ch)), (5, .int (zI (encF (mA, mS)))), (6, .int (zI sn)), (7, .int (zI (a + (-1))))]) [3, 4, 5, 6, 7, 8, 9, 0] rfl ?_
                      exact ih11 (a - 1) sn mA mS f8 (by omega) (by omega) (by omega) hst  (Fr.tr Fr.rf k9 (by decide))
                    · skip
                      refine G_iconst hX d_Mo_bestMatch_104 ?_
                      refine G_goto hX (tgt := 109) d_Mo_bestMatch_105 rfl ?_
                      refine G_istore hX (lv' := [(8, .int (zI 1)), (9, .int (zI ((0 + 1) + 1))), (0, .ref (eA E 61)), (1, .int (zI p)), (2, .int (zI bg)), (3, .int (zI en)), (4, .int (zI ch)), (5, .int (zI (encF (mA, mS)))), (6, .int (zI sn)), (7, .int (zI a))]) (by decide) rfl d_Mo_bestMatch_109 ?_
                      refine G_iinc_z hX (lv' := [(9, .int (zI (((0 + 1) + 1) + 1))), (8, .int (zI 1)), (0, .ref (eA E 61)), (1, .int (zI p)), (2, .int (zI bg)), (3, .int (zI en)), (4, .int (zI ch)), (5, .int (zI (encF (mA, mS)))), (6, .int (zI sn)), (7, .int (zI a))]) 1 rfl (by decide) rfl d_Mo_bestMatch_111 ?_
                      refine G_goto hX (tgt := 67) d_Mo_bestMatch_114 rfl ?_
                      refine G_iload hX 0 rfl d_Mo_bestMatch_67 ?_
                      refine G_iconst hX d_Mo_bestMatch_69 ?_
                      refine G_icmp_ge_z hX (tgt := 117) d_Mo_bestMatch_70 rfl (by omega) (fun c165 => by exfalso; omega) (fun c166 => ?_)
                      refine G_iload hX 1 rfl d_Mo_bestMatch_73 ?_
                      refine G_if_eq_z hX (tgt := 117) d_Mo_bestMatch_75 rfl (by omega) (fun c167 => by exfalso; omega) (fun c168 => ?_)
                      refine G_aload_n hX 2 rfl rfl d_Mo_bestMatch_78 ?_
                      refine G_iload hX 9 rfl d_Mo_bestMatch_79 ?_
                      refine G_iload hX 0 rfl d_Mo_bestMatch_81 ?_
                      refine G_iadd_z hX d_Mo_bestMatch_83 ?_
                      refine G_iload_n hX 4 rfl rfl d_Mo_bestMatch_84 ?_
                      refine F_callV hX (st := []) (c_Mo_both E f8 F (a + (((0 + 1) + 1) + 1)) so bg en b h h18 hmk hF12 h114 hB hho hhn (by omega) (by omega)) cm_Mo_both im_Mo_both se_Mo_both rfl ml_Mo_261 d_Mo_bestMatch_85 (by decide) h18 rfl rfl (Nat.le_of_ble_eq_true rfl) (by decide) ?_
                      rintro _ f169 ⟨rfl, e172⟩
                      obtain rfl := e172.symm
                      refine G_cast (st' := [.int (zI (h (a + (((0 + 1) + 1) + 1))))]) ?_ rfl rfl rfl rfl
                      refine G_top (show zI (h (a + (((0 + 1) + 1) + 1))) = zI (h (a + 3)) from congrArg (fun q => zI (h q)) (by omega)) ?_
                      have b173 := hB (a + 3)
                      refine G_aload_n hX 2 rfl rfl d_Mo_bestMatch_88 ?_
                      refine M_get hX fg_Mo_77 d_Mo_bestMatch_89 h18 (by decide) (hmk 1 63 (by decide)) ?_
                      refine G_sipush hX (by decide) d_Mo_bestMatch_92 ?_
                      refine G_iload_n hX 3 rfl rfl d_Mo_bestMatch_95 ?_
                      refine G_iadd_z hX d_Mo_bestMatch_96 ?_
                      refine G_iload hX 0 rfl d_Mo_bestMatch_97 ?_
                      refine G_iadd_z hX d_Mo_bestMatch_99 ?_
                      refine F_iald hX d_Mo_bestMatch_100 63 (by decide) h114 (by omega) ?_
                      refine G_top (show zI (b ((300 + p) + (((0 + 1) + 1) + 1))) = zI (h (so + (p - bg) + 3)) from congrArg zI ((congrArg b (show _ = 300 + bg + ((so + (p - bg) + 3) - so) by omega)).trans ((hhn ((so + (p - bg) + 3) - so) (by omega) (by omega)).trans (congrArg h (by omega))))) ?_
                      have b174 := hB (so + (p - bg) + 3)
                      refine G_icmp_ne_z hX (tgt := 108) d_Mo_bestMatch_101 rfl (by omega) (fun c175 => ?_) (fun c176 => ?_)
                      · skip
                        refine G_iconst hX d_Mo_bestMatch_108 ?_
                        refine G_istore hX (lv' := [(8, .int (zI 0)), (9, .int (zI (((0 + 1) + 1) + 1))), (0, .ref (eA E 61)), (1, .int (zI p)), (2, .int (zI bg)), (3, .int (zI en)), (4, .int (zI ch)), (5, .int (zI (encF (mA, mS)))), (6, .int (zI sn)), (7, .int (zI a))]) (by decide) rfl d_Mo_bestMatch_109 ?_
                        refine G_iinc_z hX (lv' := [(9, .int (zI ((((0 + 1) + 1) + 1) + 1))), (8, .int (zI 0)), (0, .ref (eA E 61)), (1, .int (zI p)), (2, .int (zI bg)), (3, .int (zI en)), (4, .int (zI ch)), (5, .int (zI (encF (mA, mS)))), (6, .int (zI sn)), (7, .int (zI a))]) 1 rfl (by decide) rfl d_Mo_bestMatch_111 ?_
                        refine G_goto hX (tgt := 67) d_Mo_bestMatch_114 rfl ?_
                        refine G_iload hX 0 rfl d_Mo_bestMatch_67 ?_
                        refine G_iconst hX d_Mo_bestMatch_69 ?_
                        refine G_icmp_ge_z hX (tgt := 117) d_Mo_bestMatch_70 rfl (by omega) (fun c177 => ?_) (fun c178 => by exfalso; omega)
                        have hcn : ¬ cnP h so a (so + (p - bg)) := by
                          rintro ⟨n1, n2, n3, n4, n5⟩
                          first | omega | contradiction
                        rw [if_neg hcn] at hst
                        refine G_iload hX 1 rfl d_Mo_bestMatch_117 ?_
                        refine G_if_eq_z hX (tgt := 163) d_Mo_bestMatch_119 rfl (by omega) (fun c179 => ?_) (fun c180 => by exfalso; omega)
                        refine G_iinc_z hX (lv' := [(7, .int (zI (a + (-1)))), (9, .int (zI ((((0 + 1) + 1) + 1) + 1))), (8, .int (zI 0)), (0, .ref (eA E 61)), (1, .int (zI p)), (2, .int (zI bg)), (3, .int (zI en)), (4, .int (zI ch)), (5, .int (zI (encF (mA, mS)))), (6, .int (zI sn))]) 9 rfl (by decide) rfl d_Mo_bestMatch_163 ?_
                        refine G_goto hX (tgt := 18) d_Mo_bestMatch_166 rfl ?_
                        refine G_loc (lv' := [(0, .ref (eA E 61)), (1, .int (zI p)), (2, .int (zI bg)), (3, .int (zI en)), (4, .int (zI ch)), (5, .int (zI (encF (mA, mS)))), (6, .int (zI sn)), (7, .int (zI (a + (-1))))]) [3, 4, 5, 6, 7, 8, 9, 0] rfl ?_
                        exact ih11 (a - 1) sn mA mS f8 (by omega) (by omega) (by omega) hst  (Fr.tr Fr.rf k9 (by decide))
                      · skip
                        refine G_iconst hX d_Mo_bestMatch_104 ?_
                        refine G_goto hX (tgt := 109) d_Mo_bestMatch_105 rfl ?_
                        refine G_istore hX (lv' := [(8, .int (zI 1)), (9, .int (zI (((0 + 1) + 1) + 1))), (0, .ref (eA E 61)), (1, .int (zI p)), (2, .int (zI bg)), (3, .int (zI en)), (4, .int (zI ch)), (5, .int (zI (encF (mA, mS)))), (6, .int (zI sn)), (7, .int (zI a))]) (by decide) rfl d_Mo_bestMatch_109 ?_
                        refine G_iinc_z hX (lv' := [(9, .int (zI ((((0 + 1) + 1) + 1) + 1))), (8, .int (zI 1)), (0, .ref (eA E 61)), (1, .int (zI p)), (2, .int (zI bg)), (3, .int (zI en)), (4, .int (zI ch)), (5, .int (zI (encF (mA, mS)))), (6, .int (zI sn)), (7, .int (zI a))]) 1 rfl (by decide) rfl d_Mo_bestMatch_111 ?_
                        refine G_goto hX (tgt := 67) d_Mo_bestMatch_114 rfl ?_
                        refine G_iload hX 0 rfl d_Mo_bestMatch_67 ?_
                        refine G_iconst hX d_Mo_bestMatch_69 ?_
                        refine G_icmp_ge_z hX (tgt := 117) d_Mo_bestMatch_70 rfl (by omega) (fun c181 => ?_) (fun c182 => by exfalso; omega)
                        have hcn : cnP h so a (so + (p - bg)) := ⟨by assumption, by omega, by assumption, by assumption, by assumption⟩
                        rw [if_pos hcn] at hst
                        have hsm := cnt_b (p := fun r => decide (so + (p - bg) + r < so + (en - bg) ∧ h (a + r) = h (so + (p - bg) + r))) (B := so + (en - bg) - (so + (p - bg))) (r := 0) (by omega)
                        have hsm2 : 0 ≤ smF h a (so + (p - bg)) (so + (en - bg)) ∧ smF h a (so + (p - bg)) (so + (en - bg)) ≤ en - p := by unfold smF; omega
                        refine G_iload hX 1 rfl d_Mo_bestMatch_117 ?_
                        refine G_if_eq_z hX (tgt := 163) d_Mo_bestMatch_119 rfl (by omega) (fun c183 => by exfalso; omega) (fun c184 => ?_)
                        refine G_iinc_z hX (lv' := [(6, .int (zI (sn + 1))), (9, .int (zI ((((0 + 1) + 1) + 1) + 1))), (8, .int (zI 1)), (0, .ref (eA E 61)), (1, .int (zI p)), (2, .int (zI bg)), (3, .int (zI en)), (4, .int (zI ch)), (5, .int (zI (encF (mA, mS)))), (7, .int (zI a))]) 8 rfl (by decide) rfl d_Mo_bestMatch_122 ?_
                        refine G_aload_n hX 3 rfl rfl d_Mo_bestMatch_125 ?_
                        refine G_iload hX 9 rfl d_Mo_bestMatch_126 ?_
                        refine G_iload_n hX 4 rfl rfl d_Mo_bestMatch_128 ?_
                        refine G_iload_n hX 5 rfl rfl d_Mo_bestMatch_129 ?_
                        refine G_iload_n hX 6 rfl rfl d_Mo_bestMatch_130 ?_
                        refine F_callV hX (st := []) (c_Mo_matched E f8 F a p so bg en b h h18 hmk hF12 h114 hB hho hhn (by omega) (by omega) (by omega)) cm_Mo_matched im_Mo_matched se_Mo_matched rfl ml_Mo_265 d_Mo_bestMatch_131 (by decide) h18 rfl rfl (Nat.le_of_ble_eq_true rfl) (by decide) ?_
                        rintro _ f185 ⟨rfl, e188⟩
                        obtain rfl := e188.symm
                        refine G_cast (st' := [.int (zI (smF h a (so + (p - bg)) (so + (en - bg))))]) ?_ rfl rfl rfl rfl
                        refine G_istore hX (lv' := [(9, .int (zI (smF h a (so + (p - bg)) (so + (en - bg))))), (6, .int (zI (sn + 1))), (8, .int (zI 1)), (0, .ref (eA E 61)), (1, .int (zI p)), (2, .int (zI bg)), (3, .int (zI en)), (4, .int (zI ch)), (5, .int (zI (encF (mA, mS)))), (7, .int (zI a))]) (by decide) rfl d_Mo_bestMatch_134 ?_
                        refine G_iload hX 0 rfl d_Mo_bestMatch_136 ?_
                        refine G_iload hX 8 rfl d_Mo_bestMatch_138 ?_
                        refine G_sipush hX (by decide) d_Mo_bestMatch_140 ?_
                        refine G_irem_z hX (by omega) d_Mo_bestMatch_143 ?_
                        refine G_top (show zI ((encF (mA, mS)) % 1000) = zI mS from congrArg zI hem) ?_
                        refine G_icmp_le_z hX (tgt := 159) d_Mo_bestMatch_144 rfl (by omega) (fun c189 => ?_) (fun c190 => ?_)
                        · skip
                          refine G_iload hX 8 rfl d_Mo_bestMatch_159 ?_
                          refine G_istore hX (lv' := [(5, .int (zI (encF (mA, mS)))), (9, .int (zI (smF h a (so + (p - bg)) (so + (en - bg))))), (6, .int (zI (sn + 1))), (8, .int (zI 1)), (0, .ref (eA E 61)), (1, .int (zI p)), (2, .int (zI bg)), (3, .int (zI en)), (4, .int (zI ch)), (7, .int (zI a))]) (by decide) rfl d_Mo_bestMatch_161 ?_
                          refine G_iinc_z hX (lv' := [(7, .int (zI (a + (-1)))), (5, .int (zI (encF (mA, mS)))), (9, .int (zI (smF h a (so + (p - bg)) (so + (en - bg))))), (6, .int (zI (sn + 1))), (8, .int (zI 1)), (0, .ref (eA E 61)), (1, .int (zI p)), (2, .int (zI bg)), (3, .int (zI en)), (4, .int (zI ch))]) 9 rfl (by decide) rfl d_Mo_bestMatch_163 ?_
                          refine G_goto hX (tgt := 18) d_Mo_bestMatch_166 rfl ?_
                          rw [if_neg (by omega)] at hst
                          refine G_loc (lv' := [(0, .ref (eA E 61)), (1, .int (zI p)), (2, .int (zI bg)), (3, .int (zI en)), (4, .int (zI ch)), (5, .int (zI (encF (mA, mS)))), (6, .int (zI (sn + 1))), (7, .int (zI (a + (-1))))]) [5, 6, 7, 8, 9, 1, 3, 0] rfl ?_
                          exact ih11 (a - 1) (sn + 1) mA mS f8 (by omega) (by omega) (by omega) hst  (Fr.tr Fr.rf k9 (by decide))
                        · skip
                          refine G_sipush hX (by decide) d_Mo_bestMatch_147 ?_
                          refine G_iload hX 9 rfl d_Mo_bestMatch_150 ?_
                          refine G_imul_z hX d_Mo_bestMatch_152 ?_
                          refine G_iload hX 0 rfl d_Mo_bestMatch_153 ?_
                          refine G_iadd_z hX d_Mo_bestMatch_155 ?_
                          refine G_goto hX (tgt := 161) d_Mo_bestMatch_156 rfl ?_
                          refine G_istore hX (lv' := [(5, .int (zI ((1000 * a) + (smF h a (so + (p - bg)) (so + (en - bg)))))), (9, .int (zI (smF h a (so + (p - bg)) (so + (en - bg))))), (6, .int (zI (sn + 1))), (8, .int (zI 1)), (0, .ref (eA E 61)), (1, .int (zI p)), (2, .int (zI bg)), (3, .int (zI en)), (4, .int (zI ch)), (7, .int (zI a))]) (by decide) rfl d_Mo_bestMatch_161 ?_
                          refine G_iinc_z hX (lv' := [(7, .int (zI (a + (-1)))), (5, .int (zI ((1000 * a) + (smF h a (so + (p - bg)) (so + (en - bg)))))), (9, .int (zI (smF h a (so + (p - bg)) (so + (en - bg))))), (6, .int (zI (sn + 1))), (8, .int (zI 1)), (0, .ref (eA E 61)), (1, .int (zI p)), (2, .int (zI bg)), (3, .int (zI en)), (4, .int (zI ch))]) 9 rfl (by decide) rfl d_Mo_bestMatch_163 ?_
                          refine G_goto hX (tgt := 18) d_Mo_bestMatch_166 rfl ?_
                          rw [if_pos (by omega)] at hst
                          refine G_loc (lv' := [(0, .ref (eA E 61)), (1, .int (zI p)), (2, .int (zI bg)), (3, .int (zI en)), (4, .int (zI ch)), (5, .int (zI ((1000 * a) + (smF h a (so + (p - bg)) (so + (en - bg)))))), (6, .int (zI (sn + 1))), (7, .int (zI (a + (-1))))]) [5, 6, 7, 8, 9, 1, 3, 0] rfl ?_
                          refine G_cast (ih11 (a - 1) (sn + 1) a (smF h a (so + (p - bg)) (so + (en - bg))) f8 (by omega) (by omega) (by omega) hst  (Fr.tr Fr.rf k9 (by decide))) rfl (by rw [show encF (a, smF h a (so + (p - bg)) (so + (en - bg))) = 1000 * a + smF h a (so + (p - bg)) (so + (en - bg)) from if_neg (show ¬ smF h a (so + (p - bg)) (so + (en - bg)) = 0 by omega)]; rfl) rfl rfl
    refine G_loc (lv' := [(0, .ref (eA E 61)), (1, .int (zI p)), (2, .int (zI bg)), (3, .int (zI en)), (4, .int (zI ch)), (5, .int (zI 0)), (6, .int (zI 0)), (7, .int (zI (((so + p) - bg) - 1)))]) [3, 4, 5, 6, 7, 2, 1, 0] rfl ?_
    refine G_cast (loop7 (_ + 1) (so + p - bg - 1) 0 (-1) 0 f (Nat.lt_succ_self _) (by omega) (by omega) hs0  Fr.rf) rfl (by rfl) rfl rfl
theorem c_Mo_isAdding (E : EV) (f : Nat → va_E) (F : Nat → Value) (w : Int) (pl : Int) (mt : Int → Int) (mn : Int → Int) (hMo : f 61 = mob F) (hmk : moK E F) (hF11 : F 11 = .int (zI pl)) (hc69 : f 69 = iz E 700 mt) (hc72 : f 72 = iz E 700 mn) (hpl : 0 ≤ pl ∧ pl ≤ 700) (hw : 0 ≤ w ∧ w ≤ 300) (hv : 0 < pl → (0 ≤ mt (pl - 1) ∧ mt (pl - 1) ≤ 3) ∧ 0 ≤ mn (pl - 1) ∧ mn (pl - 1) ≤ 300) : CF yn_Mo_isAdding cd_Mo_isAdding 2 (some (.boolean)) 0 E [.ref (eA E 61), .int (zI w)] f (fun r f' => r = some (.int (zI (if iaP mt mn pl w then 1 else 0))) ∧ f' = f) := by
  refine CF.of (by decide +kernel) (Nat.le_of_ble_eq_true rfl) fun X hX hE => ?_
  have hX : Ok E X "DeltaFerryModel" "isAdding" cd_Mo_isAdding 2 (some (.boolean)) (rl 0) := hX
  refine G_cast (lv' := [(0, .ref (eA E 61)), (1, .int (zI w))]) ?_ rfl rfl rfl rfl
  refine G_aload_n hX 0 rfl rfl d_Mo_isAdding_0 ?_
  refine M_get hX fg_Mo_100 d_Mo_isAdding_1 hMo (by decide) hF11 ?_
  refine G_if_le_z hX (tgt := 41) d_Mo_isAdding_4 rfl (by omega) (fun c1 => ?_) (fun c2 => ?_)
  · skip
    refine G_iconst hX d_Mo_isAdding_41 ?_
    exact F_zret hX hE (by decide) d_Mo_isAdding_42 ⟨by rw [if_neg (by rintro ⟨n1, n2, n3⟩; first | omega | contradiction)], rfl⟩
  · skip
    refine G_aload_n hX 0 rfl rfl d_Mo_isAdding_7 ?_
    refine M_get hX fg_Mo_103 d_Mo_isAdding_8 hMo (by decide) (hmk 14 69 (by decide)) ?_
    refine G_aload_n hX 0 rfl rfl d_Mo_isAdding_11 ?_
    refine M_get hX fg_Mo_100 d_Mo_isAdding_12 hMo (by decide) hF11 ?_
    refine G_iconst hX d_Mo_isAdding_15 ?_
    refine G_isub_z hX d_Mo_isAdding_16 ?_
    refine F_iald hX d_Mo_isAdding_17 69 (by decide) hc69 (by omega) ?_
    refine G_iconst hX d_Mo_isAdding_18 ?_
    refine G_icmp_ne_z hX (tgt := 41) d_Mo_isAdding_19 rfl (by have := hv (by omega); omega) (fun c3 => ?_) (fun c4 => ?_)
    · skip
      refine G_iconst hX d_Mo_isAdding_41 ?_
      exact F_zret hX hE (by decide) d_Mo_isAdding_42 ⟨by rw [if_neg (by rintro ⟨n1, n2, n3⟩; first | omega | contradiction)], rfl⟩
    · skip
      refine G_aload_n hX 0 rfl rfl d_Mo_isAdding_22 ?_
      refine M_get hX fg_Mo_112 d_Mo_isAdding_23 hMo (by decide) (hmk 17 72 (by decide)) ?_
      refine G_aload_n hX 0 rfl rfl d_Mo_isAdding_26 ?_
      refine M_get hX fg_Mo_100 d_Mo_isAdding_27 hMo (by decide) hF11 ?_
      refine G_iconst hX d_Mo_isAdding_30 ?_
      refine G_isub_z hX d_Mo_isAdding_31 ?_
      refine F_iald hX d_Mo_isAdding_32 72 (by decide) hc72 (by omega) ?_
      refine G_iload_n hX 1 rfl rfl d_Mo_isAdding_33 ?_
      refine G_icmp_ne_z hX (tgt := 41) d_Mo_isAdding_34 rfl (by have := hv (by omega); omega) (fun c5 => ?_) (fun c6 => ?_)
      · skip
        refine G_iconst hX d_Mo_isAdding_41 ?_
        exact F_zret hX hE (by decide) d_Mo_isAdding_42 ⟨by rw [if_neg (by rintro ⟨n1, n2, n3⟩; first | omega | contradiction)], rfl⟩
      · skip
        refine G_iconst hX d_Mo_isAdding_37 ?_
        refine G_goto hX (tgt := 42) d_Mo_isAdding_38 rfl ?_
        exact F_zret hX hE (by decide) d_Mo_isAdding_42 ⟨by rw [if_pos (by exact ⟨by omega, by assumption, by assumption⟩)], rfl⟩
theorem c_Mo_copyBack (E : EV) (f : Nat → va_E) (F : Nat → Value) (fm : Int × Int) (p : Int) (so : Int) (bg : Int) (en : Int) (b : Int → Int) (h : Int → Int) (mt : Int → Int) (ms : Int → Int) (ma : Int → Int) (mn : Int → Int) (P : PS) (ad : Int) (num : Int) (w : Int) (hMo : f 61 = mob F) (hmk : moK E F) (hF11 : F 11 = .int (zI (pC (appA P (ad) num)))) (hF12 : F 12 = .int (zI so)) (hF13 : F 13 = .int (zI w)) (hc63 : f 63 = iz E 1600 b) (hc69 : f 69 = iz E 700 mt) (hc70 : f 70 = iz E 700 ms) (hc71 : f 71 = iz E 700 ma) (hc72 : f 72 = iz E 700 mn) (hB : isB h) (hho : ∀ a, 0 ≤ a → a < so → b a = h a) (hhn : ∀ i, 0 ≤ i → i < en - bg → b (300 + bg + i) = h (so + i)) (hso : 0 ≤ so ∧ so ≤ 300 ∧ 0 ≤ bg ∧ bg ≤ en ∧ en ≤ 300) (hp : bg ≤ p ∧ p < en) (hfm : 4 ≤ fm.2 ∧ fm.2 ≤ 300 ∧ 0 ≤ fm.1 ∧ fm.1 < so + (p - bg)) (hw : 16 ≤ w ∧ w ≤ 256) (hnum : bg = num * w ∧ 0 ≤ num ∧ num ≤ 300) (hPB : plB P) (hno : noA P num) (had : 0 ≤ ad ∧ ad ≤ p - bg ∧ 0 ≤ pC P ∧ pC P + ad ≤ 300) (hpe : plE mt ms ma mn (appA P (ad) num)) : CF yn_Mo_copyBack cd_Mo_copyBack 8 none 1 E [.ref (eA E 61), .int (zI (encF fm)), .int (zI p), .int (zI bg)] f (fun r f' => r = none ∧ ∃ (F' : Nat → Value) (mt' : Int → Int) (ms' : Int → Int) (ma' : Int → Int) (mn' : Int → Int), f' 61 = mob F' ∧ F' 11 = .int (zI (pC (plApp (appA P (ad - sbF h (fm.1) (so + (p - bg)) ad) num) 3 (sbF h (fm.1) (so + (p - bg)) ad + fm.2) (fm.1 - sbF h (fm.1) (so + (p - bg)) ad) num))) ∧ FrF [11] F F' ∧ f' 69 = iz E 700 mt' ∧ f' 70 = iz E 700 ms' ∧ f' 71 = iz E 700 ma' ∧ f' 72 = iz E 700 mn' ∧ (plE mt' ms' ma' mn' (plApp (appA P (ad - sbF h (fm.1) (so + (p - bg)) ad) num) 3 (sbF h (fm.1) (so + (p - bg)) ad + fm.2) (fm.1 - sbF h (fm.1) (so + (p - bg)) ad) num)) ∧ Fr [69, 70, 71, 72, 61] f f') := by
  refine CF.of (by decide +kernel) (Nat.le_of_ble_eq_true rfl) fun X hX hE => ?_
  have hX : Ok E X "DeltaFerryModel" "copyBack" cd_Mo_copyBack 8 none (rl 1) := hX
  refine G_cast (lv' := [(0, .ref (eA E 61)), (1, .int (zI (encF fm))), (2, .int (zI p)), (3, .int (zI bg))]) ?_ rfl rfl rfl rfl
  have heb := enc_b (m := fm) (by omega) (by omega) (fun _ => by omega)
  refine G_iload_n hX 3 rfl rfl d_Mo_copyBack_0 ?_
  refine G_aload_n hX 0 rfl rfl d_Mo_copyBack_1 ?_
  refine M_get hX fg_Mo_246 d_Mo_copyBack_2 hMo (by decide) hF13 ?_
  refine G_idiv_z hX (by omega) d_Mo_copyBack_5 ?_
  refine G_top (show zI (bg / w) = zI num from by rw [hnum.1, Int.mul_ediv_cancel _ (by omega)]) ?_
  refine G_istore hX (lv' := [(4, .int (zI num)), (0, .ref (eA E 61)), (1, .int (zI (encF fm))), (2, .int (zI p)), (3, .int (zI bg))]) (by decide) rfl d_Mo_copyBack_6 ?_
  refine G_iload_n hX 2 rfl rfl d_Mo_copyBack_8 ?_
  refine G_sipush hX (by decide) d_Mo_copyBack_9 ?_
  refine G_idiv_z hX (by omega) d_Mo_copyBack_12 ?_
  refine G_top (show zI ((encF fm) / 1000) = zI fm.1 from by rw [enc_d (by omega)]) ?_
  refine G_istore hX (lv' := [(5, .int (zI fm.1)), (4, .int (zI num)), (0, .ref (eA E 61)), (1, .int (zI (encF fm))), (2, .int (zI p)), (3, .int (zI bg))]) (by decide) rfl d_Mo_copyBack_13 ?_
  refine G_iload_n hX 3 rfl rfl d_Mo_copyBack_15 ?_
  refine G_sipush hX (by decide) d_Mo_copyBack_16 ?_
  refine G_irem_z hX (by omega) d_Mo_copyBack_19 ?_
  refine G_top (show zI ((encF fm) % 1000) = zI fm.2 from by rw [enc_m (by omega)]) ?_
  refine G_istore hX (lv' := [(6, .int (zI fm.2)), (5, .int (zI fm.1)), (4, .int (zI num)), (0, .ref (eA E 61)), (1, .int (zI (encF fm))), (2, .int (zI p)), (3, .int (zI bg))]) (by decide) rfl d_Mo_copyBack_20 ?_
  refine G_iload_n hX 5 rfl rfl d_Mo_copyBack_22 ?_
  refine G_istore hX (lv' := [(7, .int (zI p)), (6, .int (zI fm.2)), (5, .int (zI fm.1)), (4, .int (zI num)), (0, .ref (eA E 61)), (1, .int (zI (encF fm))), (2, .int (zI p)), (3, .int (zI bg))]) (by decide) rfl d_Mo_copyBack_23 ?_
  have loop4 : ∀ (q : Nat) (r : Int) (mt1 : Int → Int) (ms1 : Int → Int) (ma1 : Int → Int) (mn1 : Int → Int) (F1 : Nat → Value) (f5 : Nat → va_E), (ad - r).toNat < q → (0 ≤ r ∧ r ≤ ad ∧ r ≤ fm.1) → (sbF h (fm.1) (so + (p - bg)) ad = cntF (fun r => decide (r < ad ∧ r < fm.1 ∧ h (fm.1 - r - 1) = h (so + (p - bg) - r - 1))) ad r) → (plE mt1 ms1 ma1 mn1 (appA P (ad - r) num)) → (F1 11 = .int (zI (pC (appA P (ad - r) num)))) → (FrF [11] F F1) → f5 69 = iz E 700 mt1 → f5 70 = iz E 700 ms1 → f5 71 = iz E 700 ma1 → f5 72 = iz E 700 mn1 → f5 61 = mob F1 → Fr [69, 70, 71, 72, 61] f f5 → G E X 0 0 25 [(0, .ref (eA E 61)), (2, .int (zI p)), (3, .int (zI bg)), (4, .int (zI num)), (5, .int (zI (fm.1 - r))), (6, .int (zI (fm.2 + r))), (7, .int (zI (p - r)))] [] (wl E f5) := by
    intro q
    induction q with
    | zero => intro r mt1 ms1 ma1 mn1 F1 f5 hms7; exact absurd hms7 (Nat.not_lt_zero _)
    | succ q ih8 =>
      intro r mt1 ms1 ma1 mn1 F1 f5 hms7 hr hs hpe1 h2 k3 h9 h10 h11 h12 h13 k6
      have hac := appA_b (ad := ad - r) (num := num) hPB (by omega) (by omega) (by omega)
      have hpl1 : 0 ≤ pC (appA P (ad - r) num) ∧ pC (appA P (ad - r) num) ≤ 301 := by have := appA_C (P := P) (ad := ad - r) (num := num); split at this <;> omega
      refine G_aload_n hX 0 rfl rfl d_Mo_copyBack_25 ?_
      refine G_iload hX 3 rfl d_Mo_copyBack_26 ?_
      refine F_callV hX (st := []) (c_Mo_isAdding E f5 F1 num (pC (appA P (ad - r) num)) mt1 mn1 h13 (moK_fr hmk (FrF.tr (FrF.rf (S := [11])) k3 (by decide)) (by decide)) h2 h9 h12 (by omega) (by omega) (ia_b hpe1 rfl hac.1)) cm_Mo_isAdding im_Mo_isAdding se_Mo_isAdding rfl ml_Mo_268 d_Mo_copyBack_28 (by decide) h13 rfl rfl (Nat.le_of_ble_eq_true rfl) (by decide) ?_
      rintro _ f14 ⟨rfl, e17⟩
      obtain rfl := e17.symm
      refine G_cast (st' := [.int (zI (if iaP mt1 mn1 (pC (appA P (ad - r) num)) num then 1 else 0))]) ?_ rfl rfl rfl rfl
      by_cases q9 : 0 < ad - r
      · skip
        have hia := ia_p hpe1 rfl (by omega) q9
        refine G_top (show zI (if iaP mt1 mn1 (pC (appA P (ad - r) num)) num then 1 else 0) = zI 1 from by rw [if_pos hia.1]) ?_
        refine G_if_eq_z hX (tgt := 131) d_Mo_copyBack_31 rfl (by omega) (fun c18 => by exfalso; omega) (fun c19 => ?_)
        refine G_iload hX 4 rfl d_Mo_copyBack_34 ?_
        refine G_if_le_z hX (tgt := 131) d_Mo_copyBack_36 rfl (by omega) (fun c20 => ?_) (fun c21 => ?_)
        · skip
          have e9 : sbF h (fm.1) (so + (p - bg)) ad = r := by
            refine hs.trans (cnt_stop ?_)
            refine Or.inl (decide_eq_false (fun q2 => ?_))
            have q3 := q2.1
            have q4 := q2.2.1
            have q5 := q2.2.2
            first | omega | contradiction
          refine G_aload_n hX 0 rfl rfl d_Mo_copyBack_131 ?_
          refine G_iconst hX d_Mo_copyBack_132 ?_
          refine G_iload hX 5 rfl d_Mo_copyBack_133 ?_
          refine G_iload hX 4 rfl d_Mo_copyBack_135 ?_
          refine G_iload hX 3 rfl d_Mo_copyBack_137 ?_
          refine F_callV hX (st := []) (c_Mo_tell E f5 F1 3 (fm.2 + r) (fm.1 - r) num (pC (appA P (ad - r) num)) mt1 ms1 ma1 mn1 h13 (moK_fr hmk (FrF.tr (FrF.rf (S := [11])) k3 (by decide)) (by decide)) h2 h9 h10 h11 h12 (by omega)) cm_Mo_tell im_Mo_tell se_Mo_tell rfl ml_Mo_258 d_Mo_copyBack_139 (by decide) h13 rfl rfl (Nat.le_of_ble_eq_true rfl) (by decide) ?_
          rintro _ f22 ⟨rfl, F25, h26, h27, k28, h29, h30, h31, h32, k33⟩
          refine G_cast (st' := []) ?_ rfl rfl rfl rfl
          exact F_vret hX hE d_Mo_copyBack_142 ⟨rfl, F25, _, _, _, _, h26, (by rw [e9]; exact h27), (FrF.tr (FrF.tr FrF.rf k3 (by decide)) k28 (by decide)), h29, h30, h31, h32, (by rw [e9, Int.add_comm r]; exact plE_tl hpe1 rfl), (Fr.tr (Fr.tr Fr.rf k6 (by decide)) k33 (by decide))⟩
        · skip
          refine G_aload_n hX 0 rfl rfl d_Mo_copyBack_39 ?_
          refine G_iload hX 4 rfl d_Mo_copyBack_40 ?_
          refine G_iconst hX d_Mo_copyBack_42 ?_
          refine G_isub_z hX d_Mo_copyBack_43 ?_
          refine G_iload_n hX 2 rfl rfl d_Mo_copyBack_44 ?_
          have h34 : F1 12 = .int (zI so) := (k3 12 (by decide)).trans hF12
          have h35 : f5 63 = iz E 1600 b := (k6 63 (by decide)).trans hc63
          refine F_callV hX (st := []) (c_Mo_both E f5 F1 ((fm.1 - r) - 1) so bg en b h h13 (moK_fr hmk (FrF.tr (FrF.rf (S := [11])) k3 (by decide)) (by decide)) h34 h35 hB hho hhn (by omega) (by omega)) cm_Mo_both im_Mo_both se_Mo_both rfl ml_Mo_261 d_Mo_copyBack_45 (by decide) h13 rfl rfl (Nat.le_of_ble_eq_true rfl) (by decide) ?_
          rintro _ f36 ⟨rfl, e39⟩
          obtain rfl := e39.symm
          refine G_cast (st' := [.int (zI (h ((fm.1 - r) - 1)))]) ?_ rfl rfl rfl rfl
          have hb1 := hB (fm.1 - r - 1)
          refine G_aload_n hX 0 rfl rfl d_Mo_copyBack_48 ?_
          have h40 : F1 1 = .ref (eA E 63) := (k3 1 (by decide)).trans (hmk 1 63 (by decide))
          refine M_get hX fg_Mo_77 d_Mo_copyBack_49 h13 (by decide) h40 ?_
          refine G_sipush hX (by decide) d_Mo_copyBack_52 ?_
          refine G_iload hX 6 rfl d_Mo_copyBack_55 ?_
          refine G_iadd_z hX d_Mo_copyBack_57 ?_
          refine G_iconst hX d_Mo_copyBack_58 ?_
          refine G_isub_z hX d_Mo_copyBack_59 ?_
          refine F_iald hX d_Mo_copyBack_60 63 (by decide) h35 (by omega) ?_
          refine G_top (show zI (b ((300 + (p - r)) - 1)) = zI (h (so + (p - bg) - r - 1)) from congrArg zI ((congrArg b (show _ = 300 + bg + ((so + (p - bg) - r - 1) - so) by omega)).trans ((hhn ((so + (p - bg) - r - 1) - so) (by omega) (by omega)).trans (congrArg h (by omega))))) ?_
          have b41 := hB (so + (p - bg) - r - 1)
          refine G_icmp_ne_z hX (tgt := 131) d_Mo_copyBack_61 rfl (by omega) (fun c42 => ?_) (fun c43 => ?_)
          · skip
            have e9 : sbF h (fm.1) (so + (p - bg)) ad = r := by
              refine hs.trans (cnt_stop ?_)
              refine Or.inl (decide_eq_false (fun q2 => ?_))
              have q3 := q2.1
              have q4 := q2.2.1
              have q5 := q2.2.2
              first | omega | contradiction
            refine G_aload_n hX 0 rfl rfl d_Mo_copyBack_131 ?_
            refine G_iconst hX d_Mo_copyBack_132 ?_
            refine G_iload hX 5 rfl d_Mo_copyBack_133 ?_
            refine G_iload hX 4 rfl d_Mo_copyBack_135 ?_
            refine G_iload hX 3 rfl d_Mo_copyBack_137 ?_
            refine F_callV hX (st := []) (c_Mo_tell E f5 F1 3 (fm.2 + r) (fm.1 - r) num (pC (appA P (ad - r) num)) mt1 ms1 ma1 mn1 h13 (moK_fr hmk (FrF.tr (FrF.rf (S := [11])) k3 (by decide)) (by decide)) h2 h9 h10 h11 h12 (by omega)) cm_Mo_tell im_Mo_tell se_Mo_tell rfl ml_Mo_258 d_Mo_copyBack_139 (by decide) h13 rfl rfl (Nat.le_of_ble_eq_true rfl) (by decide) ?_
            rintro _ f44 ⟨rfl, F47, h48, h49, k50, h51, h52, h53, h54, k55⟩
            refine G_cast (st' := []) ?_ rfl rfl rfl rfl
            exact F_vret hX hE d_Mo_copyBack_142 ⟨rfl, F47, _, _, _, _, h48, (by rw [e9]; exact h49), (FrF.tr (FrF.tr FrF.rf k3 (by decide)) k50 (by decide)), h51, h52, h53, h54, (by rw [e9, Int.add_comm r]; exact plE_tl hpe1 rfl), (Fr.tr (Fr.tr Fr.rf k6 (by decide)) k55 (by decide))⟩
          · skip
            refine G_iinc_z hX (lv' := [(5, .int (zI ((fm.1 - r) + (-1)))), (0, .ref (eA E 61)), (2, .int (zI p)), (3, .int (zI bg)), (4, .int (zI num)), (6, .int (zI (fm.2 + r))), (7, .int (zI (p - r)))]) 4 rfl (by decide) rfl d_Mo_copyBack_64 ?_
            refine G_iinc_z hX (lv' := [(7, .int (zI ((p - r) + (-1)))), (5, .int (zI ((fm.1 - r) + (-1)))), (0, .ref (eA E 61)), (2, .int (zI p)), (3, .int (zI bg)), (4, .int (zI num)), (6, .int (zI (fm.2 + r)))]) 6 rfl (by decide) rfl d_Mo_copyBack_67 ?_
            refine G_iinc_z hX (lv' := [(6, .int (zI ((fm.2 + r) + 1))), (7, .int (zI ((p - r) + (-1)))), (5, .int (zI ((fm.1 - r) + (-1)))), (0, .ref (eA E 61)), (2, .int (zI p)), (3, .int (zI bg)), (4, .int (zI num))]) 6 rfl (by decide) rfl d_Mo_copyBack_70 ?_
            refine G_aload_n hX 3 rfl rfl d_Mo_copyBack_73 ?_
            have h56 : F1 15 = .ref (eA E 70) := (k3 15 (by decide)).trans (hmk 15 70 (by decide))
            refine M_get hX fg_Mo_106 d_Mo_copyBack_74 h13 (by decide) h56 ?_
            refine G_aload_n hX 3 rfl rfl d_Mo_copyBack_77 ?_
            refine M_get hX fg_Mo_100 d_Mo_copyBack_78 h13 (by decide) h2 ?_
            refine G_iconst hX d_Mo_copyBack_81 ?_
            refine G_isub_z hX d_Mo_copyBack_82 ?_
            refine G_aload_n hX 3 rfl rfl d_Mo_copyBack_83 ?_
            refine M_get hX fg_Mo_106 d_Mo_copyBack_84 h13 (by decide) h56 ?_
            refine G_aload_n hX 3 rfl rfl d_Mo_copyBack_87 ?_
            refine M_get hX fg_Mo_100 d_Mo_copyBack_88 h13 (by decide) h2 ?_
            refine G_iconst hX d_Mo_copyBack_91 ?_
            refine G_isub_z hX d_Mo_copyBack_92 ?_
            refine F_iald hX d_Mo_copyBack_93 70 (by decide) h10 (by omega) ?_
            refine G_top (show zI (ms1 ((pC (appA P (ad - r) num)) - 1)) = zI (ad - r) from congrArg zI hia.2.1) ?_
            refine G_iconst hX d_Mo_copyBack_94 ?_
            refine G_isub_z hX d_Mo_copyBack_95 ?_
            refine F_iast hX d_Mo_copyBack_96 70 (by decide) h10 (by omega) (fun f57 h58 k59 => ?_)
            refine G_aload_n hX 3 rfl rfl d_Mo_copyBack_97 ?_
            refine G_aload_n hX 3 rfl rfl d_Mo_copyBack_98 ?_
            have h60 : f57 61 = mob F1 := (k59 61 (by decide)).trans h13
            refine M_get hX fg_Mo_106 d_Mo_copyBack_99 h60 (by decide) h56 ?_
            refine G_aload_n hX 3 rfl rfl d_Mo_copyBack_102 ?_
            refine M_get hX fg_Mo_100 d_Mo_copyBack_103 h60 (by decide) h2 ?_
            refine G_iconst hX d_Mo_copyBack_106 ?_
            refine G_isub_z hX d_Mo_copyBack_107 ?_
            refine F_iald hX d_Mo_copyBack_108 70 (by decide) h58 (by omega) ?_
            refine G_top (show zI ((uz ms1 ((pC (appA P (ad - r) num)) - 1) ((ad - r) - 1)) ((pC (appA P (ad - r) num)) - 1)) = zI (ad - r - 1) from congrArg zI (if_pos rfl)) ?_
            refine G_if_ne_z hX (tgt := 121) d_Mo_copyBack_109 rfl (by omega) (fun c61 => ?_) (fun c62 => ?_)
            · skip
              refine G_aload_n hX 3 rfl rfl d_Mo_copyBack_121 ?_
              refine M_get hX fg_Mo_100 d_Mo_copyBack_122 h60 (by decide) h2 ?_
              refine M_put hX fg_Mo_100 fp_Mo_11 d_Mo_copyBack_125 h60 rfl rfl (by decide) (fun f63 F64 h65 h66 k67 k68 => ?_)
              refine G_goto hX (tgt := 25) d_Mo_copyBack_128 rfl ?_
              have hne : sbF h (fm.1) (so + (p - bg)) ad = cntF (fun r => decide (r < ad ∧ r < fm.1 ∧ h (fm.1 - r - 1) = h (so + (p - bg) - r - 1))) ad (r + 1) := hs.trans (cnt_go (by omega) (decide_eq_true ⟨by omega, by omega, by assumption⟩))
              have hpe2 := plE_sz (v := ad - r - 1) hpe1 q9 (by omega) hia.2.2
              have hC1 := appA_C (P := P) (ad := ad - r) (num := num)
              rw [if_pos q9] at hC1
              have hC2 := appA_C (P := P) (ad := ad - r - 1) (num := num)
              rw [show ad - r - 1 = ad - (r + 1) by omega] at hpe2 hC2
              rw [if_pos (by omega)] at hC2
              have h69 : f63 69 = iz E 700 mt1 := (k68 69 (by decide)).trans ((k59 69 (by decide)).trans h9)
              have h70 : f63 70 = iz E 700 (uz ms1 ((pC (appA P (ad - r) num)) - 1) ((ad - r) - 1)) := (k68 70 (by decide)).trans h58
              have h71 : f63 71 = iz E 700 ma1 := (k68 71 (by decide)).trans ((k59 71 (by decide)).trans h11)
              have h72 : f63 72 = iz E 700 mn1 := (k68 72 (by decide)).trans ((k59 72 (by decide)).trans h12)
              refine G_loc (lv' := [(0, .ref (eA E 61)), (2, .int (zI p)), (3, .int (zI bg)), (4, .int (zI num)), (5, .int (zI ((fm.1 - r) + (-1)))), (6, .int (zI ((fm.2 + r) + 1))), (7, .int (zI ((p - r) + (-1))))]) [3, 4, 5, 6, 2, 0, 1] rfl ?_
              refine G_cast (ih8 (r + 1) mt1 (uz ms1 ((pC (appA P (ad - r) num)) - 1) ((ad - r) - 1)) ma1 mn1 F64 f63 (by omega) (by omega) hne (by rw [show ad - (r + 1) = ad - r - 1 by omega] at hpe2 ⊢; exact hpe2) (h66.trans (by congr 2; omega)) (FrF.tr (FrF.tr FrF.rf k3 (by decide)) k67 (by decide)) h69 h70 h71 h72 h65 (Fr.tr (Fr.tr (Fr.tr Fr.rf k6 (by decide)) k59 (by decide)) k68 (by decide))) rfl (by rw [show fm.1 - (r + 1) = fm.1 - r + -1 by omega, show p - (r + 1) = p - r + -1 by omega, show fm.2 + (r + 1) = fm.2 + r + 1 by omega]) rfl rfl
            · skip
              refine G_aload_n hX 3 rfl rfl d_Mo_copyBack_112 ?_
              refine M_get hX fg_Mo_100 d_Mo_copyBack_113 h60 (by decide) h2 ?_
              refine G_iconst hX d_Mo_copyBack_116 ?_
              refine G_isub_z hX d_Mo_copyBack_117 ?_
              refine G_goto hX (tgt := 125) d_Mo_copyBack_118 rfl ?_
              refine M_put hX fg_Mo_100 fp_Mo_11 d_Mo_copyBack_125 h60 rfl rfl (by decide) (fun f73 F74 h75 h76 k77 k78 => ?_)
              refine G_goto hX (tgt := 25) d_Mo_copyBack_128 rfl ?_
              have hne : sbF h (fm.1) (so + (p - bg)) ad = cntF (fun r => decide (r < ad ∧ r < fm.1 ∧ h (fm.1 - r - 1) = h (so + (p - bg) - r - 1))) ad (r + 1) := hs.trans (cnt_go (by omega) (decide_eq_true ⟨by omega, by omega, by assumption⟩))
              have hpe2 := plE_sz (v := ad - r - 1) hpe1 q9 (by omega) hia.2.2
              have hC1 := appA_C (P := P) (ad := ad - r) (num := num)
              rw [if_pos q9] at hC1
              have hC2 := appA_C (P := P) (ad := ad - r - 1) (num := num)
              rw [show ad - r - 1 = ad - (r + 1) by omega] at hpe2 hC2
              rw [if_neg (by omega)] at hC2
              have h79 : f73 69 = iz E 700 mt1 := (k78 69 (by decide)).trans ((k59 69 (by decide)).trans h9)
              have h80 : f73 70 = iz E 700 (uz ms1 ((pC (appA P (ad - r) num)) - 1) ((ad - r) - 1)) := (k78 70 (by decide)).trans h58
              have h81 : f73 71 = iz E 700 ma1 := (k78 71 (by decide)).trans ((k59 71 (by decide)).trans h11)
              have h82 : f73 72 = iz E 700 mn1 := (k78 72 (by decide)).trans ((k59 72 (by decide)).trans h12)
              refine G_loc (lv' := [(0, .ref (eA E 61)), (2, .int (zI p)), (3, .int (zI bg)), (4, .int (zI num)), (5, .int (zI ((fm.1 - r) + (-1)))), (6, .int (zI ((fm.2 + r) + 1))), (7, .int (zI ((p - r) + (-1))))]) [3, 4, 5, 6, 2, 0, 1] rfl ?_
              refine G_cast (ih8 (r + 1) mt1 (uz ms1 ((pC (appA P (ad - r) num)) - 1) ((ad - r) - 1)) ma1 mn1 F74 f73 (by omega) (by omega) hne (by rw [show ad - (r + 1) = ad - r - 1 by omega] at hpe2 ⊢; exact hpe2) (h76.trans (by congr 2; omega)) (FrF.tr (FrF.tr FrF.rf k3 (by decide)) k77 (by decide)) h79 h80 h81 h82 h75 (Fr.tr (Fr.tr (Fr.tr Fr.rf k6 (by decide)) k59 (by decide)) k78 (by decide))) rfl (by rw [show fm.1 - (r + 1) = fm.1 - r + -1 by omega, show p - (r + 1) = p - r + -1 by omega, show fm.2 + (r + 1) = fm.2 + r + 1 by omega]) rfl rfl
      · skip
        have hia := ia_n hpe1 rfl hno q9
        refine G_top (show zI (if iaP mt1 mn1 (pC (appA P (ad - r) num)) num then 1 else 0) = zI 0 from by rw [if_neg hia]) ?_
        refine G_if_eq_z hX (tgt := 131) d_Mo_copyBack_31 rfl (by omega) (fun c83 => ?_) (fun c84 => by exfalso; omega)
        have e9 : sbF h (fm.1) (so + (p - bg)) ad = r := by
          refine hs.trans (cnt_stop ?_)
          refine Or.inl (decide_eq_false (fun q2 => ?_))
          have q3 := q2.1
          have q4 := q2.2.1
          have q5 := q2.2.2
          first | omega | contradiction
        refine G_aload_n hX 0 rfl rfl d_Mo_copyBack_131 ?_
        refine G_iconst hX d_Mo_copyBack_132 ?_
        refine G_iload hX 5 rfl d_Mo_copyBack_133 ?_
        refine G_iload hX 4 rfl d_Mo_copyBack_135 ?_
        refine G_iload hX 3 rfl d_Mo_copyBack_137 ?_
        refine F_callV hX (st := []) (c_Mo_tell E f5 F1 3 (fm.2 + r) (fm.1 - r) num (pC (appA P (ad - r) num)) mt1 ms1 ma1 mn1 h13 (moK_fr hmk (FrF.tr (FrF.rf (S := [11])) k3 (by decide)) (by decide)) h2 h9 h10 h11 h12 (by omega)) cm_Mo_tell im_Mo_tell se_Mo_tell rfl ml_Mo_258 d_Mo_copyBack_139 (by decide) h13 rfl rfl (Nat.le_of_ble_eq_true rfl) (by decide) ?_
        rintro _ f85 ⟨rfl, F88, h89, h90, k91, h92, h93, h94, h95, k96⟩
        refine G_cast (st' := []) ?_ rfl rfl rfl rfl
        exact F_vret hX hE d_Mo_copyBack_142 ⟨rfl, F88, _, _, _, _, h89, (by rw [e9]; exact h90), (FrF.tr (FrF.tr FrF.rf k3 (by decide)) k91 (by decide)), h92, h93, h94, h95, (by rw [e9, Int.add_comm r]; exact plE_tl hpe1 rfl), (Fr.tr (Fr.tr Fr.rf k6 (by decide)) k96 (by decide))⟩
  refine G_loc (lv' := [(0, .ref (eA E 61)), (2, .int (zI p)), (3, .int (zI bg)), (4, .int (zI num)), (5, .int (zI fm.1)), (6, .int (zI fm.2)), (7, .int (zI p))]) [4, 6, 7, 3, 2, 1, 0] rfl ?_
  refine G_cast (loop4 (_ + 1) 0 mt ms ma mn F f (Nat.lt_succ_self _) (by omega) rfl (by rw [Int.sub_zero]; exact hpe) (by rw [Int.sub_zero]; exact hF11) FrF.rf hc69 hc70 hc71 hc72 hMo Fr.rf) rfl (by rw [Int.sub_zero, Int.sub_zero, Int.add_zero]) rfl rfl
theorem appA_l {P : PS} {ad num : Int} (h : 0 < pC P → pN P (pC P - 1) ≤ num) : 0 < pC (appA P ad num) → pN (appA P ad num) (pC (appA P ad num) - 1) < num + 1 := by
  intro h1
  by_cases h0 : 0 < ad
  · rw [appA_p h0]
    have hl := app_last P 1 ad (-1) num
    rw [hl.1, hl.2.2.2.2]; omega
  · rw [appA_n h0] at h1 ⊢
    have := h h1
    omega
theorem app_l2 {P : PS} {t n a num : Int} : 0 < pC (plApp P t n a num) → pN (plApp P t n a num) (pC (plApp P t n a num) - 1) ≤ num := by
  intro _
  have hl := app_last P t n a num
  rw [hl.1, hl.2.2.2.2]; omega
theorem noA_l {P : PS} {num : Int} (h : 0 < pC P → pN P (pC P - 1) < num) : noA P num := fun h1 q => by
  have := h h1
  omega
theorem c_Mo_differ (E : EV) (f : Nat → va_E) (F : Nat → Value) (ch : Int) (w : Int) (b : Int → Int) (sz : Int → Int) (g0 : Int → Int) (gF : Int → Int) (mt : Int → Int) (ms : Int → Int) (ma : Int → Int) (mn : Int → Int) (P : PS) (hMo : f 61 = mob F) (hmk : moK E F) (hc63 : f 63 = iz E 1600 b) (hc64 : f 64 = iz E 4 sz) (hc69 : f 69 = iz E 700 mt) (hc70 : f 70 = iz E 700 ms) (hc71 : f 71 = iz E 700 ma) (hc72 : f 72 = iz E 700 mn) (hsz : ∀ k, 0 ≤ k → k ≤ 3 → 0 ≤ sz k ∧ sz k ≤ (if k = 2 then 700 else 300)) (hch : 1 ≤ ch ∧ ch ≤ 16) (hw : 16 ≤ w ∧ w ≤ 256) (hB0 : isB g0) (hBg : isB gF) (hago : ∀ i, 0 ≤ i → i < sz 0 → b i = g0 i) (hag : ∀ i, 0 ≤ i → i < sz 1 → b (300 + i) = gF i) (hPB : plB P) : CF yn_Mo_differ cd_Mo_differ 9 (some (.int)) 3 E [.ref (eA E 61), .int (zI ch), .int (zI w)] f (fun r f' => r = some (.int (zI (pC (dfF g0 gF (sz 0) (sz 1) ch w P)))) ∧ ∃ (F' : Nat → Value) (mt' : Int → Int) (ms' : Int → Int) (ma' : Int → Int) (mn' : Int → Int), f' 61 = mob F' ∧ F' 13 = .int (zI w) ∧ F' 12 = .int (zI (sz 0)) ∧ F' 11 = .int (zI (pC (dfF g0 gF (sz 0) (sz 1) ch w P))) ∧ FrF [11, 12, 13] F F' ∧ f' 69 = iz E 700 mt' ∧ f' 70 = iz E 700 ms' ∧ f' 71 = iz E 700 ma' ∧ f' 72 = iz E 700 mn' ∧ (plE mt' ms' ma' mn' (dfF g0 gF (sz 0) (sz 1) ch w P)) ∧ Fr [69, 70, 71, 72, 61] f f') := by
  refine CF.of (by decide +kernel) (Nat.le_of_ble_eq_true rfl) fun X hX hE => ?_
  have hX : Ok E X "DeltaFerryModel" "differ" cd_Mo_differ 9 (some (.int)) (rl 3) := hX
  refine G_cast (lv' := [(0, .ref (eA E 61)), (1, .int (zI ch)), (2, .int (zI w))]) ?_ rfl rfl rfl rfl
  have hsz1 := hsz 1 (by decide) (by decide)
  rw [if_neg (by decide)] at hsz1
  have hsz0 := hsz 0 (by decide) (by decide)
  rw [if_neg (by decide)] at hsz0
  refine G_iload_n hX 1 rfl rfl d_Mo_differ_0 ?_
  refine G_iconst hX d_Mo_differ_1 ?_
  refine G_icmp_lt_z hX (tgt := 24) d_Mo_differ_2 rfl (by omega) (fun c1 => by exfalso; omega) (fun c2 => ?_)
  refine G_iload_n hX 1 rfl rfl d_Mo_differ_5 ?_
  refine G_bipush hX (by decide) d_Mo_differ_6 ?_
  refine G_icmp_gt_z hX (tgt := 24) d_Mo_differ_8 rfl (by omega) (fun c3 => by exfalso; omega) (fun c4 => ?_)
  refine G_iload_n hX 2 rfl rfl d_Mo_differ_11 ?_
  refine G_bipush hX (by decide) d_Mo_differ_12 ?_
  refine G_icmp_lt_z hX (tgt := 24) d_Mo_differ_14 rfl (by omega) (fun c5 => by exfalso; omega) (fun c6 => ?_)
  refine G_iload_n hX 2 rfl rfl d_Mo_differ_17 ?_
  refine G_sipush hX (by decide) d_Mo_differ_18 ?_
  refine G_icmp_le_z hX (tgt := 26) d_Mo_differ_21 rfl (by omega) (fun c7 => ?_) (fun c8 => by exfalso; omega)
  refine G_aload_n hX 0 rfl rfl d_Mo_differ_26 ?_
  refine G_iload_n hX 2 rfl rfl d_Mo_differ_27 ?_
  refine M_put hX fg_Mo_246 fp_Mo_13 d_Mo_differ_28 hMo rfl rfl (by decide) (fun f9 F10 h11 h12 k13 k14 => ?_)
  refine G_aload_n hX 0 rfl rfl d_Mo_differ_31 ?_
  refine G_aload_n hX 0 rfl rfl d_Mo_differ_32 ?_
  have h15 : F10 2 = .ref (eA E 64) := (k13 2 (by decide)).trans (hmk 2 64 (by decide))
  refine M_get hX fg_Mo_81 d_Mo_differ_33 h11 (by decide) h15 ?_
  refine G_iconst hX d_Mo_differ_36 ?_
  have h16 : f9 64 = iz E 4 sz := (k14 64 (by decide)).trans hc64
  refine F_iald hX d_Mo_differ_37 64 (by decide) h16 (by omega) ?_
  refine M_put hX fg_Mo_249 fp_Mo_12 d_Mo_differ_38 h11 rfl rfl (by decide) (fun f17 F18 h19 h20 k21 k22 => ?_)
  refine G_aload_n hX 0 rfl rfl d_Mo_differ_41 ?_
  refine G_iconst hX d_Mo_differ_42 ?_
  refine M_put hX fg_Mo_100 fp_Mo_11 d_Mo_differ_43 h19 rfl rfl (by decide) (fun f23 F24 h25 h26 k27 k28 => ?_)
  refine G_iconst hX d_Mo_differ_46 ?_
  refine G_istore_n hX (lv' := [(3, .int (zI 0)), (0, .ref (eA E 61)), (1, .int (zI ch)), (2, .int (zI w))]) rfl (by decide) rfl d_Mo_differ_47 ?_
  have loop34 : ∀ (q : Nat) (num : Int) (k : Nat) (Q : PS) (mt1 : Int → Int) (ms1 : Int → Int) (ma1 : Int → Int) (mn1 : Int → Int) (F29 : Nat → Value) (f35 : Nat → va_E), (sz 1 - num * w).toNat < q → (0 ≤ num ∧ sz 1 - num * w ≤ k ∧ num * w ≤ 600) → (plB Q) → (0 ≤ pC Q ∧ pC Q ≤ num * w ∧ pC Q ≤ sz 1) → (0 < pC Q → pN Q (pC Q - 1) < num) → (dfF g0 gF (sz 0) (sz 1) ch w P = dfL g0 gF (sz 0) (sz 1) ch w k num Q) → (plE mt1 ms1 ma1 mn1 Q) → (F29 11 = .int (zI (pC Q))) → (F29 13 = .int (zI w)) → (F29 12 = .int (zI (sz 0))) → (FrF [11, 12, 13] F24 F29) → f35 69 = iz E 700 mt1 → f35 70 = iz E 700 ms1 → f35 71 = iz E 700 ma1 → f35 72 = iz E 700 mn1 → f35 61 = mob F29 → Fr [69, 70, 71, 72, 61] f23 f35 → G E X 0 0 48 [(0, .ref (eA E 61)), (1, .int (zI ch)), (2, .int (zI w)), (3, .int (zI (num * w)))] [] (wl E f35) := by
    intro q
    induction q with
    | zero => intro num k Q mt1 ms1 ma1 mn1 F29 f35 hms37; exact absurd hms37 (Nat.not_lt_zero _)
    | succ q ih38 =>
      intro num k Q mt1 ms1 ma1 mn1 F29 f35 hms37 hn hQB hQc hQl hs hpe1 h30 h31 h32 k33 h39 h40 h41 h42 h43 k36
      have hn0 : 0 ≤ num * w := Int.mul_nonneg hn.1 (by omega)
      have hn16 : num * 16 ≤ num * w := Int.mul_le_mul_of_nonneg_left (by omega) hn.1
      have hnx : (num + 1) * w = num * w + w := by rw [Int.add_mul, Int.one_mul]
      have hdv : num * w / w = num := Int.mul_ediv_cancel _ (by omega)
      refine G_iload_n hX 3 rfl rfl d_Mo_differ_48 ?_
      refine G_aload_n hX 0 rfl rfl d_Mo_differ_49 ?_
      have h44 : F29 2 = .ref (eA E 64) := (k33 2 (by decide)).trans ((k27 2 (by decide)).trans ((k21 2 (by decide)).trans h15))
      refine M_get hX fg_Mo_81 d_Mo_differ_50 h43 (by decide) h44 ?_
      refine G_iconst hX d_Mo_differ_53 ?_
      have h45 : f35 64 = iz E 4 sz := (k36 64 (by decide)).trans ((k28 64 (by decide)).trans ((k22 64 (by decide)).trans h16))
      refine F_iald hX d_Mo_differ_54 64 (by decide) h45 (by omega) ?_
      refine G_icmp_ge_z hX (tgt := 301) d_Mo_differ_55 rfl (by omega) (fun c46 => ?_) (fun c47 => ?_)
      · skip
        refine G_aload_n hX 0 rfl rfl d_Mo_differ_301 ?_
        refine M_get hX fg_Mo_100 d_Mo_differ_302 h43 (by decide) h30 ?_
        have e9 : dfF g0 gF (sz 0) (sz 1) ch w P = Q := hs.trans (dfL_e (by omega))
        exact F_iret hX hE d_Mo_differ_305 ⟨by rw [e9], F29, _, _, _, _, h43, h31, h32, (by rw [e9]; exact h30), (FrF.tr (FrF.tr (FrF.tr (FrF.tr FrF.rf k13 (by decide)) k21 (by decide)) k27 (by decide)) k33 (by decide)), h39, h40, h41, h42, (by rw [e9]; exact hpe1), (Fr.tr (Fr.tr (Fr.tr (Fr.tr Fr.rf k14 (by decide)) k22 (by decide)) k28 (by decide)) k36 (by decide))⟩
      · skip
        have hst := hs.trans (dfL_s (by omega) hn.2.1)
        have join48 : ∀ (en : Int) (f49 : Nat → va_E), (num * w < en ∧ en ≤ num * w + w ∧ en ≤ sz 1) → (sz 0 + (if w ≤ sz 1 - num * w then w else sz 1 - num * w) = sz 0 + (en - num * w)) → (en = num * w + w ∨ en = sz 1) → Fr [] f35 f49 → G E X 0 0 88 [(0, .ref (eA E 61)), (1, .int (zI ch)), (2, .int (zI w)), (3, .int (zI (num * w)))] [.int (zI en)] (wl E f49) := by
          intro en f49 hen hen2 hen3 k50
          rw [hen2] at hst
          obtain ⟨h, hh⟩ : ∃ h, h = hcF g0 gF (sz 0) (num * w) := ⟨_, rfl⟩
          rw [← hh] at hst
          have hB : isB h := by rw [hh]; exact hc_B hB0 hBg
          have hho : ∀ a, 0 ≤ a → a < sz 0 → b a = h a := by intro a q1 q2; rw [hh, hc_lo q2]; exact hago a q1 q2
          have hhn : ∀ i, 0 ≤ i → i < en - num * w → b (300 + num * w + i) = h (sz 0 + i) := by intro i q1 q2; rw [hh, hc_hi (i := num * w + i) (by omega) (by omega), Int.add_assoc]; exact hag _ (by omega) (by omega)
          refine G_istore hX (lv' := [(4, .int (zI en)), (0, .ref (eA E 61)), (1, .int (zI ch)), (2, .int (zI w)), (3, .int (zI (num * w)))]) (by decide) rfl d_Mo_differ_88 ?_
          refine G_iload_n hX 4 rfl rfl d_Mo_differ_90 ?_
          refine G_istore hX (lv' := [(5, .int (zI (num * w))), (4, .int (zI en)), (0, .ref (eA E 61)), (1, .int (zI ch)), (2, .int (zI w)), (3, .int (zI (num * w)))]) (by decide) rfl d_Mo_differ_91 ?_
          have loop54 : ∀ (q : Nat) (p : Int) (ad : Int) (k2 : Nat) (P1 : PS) (mt2 : Int → Int) (ms2 : Int → Int) (ma2 : Int → Int) (mn2 : Int → Int) (F51 : Nat → Value) (f55 : Nat → va_E), (en - p).toNat < q → (num * w ≤ p ∧ p ≤ en ∧ en - p ≤ k2) → (0 ≤ ad ∧ ad ≤ p - num * w ∧ 0 ≤ pC P1 ∧ pC P1 + ad ≤ p) → (plB P1) → (noA P1 num) → (0 < pC P1 → pN P1 (pC P1 - 1) ≤ num) → (pwF h (sz 0) (sz 0 + (en - num * w)) ch num Q = pwL h (sz 0) (sz 0 + (en - num * w)) ch num k2 (sz 0 + (p - num * w)) ad P1) → (plE mt2 ms2 ma2 mn2 (appA P1 ad num)) → (F51 11 = .int (zI (pC (appA P1 ad num)))) → (FrF [11] F29 F51) → f55 69 = iz E 700 mt2 → f55 70 = iz E 700 ms2 → f55 71 = iz E 700 ma2 → f55 72 = iz E 700 mn2 → f55 61 = mob F51 → Fr [69, 70, 71, 72, 61] f49 f55 → G E X 0 0 93 [(0, .ref (eA E 61)), (1, .int (zI ch)), (2, .int (zI w)), (3, .int (zI (num * w))), (4, .int (zI en)), (5, .int (zI p))] [] (wl E f55) := by
            intro q
            induction q with
            | zero => intro p ad k2 P1 mt2 ms2 ma2 mn2 F51 f55 hms57; exact absurd hms57 (Nat.not_lt_zero _)
            | succ q ih58 =>
              intro p ad k2 P1 mt2 ms2 ma2 mn2 F51 f55 hms57 hp had hB1 hno hl1 hs2 hpe2 h52 k53 h59 h60 h61 h62 h63 k56
              have hac := appA_b (num := num) hB1 (show 0 ≤ ad ∧ ad ≤ 300 by omega) (by omega) had.2.2.1
              refine G_iload hX 5 rfl d_Mo_differ_93 ?_
              refine G_iload hX 4 rfl d_Mo_differ_95 ?_
              refine G_icmp_ge_z hX (tgt := 291) d_Mo_differ_97 rfl (by omega) (fun c64 => ?_) (fun c65 => ?_)
              · skip
                refine G_iload_n hX 3 rfl rfl d_Mo_differ_291 ?_
                refine G_aload_n hX 0 rfl rfl d_Mo_differ_292 ?_
                have h66 : F51 13 = .int (zI w) := (k53 13 (by decide)).trans h31
                refine M_get hX fg_Mo_246 d_Mo_differ_293 h63 (by decide) h66 ?_
                refine G_iadd_z hX d_Mo_differ_296 ?_
                refine G_istore_n hX (lv' := [(3, .int (zI ((num * w) + w))), (0, .ref (eA E 61)), (1, .int (zI ch)), (2, .int (zI w)), (4, .int (zI en)), (5, .int (zI p))]) rfl (by decide) rfl d_Mo_differ_297 ?_
                refine G_goto hX (tgt := 48) d_Mo_differ_298 rfl ?_
                have hpe9 : p = en := by omega
                rw [hs2.trans (pwL_end (by omega))] at hst
                have h67 : F51 12 = .int (zI (sz 0)) := (k53 12 (by decide)).trans h32
                refine G_loc (lv' := [(0, .ref (eA E 61)), (1, .int (zI ch)), (2, .int (zI w)), (3, .int (zI ((num * w) + w)))]) [1, 2, 3, 0] rfl ?_
                refine G_cast (ih38 (num + 1) (k - 1) (appA P1 ad num) mt2 ms2 ma2 mn2 F51 f55 (by rw [hnx]; omega) (by rw [hnx]; omega) hac.1 (by rw [hnx]; omega) (appA_l hl1) hst hpe2 h52 h66 h67 (FrF.tr (FrF.tr FrF.rf k33 (by decide)) k53 (by decide)) h59 h60 h61 h62 h63 (Fr.tr (Fr.tr (Fr.tr Fr.rf k36 (by decide)) k50 (by decide)) k56 (by decide))) rfl (by rw [hnx]) rfl rfl
              · skip
                have hst2 := hs2.trans (pwL_s (by omega) (by omega))
                have join68 : ∀ (r : Int) (f69 : Nat → va_E), (1 ≤ r ∧ p + r ≤ en) → (rnF h (sz 0 + (p - num * w)) (sz 0 + (en - num * w)) = r) → Fr [] f55 f69 → G E X 0 0 147 [(0, .ref (eA E 61)), (1, .int (zI ch)), (2, .int (zI w)), (3, .int (zI (num * w))), (4, .int (zI en)), (5, .int (zI p)), (6, .int (zI r))] [] (wl E f69) := by
                  intro r f69 hr hrn k70
                  obtain ⟨fm, hfm⟩ : ∃ fm, fm = fmF h (sz 0) (sz 0 + (en - num * w)) ch (sz 0 + (p - num * w)) := ⟨_, rfl⟩
                  have hfb := fmF_b (h := h) (so := sz 0) (en := sz 0 + (en - num * w)) (ch := ch) (here := sz 0 + (p - num * w)) (by omega) (by omega)
                  rw [hrn, ← hfm] at hst2
                  rw [← hfm] at hfb
                  have heb := enc_b (m := fm) (by omega) (by omega) hfb.2.2
                  refine G_aload_n hX 0 rfl rfl d_Mo_differ_147 ?_
                  refine G_iload hX 5 rfl d_Mo_differ_148 ?_
                  refine G_iload_n hX 3 rfl rfl d_Mo_differ_150 ?_
                  refine G_iload hX 4 rfl d_Mo_differ_151 ?_
                  refine G_iload_n hX 1 rfl rfl d_Mo_differ_153 ?_
                  have h71 : f69 61 = mob F51 := (k70 61 (List.not_mem_nil)).trans h63
                  have h72 : F51 12 = .int (zI (sz 0)) := (k53 12 (by decide)).trans h32
                  have h73 : f69 63 = iz E 1600 b := (k70 63 (List.not_mem_nil)).trans ((k56 63 (by decide)).trans ((k50 63 (List.not_mem_nil)).trans ((k36 63 (by decide)).trans ((k28 63 (by decide)).trans ((k22 63 (by decide)).trans ((k14 63 (by decide)).trans hc63))))))
                  refine F_callV hX (st := []) (c_Mo_bestMatch E f69 F51 p ch (sz 0) (num * w) en b h h71 (moK_fr hmk (FrF.tr (FrF.tr (FrF.tr (FrF.tr (FrF.tr (FrF.rf (S := [11, 12, 13])) k13 (by decide)) k21 (by decide)) k27 (by decide)) k33 (by decide)) k53 (by decide)) (by decide)) h72 h73 hB hho hhn (by omega) (by omega) (by omega)) cm_Mo_bestMatch im_Mo_bestMatch se_Mo_bestMatch rfl ml_Mo_271 d_Mo_differ_154 (by decide) h71 rfl rfl (Nat.le_of_ble_eq_true rfl) (by decide) ?_
                  rintro _ f74 ⟨rfl, e77⟩
                  obtain rfl := e77.symm
                  refine G_cast (st' := [.int (zI (encF (fmF h (sz 0) ((sz 0) + (en - (num * w))) ch ((sz 0) + (p - (num * w))))))]) ?_ rfl rfl rfl rfl
                  refine G_top (show zI (encF (fmF h (sz 0) ((sz 0) + (en - (num * w))) ch ((sz 0) + (p - (num * w))))) = zI (encF fm) from by rw [hfm]) ?_
                  refine G_istore hX (lv' := [(7, .int (zI (encF fm))), (0, .ref (eA E 61)), (1, .int (zI ch)), (2, .int (zI w)), (3, .int (zI (num * w))), (4, .int (zI en)), (5, .int (zI p)), (6, .int (zI r))]) (by decide) rfl d_Mo_differ_157 ?_
                  refine G_iload hX 0 rfl d_Mo_differ_159 ?_
                  refine G_sipush hX (by decide) d_Mo_differ_161 ?_
                  refine G_irem_z hX (by omega) d_Mo_differ_164 ?_
                  refine G_top (show zI ((encF fm) % 1000) = zI fm.2 from by rw [enc_m (by omega)]) ?_
                  refine G_istore hX (lv' := [(8, .int (zI fm.2)), (7, .int (zI (encF fm))), (0, .ref (eA E 61)), (1, .int (zI ch)), (2, .int (zI w)), (3, .int (zI (num * w))), (4, .int (zI en)), (5, .int (zI p)), (6, .int (zI r))]) (by decide) rfl d_Mo_differ_165 ?_
                  refine G_iload hX 8 rfl d_Mo_differ_167 ?_
                  refine G_iconst hX d_Mo_differ_169 ?_
                  refine G_icmp_lt_z hX (tgt := 204) d_Mo_differ_170 rfl (by omega) (fun c78 => ?_) (fun c79 => ?_)
                  · skip
                    refine G_iload hX 0 rfl d_Mo_differ_204 ?_
                    refine G_iconst hX d_Mo_differ_206 ?_
                    refine G_icmp_lt_z hX (tgt := 229) d_Mo_differ_207 rfl (by omega) (fun c80 => ?_) (fun c81 => ?_)
                    · skip
                      refine G_aload_n hX 2 rfl rfl d_Mo_differ_229 ?_
                      refine G_iload_n hX 5 rfl rfl d_Mo_differ_230 ?_
                      refine G_aload_n hX 2 rfl rfl d_Mo_differ_231 ?_
                      have h82 : F51 13 = .int (zI w) := (k53 13 (by decide)).trans h31
                      refine M_get hX fg_Mo_246 d_Mo_differ_232 h71 (by decide) h82 ?_
                      refine G_idiv_z hX (by omega) d_Mo_differ_235 ?_
                      refine G_top (show zI ((num * w) / w) = zI num from by rw [hdv]) ?_
                      have h83 : f69 69 = iz E 700 mt2 := (k70 69 (List.not_mem_nil)).trans h59
                      have h84 : f69 72 = iz E 700 mn2 := (k70 72 (List.not_mem_nil)).trans h62
                      refine F_callV hX (st := []) (c_Mo_isAdding E f69 F51 num (pC (appA P1 ad num)) mt2 mn2 h71 (moK_fr hmk (FrF.tr (FrF.tr (FrF.tr (FrF.tr (FrF.tr (FrF.rf (S := [11, 12, 13])) k13 (by decide)) k21 (by decide)) k27 (by decide)) k33 (by decide)) k53 (by decide)) (by decide)) h52 h83 h84 (by omega) (by omega) (ia_b hpe2 rfl hac.1)) cm_Mo_isAdding im_Mo_isAdding se_Mo_isAdding rfl ml_Mo_268 d_Mo_differ_236 (by decide) h71 rfl rfl (Nat.le_of_ble_eq_true rfl) (by decide) ?_
                      rintro _ f85 ⟨rfl, e88⟩
                      obtain rfl := e88.symm
                      refine G_cast (st' := [.int (zI (if iaP mt2 mn2 (pC (appA P1 ad num)) num then 1 else 0))]) ?_ rfl rfl rfl rfl
                      by_cases q9 : 0 < ad
                      · skip
                        have hia := ia_p hpe2 rfl (by omega) q9
                        refine G_top (show zI (if iaP mt2 mn2 (pC (appA P1 ad num)) num then 1 else 0) = zI 1 from by rw [if_pos hia.1]) ?_
                        refine G_if_eq_z hX (tgt := 272) d_Mo_differ_239 rfl (by omega) (fun c89 => by exfalso; omega) (fun c90 => ?_)
                        refine G_aload_n hX 2 rfl rfl d_Mo_differ_242 ?_
                        have h91 : F51 15 = .ref (eA E 70) := (k53 15 (by decide)).trans ((k33 15 (by decide)).trans ((k27 15 (by decide)).trans ((k21 15 (by decide)).trans ((k13 15 (by decide)).trans (hmk 15 70 (by decide))))))
                        refine M_get hX fg_Mo_106 d_Mo_differ_243 h71 (by decide) h91 ?_
                        refine G_aload_n hX 2 rfl rfl d_Mo_differ_246 ?_
                        refine M_get hX fg_Mo_100 d_Mo_differ_247 h71 (by decide) h52 ?_
                        refine G_iconst hX d_Mo_differ_250 ?_
                        refine G_isub_z hX d_Mo_differ_251 ?_
                        refine G_aload_n hX 2 rfl rfl d_Mo_differ_252 ?_
                        refine M_get hX fg_Mo_106 d_Mo_differ_253 h71 (by decide) h91 ?_
                        refine G_aload_n hX 2 rfl rfl d_Mo_differ_256 ?_
                        refine M_get hX fg_Mo_100 d_Mo_differ_257 h71 (by decide) h52 ?_
                        refine G_iconst hX d_Mo_differ_260 ?_
                        refine G_isub_z hX d_Mo_differ_261 ?_
                        have h92 : f69 70 = iz E 700 ms2 := (k70 70 (List.not_mem_nil)).trans h60
                        refine F_iald hX d_Mo_differ_262 70 (by decide) h92 (by omega) ?_
                        refine G_top (show zI (ms2 ((pC (appA P1 ad num)) - 1)) = zI ad from congrArg zI hia.2.1) ?_
                        refine G_iconst hX d_Mo_differ_263 ?_
                        refine G_iadd_z hX d_Mo_differ_264 ?_
                        refine F_iast hX d_Mo_differ_265 70 (by decide) h92 (by omega) (fun f93 h94 k95 => ?_)
                        refine G_iinc_z hX (lv' := [(5, .int (zI (p + 1))), (8, .int (zI fm.2)), (7, .int (zI (encF fm))), (0, .ref (eA E 61)), (1, .int (zI ch)), (2, .int (zI w)), (3, .int (zI (num * w))), (4, .int (zI en)), (6, .int (zI r))]) 7 rfl (by decide) rfl d_Mo_differ_266 ?_
                        refine G_goto hX (tgt := 288) d_Mo_differ_269 rfl ?_
                        refine G_goto hX (tgt := 93) d_Mo_differ_288 rfl ?_
                        rw [if_neg (by omega), if_neg (by omega)] at hst2
                        have h96 : f93 69 = iz E 700 mt2 := (k95 69 (by decide)).trans h83
                        have hC1 := appA_C (P := P1) (ad := ad) (num := num)
                        rw [if_pos q9] at hC1
                        have hC2 := appA_C (P := P1) (ad := ad + 1) (num := num)
                        rw [if_pos (by omega)] at hC2
                        have h97 : f93 71 = iz E 700 ma2 := (k95 71 (by decide)).trans ((k70 71 (List.not_mem_nil)).trans h61)
                        have h98 : f93 72 = iz E 700 mn2 := (k95 72 (by decide)).trans h84
                        have h99 : f93 61 = mob F51 := (k95 61 (by decide)).trans h71
                        refine G_loc (lv' := [(0, .ref (eA E 61)), (1, .int (zI ch)), (2, .int (zI w)), (3, .int (zI (num * w))), (4, .int (zI en)), (5, .int (zI (p + 1)))]) [3, 4, 5, 6, 7, 0] rfl ?_
                        exact ih58 (p + 1) (ad + 1) (k2 - 1) P1 mt2 (uz ms2 ((pC (appA P1 ad num)) - 1) (ad + 1)) ma2 mn2 F51 f93 (by omega) (by omega) (by omega) hB1 hno hl1 (by rw [show sz 0 + (p + 1 - num * w) = sz 0 + (p - num * w) + 1 by omega]; exact hst2) (plE_sz hpe2 q9 (by omega) hia.2.2) (h52.trans (by congr 2; omega)) (FrF.tr FrF.rf k53 (by decide)) h96 h94 h97 h98 h99 (Fr.tr (Fr.tr (Fr.tr Fr.rf k56 (by decide)) k70 (by decide)) k95 (by decide))
                      · skip
                        have hia := ia_n hpe2 rfl hno q9
                        refine G_top (show zI (if iaP mt2 mn2 (pC (appA P1 ad num)) num then 1 else 0) = zI 0 from by rw [if_neg hia]) ?_
                        refine G_if_eq_z hX (tgt := 272) d_Mo_differ_239 rfl (by omega) (fun c100 => ?_) (fun c101 => by exfalso; omega)
                        refine G_aload_n hX 2 rfl rfl d_Mo_differ_272 ?_
                        refine G_iconst hX d_Mo_differ_273 ?_
                        refine G_iconst hX d_Mo_differ_274 ?_
                        refine G_iconst hX d_Mo_differ_275 ?_
                        refine G_iload_n hX 5 rfl rfl d_Mo_differ_276 ?_
                        refine G_aload_n hX 2 rfl rfl d_Mo_differ_277 ?_
                        refine M_get hX fg_Mo_246 d_Mo_differ_278 h71 (by decide) h82 ?_
                        refine G_idiv_z hX (by omega) d_Mo_differ_281 ?_
                        refine G_top (show zI ((num * w) / w) = zI num from by rw [hdv]) ?_
                        have h102 : f69 70 = iz E 700 ms2 := (k70 70 (List.not_mem_nil)).trans h60
                        have h103 : f69 71 = iz E 700 ma2 := (k70 71 (List.not_mem_nil)).trans h61
                        refine F_callV hX (st := []) (c_Mo_tell E f69 F51 1 1 (-1) num (pC (appA P1 ad num)) mt2 ms2 ma2 mn2 h71 (moK_fr hmk (FrF.tr (FrF.tr (FrF.tr (FrF.tr (FrF.tr (FrF.rf (S := [11, 12, 13])) k13 (by decide)) k21 (by decide)) k27 (by decide)) k33 (by decide)) k53 (by decide)) (by decide)) h52 h83 h102 h103 h84 (by omega)) cm_Mo_tell im_Mo_tell se_Mo_tell rfl ml_Mo_258 d_Mo_differ_282 (by decide) h71 rfl rfl (Nat.le_of_ble_eq_true rfl) (by decide) ?_
                        rintro _ f104 ⟨rfl, F107, h108, h109, k110, h111, h112, h113, h114, k115⟩
                        refine G_cast (st' := []) ?_ rfl rfl rfl rfl
                        refine G_iinc_z hX (lv' := [(5, .int (zI (p + 1))), (8, .int (zI fm.2)), (7, .int (zI (encF fm))), (0, .ref (eA E 61)), (1, .int (zI ch)), (2, .int (zI w)), (3, .int (zI (num * w))), (4, .int (zI en)), (6, .int (zI r))]) 7 rfl (by decide) rfl d_Mo_differ_285 ?_
                        refine G_goto hX (tgt := 93) d_Mo_differ_288 rfl ?_
                        rw [if_neg (by omega), if_neg (by omega)] at hst2
                        have had0 : ad = 0 := by omega
                        have hC1 := appA_C (P := P1) (ad := ad) (num := num)
                        rw [if_neg q9] at hC1
                        have hC2 := appA_C (P := P1) (ad := ad + 1) (num := num)
                        rw [if_pos (by omega)] at hC2
                        refine G_loc (lv' := [(0, .ref (eA E 61)), (1, .int (zI ch)), (2, .int (zI w)), (3, .int (zI (num * w))), (4, .int (zI en)), (5, .int (zI (p + 1)))]) [3, 4, 5, 6, 7, 0] rfl ?_
                        exact ih58 (p + 1) (ad + 1) (k2 - 1) P1 (uz mt2 (pC (appA P1 ad num)) 1) (uz ms2 (pC (appA P1 ad num)) 1) (uz ma2 (pC (appA P1 ad num)) (-1)) (uz mn2 (pC (appA P1 ad num)) num) F107 f104 (by omega) (by omega) (by omega) hB1 hno hl1 (by rw [show sz 0 + (p + 1 - num * w) = sz 0 + (p - num * w) + 1 by omega]; exact hst2) (by have := plE_one hpe2 q9 rfl; rw [show ad + 1 = 1 by omega]; exact this) (h109.trans (by congr 2; omega)) (FrF.tr (FrF.tr FrF.rf k53 (by decide)) k110 (by decide)) h111 h112 h113 h114 h108 (Fr.tr (Fr.tr (Fr.tr Fr.rf k56 (by decide)) k70 (by decide)) k115 (by decide))
                    · skip
                      refine G_aload_n hX 2 rfl rfl d_Mo_differ_210 ?_
                      refine G_iload hX 1 rfl d_Mo_differ_211 ?_
                      refine G_iload hX 7 rfl d_Mo_differ_213 ?_
                      refine G_iload_n hX 5 rfl rfl d_Mo_differ_215 ?_
                      have h116 : F51 13 = .int (zI w) := (k53 13 (by decide)).trans h31
                      have h117 : f69 69 = iz E 700 mt2 := (k70 69 (List.not_mem_nil)).trans h59
                      have h118 : f69 70 = iz E 700 ms2 := (k70 70 (List.not_mem_nil)).trans h60
                      have h119 : f69 71 = iz E 700 ma2 := (k70 71 (List.not_mem_nil)).trans h61
                      have h120 : f69 72 = iz E 700 mn2 := (k70 72 (List.not_mem_nil)).trans h62
                      refine F_callV hX (st := []) (c_Mo_copyBack E f69 F51 fm p (sz 0) (num * w) en b h mt2 ms2 ma2 mn2 P1 ad num w h71 (moK_fr hmk (FrF.tr (FrF.tr (FrF.tr (FrF.tr (FrF.tr (FrF.rf (S := [11, 12, 13])) k13 (by decide)) k21 (by decide)) k27 (by decide)) k33 (by decide)) k53 (by decide)) (by decide)) h52 h72 h116 h73 h117 h118 h119 h120 hB hho hhn (by omega) (by omega) (by omega) (by omega) ⟨rfl, by omega⟩ hB1 hno (by omega) hpe2) cm_Mo_copyBack im_Mo_copyBack se_Mo_copyBack rfl ml_Mo_274 d_Mo_differ_216 (by decide) h71 rfl rfl (Nat.le_of_ble_eq_true rfl) (by decide) ?_
                      rintro _ f121 ⟨rfl, F124, mt'_125, ms'_126, ma'_127, mn'_128, h129, h130, k131, h132, h133, h134, h135, p136, k137⟩
                      refine G_cast (st' := []) ?_ rfl rfl rfl rfl
                      refine G_iload hX 7 rfl d_Mo_differ_219 ?_
                      refine G_iload hX 0 rfl d_Mo_differ_221 ?_
                      refine G_iadd_z hX d_Mo_differ_223 ?_
                      refine G_istore hX (lv' := [(5, .int (zI (p + fm.2))), (8, .int (zI fm.2)), (7, .int (zI (encF fm))), (0, .ref (eA E 61)), (1, .int (zI ch)), (2, .int (zI w)), (3, .int (zI (num * w))), (4, .int (zI en)), (6, .int (zI r))]) (by decide) rfl d_Mo_differ_224 ?_
                      refine G_goto hX (tgt := 288) d_Mo_differ_226 rfl ?_
                      refine G_goto hX (tgt := 93) d_Mo_differ_288 rfl ?_
                      rw [if_neg (by omega), if_pos (by omega)] at hst2
                      have hsb := cnt_b (p := fun r => decide (r < ad ∧ r < fm.1 ∧ h (fm.1 - r - 1) = h (sz 0 + (p - num * w) - r - 1))) (B := ad) (r := 0) had.1
                      have hsb1 : 0 ≤ sbF h fm.1 (sz 0 + (p - num * w)) ad ∧ sbF h fm.1 (sz 0 + (p - num * w)) ad ≤ ad := hsb
                      have hsb2 := sbF_m (h := h) (here := sz 0 + (p - num * w)) (add := ad) (show 0 ≤ fm.1 by have := hfb.2.2 (by omega); omega)
                      have hac2 := appA_b (ad := ad - sbF h fm.1 (sz 0 + (p - num * w)) ad) (num := num) hB1 (by omega) (by omega) had.2.2.1
                      refine G_loc (lv' := [(0, .ref (eA E 61)), (1, .int (zI ch)), (2, .int (zI w)), (3, .int (zI (num * w))), (4, .int (zI en)), (5, .int (zI (p + fm.2)))]) [3, 4, 5, 6, 7, 0] rfl ?_
                      exact ih58 (p + fm.2) 0 (k2 - 1) (plApp (appA P1 (ad - sbF h fm.1 (sz 0 + (p - num * w)) ad) num) 3 (sbF h fm.1 (sz 0 + (p - num * w)) ad + fm.2) (fm.1 - sbF h fm.1 (sz 0 + (p - num * w)) ad) num) mt'_125 ms'_126 ma'_127 mn'_128 F124 f121 (by omega) (by omega) (show 0 ≤ (0 : Int) ∧ (0 : Int) ≤ _ ∧ 0 ≤ pC (appA P1 (ad - sbF h fm.1 (sz 0 + (p - num * w)) ad) num) + 1 ∧ pC (appA P1 (ad - sbF h fm.1 (sz 0 + (p - num * w)) ad) num) + 1 + 0 ≤ _ by omega) (plB_app hac2.1 (by decide) (by omega) (by omega) (by omega)) (noA_app (by decide)) app_l2 (by rw [show sz 0 + (p + fm.2 - num * w) = sz 0 + (p - num * w) + fm.2 by omega]; exact hst2) (by rw [appA_n (ad := 0) (by decide)]; exact p136) (by rw [appA_n (ad := 0) (by decide)]; exact h130) (FrF.tr (FrF.tr FrF.rf k53 (by decide)) k131 (by decide)) h132 h133 h134 h135 h129 (Fr.tr (Fr.tr (Fr.tr Fr.rf k56 (by decide)) k70 (by decide)) k137 (by decide))
                  · skip
                    refine G_iload hX 8 rfl d_Mo_differ_173 ?_
                    refine G_iload hX 0 rfl d_Mo_differ_175 ?_
                    refine G_icmp_lt_z hX (tgt := 204) d_Mo_differ_177 rfl (by omega) (fun c138 => ?_) (fun c139 => ?_)
                    · skip
                      refine G_iload hX 0 rfl d_Mo_differ_204 ?_
                      refine G_iconst hX d_Mo_differ_206 ?_
                      refine G_icmp_lt_z hX (tgt := 229) d_Mo_differ_207 rfl (by omega) (fun c140 => ?_) (fun c141 => ?_)
                      · skip
                        refine G_aload_n hX 2 rfl rfl d_Mo_differ_229 ?_
                        refine G_iload_n hX 5 rfl rfl d_Mo_differ_230 ?_
                        refine G_aload_n hX 2 rfl rfl d_Mo_differ_231 ?_
                        have h142 : F51 13 = .int (zI w) := (k53 13 (by decide)).trans h31
                        refine M_get hX fg_Mo_246 d_Mo_differ_232 h71 (by decide) h142 ?_
                        refine G_idiv_z hX (by omega) d_Mo_differ_235 ?_
                        refine G_top (show zI ((num * w) / w) = zI num from by rw [hdv]) ?_
                        have h143 : f69 69 = iz E 700 mt2 := (k70 69 (List.not_mem_nil)).trans h59
                        have h144 : f69 72 = iz E 700 mn2 := (k70 72 (List.not_mem_nil)).trans h62
                        refine F_callV hX (st := []) (c_Mo_isAdding E f69 F51 num (pC (appA P1 ad num)) mt2 mn2 h71 (moK_fr hmk (FrF.tr (FrF.tr (FrF.tr (FrF.tr (FrF.tr (FrF.rf (S := [11, 12, 13])) k13 (by decide)) k21 (by decide)) k27 (by decide)) k33 (by decide)) k53 (by decide)) (by decide)) h52 h143 h144 (by omega) (by omega) (ia_b hpe2 rfl hac.1)) cm_Mo_isAdding im_Mo_isAdding se_Mo_isAdding rfl ml_Mo_268 d_Mo_differ_236 (by decide) h71 rfl rfl (Nat.le_of_ble_eq_true rfl) (by decide) ?_
                        rintro _ f145 ⟨rfl, e148⟩
                        obtain rfl := e148.symm
                        refine G_cast (st' := [.int (zI (if iaP mt2 mn2 (pC (appA P1 ad num)) num then 1 else 0))]) ?_ rfl rfl rfl rfl
                        by_cases q9 : 0 < ad
                        · skip
                          have hia := ia_p hpe2 rfl (by omega) q9
                          refine G_top (show zI (if iaP mt2 mn2 (pC (appA P1 ad num)) num then 1 else 0) = zI 1 from by rw [if_pos hia.1]) ?_
                          refine G_if_eq_z hX (tgt := 272) d_Mo_differ_239 rfl (by omega) (fun c149 => by exfalso; omega) (fun c150 => ?_)
                          refine G_aload_n hX 2 rfl rfl d_Mo_differ_242 ?_
                          have h151 : F51 15 = .ref (eA E 70) := (k53 15 (by decide)).trans ((k33 15 (by decide)).trans ((k27 15 (by decide)).trans ((k21 15 (by decide)).trans ((k13 15 (by decide)).trans (hmk 15 70 (by decide))))))
                          refine M_get hX fg_Mo_106 d_Mo_differ_243 h71 (by decide) h151 ?_
                          refine G_aload_n hX 2 rfl rfl d_Mo_differ_246 ?_
                          refine M_get hX fg_Mo_100 d_Mo_differ_247 h71 (by decide) h52 ?_
                          refine G_iconst hX d_Mo_differ_250 ?_
                          refine G_isub_z hX d_Mo_differ_251 ?_
                          refine G_aload_n hX 2 rfl rfl d_Mo_differ_252 ?_
                          refine M_get hX fg_Mo_106 d_Mo_differ_253 h71 (by decide) h151 ?_
                          refine G_aload_n hX 2 rfl rfl d_Mo_differ_256 ?_
                          refine M_get hX fg_Mo_100 d_Mo_differ_257 h71 (by decide) h52 ?_
                          refine G_iconst hX d_Mo_differ_260 ?_
                          refine G_isub_z hX d_Mo_differ_261 ?_
                          have h152 : f69 70 = iz E 700 ms2 := (k70 70 (List.not_mem_nil)).trans h60
                          refine F_iald hX d_Mo_differ_262 70 (by decide) h152 (by omega) ?_
                          refine G_top (show zI (ms2 ((pC (appA P1 ad num)) - 1)) = zI ad from congrArg zI hia.2.1) ?_
                          refine G_iconst hX d_Mo_differ_263 ?_
                          refine G_iadd_z hX d_Mo_differ_264 ?_
                          refine F_iast hX d_Mo_differ_265 70 (by decide) h152 (by omega) (fun f153 h154 k155 => ?_)
                          refine G_iinc_z hX (lv' := [(5, .int (zI (p + 1))), (8, .int (zI fm.2)), (7, .int (zI (encF fm))), (0, .ref (eA E 61)), (1, .int (zI ch)), (2, .int (zI w)), (3, .int (zI (num * w))), (4, .int (zI en)), (6, .int (zI r))]) 7 rfl (by decide) rfl d_Mo_differ_266 ?_
                          refine G_goto hX (tgt := 288) d_Mo_differ_269 rfl ?_
                          refine G_goto hX (tgt := 93) d_Mo_differ_288 rfl ?_
                          rw [if_neg (by omega), if_neg (by omega)] at hst2
                          have h156 : f153 69 = iz E 700 mt2 := (k155 69 (by decide)).trans h143
                          have hC1 := appA_C (P := P1) (ad := ad) (num := num)
                          rw [if_pos q9] at hC1
                          have hC2 := appA_C (P := P1) (ad := ad + 1) (num := num)
                          rw [if_pos (by omega)] at hC2
                          have h157 : f153 71 = iz E 700 ma2 := (k155 71 (by decide)).trans ((k70 71 (List.not_mem_nil)).trans h61)
                          have h158 : f153 72 = iz E 700 mn2 := (k155 72 (by decide)).trans h144
                          have h159 : f153 61 = mob F51 := (k155 61 (by decide)).trans h71
                          refine G_loc (lv' := [(0, .ref (eA E 61)), (1, .int (zI ch)), (2, .int (zI w)), (3, .int (zI (num * w))), (4, .int (zI en)), (5, .int (zI (p + 1)))]) [3, 4, 5, 6, 7, 0] rfl ?_
                          exact ih58 (p + 1) (ad + 1) (k2 - 1) P1 mt2 (uz ms2 ((pC (appA P1 ad num)) - 1) (ad + 1)) ma2 mn2 F51 f153 (by omega) (by omega) (by omega) hB1 hno hl1 (by rw [show sz 0 + (p + 1 - num * w) = sz 0 + (p - num * w) + 1 by omega]; exact hst2) (plE_sz hpe2 q9 (by omega) hia.2.2) (h52.trans (by congr 2; omega)) (FrF.tr FrF.rf k53 (by decide)) h156 h154 h157 h158 h159 (Fr.tr (Fr.tr (Fr.tr Fr.rf k56 (by decide)) k70 (by decide)) k155 (by decide))
                        · skip
                          have hia := ia_n hpe2 rfl hno q9
                          refine G_top (show zI (if iaP mt2 mn2 (pC (appA P1 ad num)) num then 1 else 0) = zI 0 from by rw [if_neg hia]) ?_
                          refine G_if_eq_z hX (tgt := 272) d_Mo_differ_239 rfl (by omega) (fun c160 => ?_) (fun c161 => by exfalso; omega)
                          refine G_aload_n hX 2 rfl rfl d_Mo_differ_272 ?_
                          refine G_iconst hX d_Mo_differ_273 ?_
                          refine G_iconst hX d_Mo_differ_274 ?_
                          refine G_iconst hX d_Mo_differ_275 ?_
                          refine G_iload_n hX 5 rfl rfl d_Mo_differ_276 ?_
                          refine G_aload_n hX 2 rfl rfl d_Mo_differ_277 ?_
                          refine M_get hX fg_Mo_246 d_Mo_differ_278 h71 (by decide) h142 ?_
                          refine G_idiv_z hX (by omega) d_Mo_differ_281 ?_
                          refine G_top (show zI ((num * w) / w) = zI num from by rw [hdv]) ?_
                          have h162 : f69 70 = iz E 700 ms2 := (k70 70 (List.not_mem_nil)).trans h60
                          have h163 : f69 71 = iz E 700 ma2 := (k70 71 (List.not_mem_nil)).trans h61
                          refine F_callV hX (st := []) (c_Mo_tell E f69 F51 1 1 (-1) num (pC (appA P1 ad num)) mt2 ms2 ma2 mn2 h71 (moK_fr hmk (FrF.tr (FrF.tr (FrF.tr (FrF.tr (FrF.tr (FrF.rf (S := [11, 12, 13])) k13 (by decide)) k21 (by decide)) k27 (by decide)) k33 (by decide)) k53 (by decide)) (by decide)) h52 h143 h162 h163 h144 (by omega)) cm_Mo_tell im_Mo_tell se_Mo_tell rfl ml_Mo_258 d_Mo_differ_282 (by decide) h71 rfl rfl (Nat.le_of_ble_eq_true rfl) (by decide) ?_
                          rintro _ f164 ⟨rfl, F167, h168, h169, k170, h171, h172, h173, h174, k175⟩
                          refine G_cast (st' := []) ?_ rfl rfl rfl rfl
                          refine G_iinc_z hX (lv' := [(5, .int (zI (p + 1))), (8, .int (zI fm.2)), (7, .int (zI (encF fm))), (0, .ref (eA E 61)), (1, .int (zI ch)), (2, .int (zI w)), (3, .int (zI (num * w))), (4, .int (zI en)), (6, .int (zI r))]) 7 rfl (by decide) rfl d_Mo_differ_285 ?_
                          refine G_goto hX (tgt := 93) d_Mo_differ_288 rfl ?_
                          rw [if_neg (by omega), if_neg (by omega)] at hst2
                          have had0 : ad = 0 := by omega
                          have hC1 := appA_C (P := P1) (ad := ad) (num := num)
                          rw [if_neg q9] at hC1
                          have hC2 := appA_C (P := P1) (ad := ad + 1) (num := num)
                          rw [if_pos (by omega)] at hC2
                          refine G_loc (lv' := [(0, .ref (eA E 61)), (1, .int (zI ch)), (2, .int (zI w)), (3, .int (zI (num * w))), (4, .int (zI en)), (5, .int (zI (p + 1)))]) [3, 4, 5, 6, 7, 0] rfl ?_
                          exact ih58 (p + 1) (ad + 1) (k2 - 1) P1 (uz mt2 (pC (appA P1 ad num)) 1) (uz ms2 (pC (appA P1 ad num)) 1) (uz ma2 (pC (appA P1 ad num)) (-1)) (uz mn2 (pC (appA P1 ad num)) num) F167 f164 (by omega) (by omega) (by omega) hB1 hno hl1 (by rw [show sz 0 + (p + 1 - num * w) = sz 0 + (p - num * w) + 1 by omega]; exact hst2) (by have := plE_one hpe2 q9 rfl; rw [show ad + 1 = 1 by omega]; exact this) (h169.trans (by congr 2; omega)) (FrF.tr (FrF.tr FrF.rf k53 (by decide)) k170 (by decide)) h171 h172 h173 h174 h168 (Fr.tr (Fr.tr (Fr.tr Fr.rf k56 (by decide)) k70 (by decide)) k175 (by decide))
                      · skip
                        refine G_aload_n hX 2 rfl rfl d_Mo_differ_210 ?_
                        refine G_iload hX 1 rfl d_Mo_differ_211 ?_
                        refine G_iload hX 7 rfl d_Mo_differ_213 ?_
                        refine G_iload_n hX 5 rfl rfl d_Mo_differ_215 ?_
                        have h176 : F51 13 = .int (zI w) := (k53 13 (by decide)).trans h31
                        have h177 : f69 69 = iz E 700 mt2 := (k70 69 (List.not_mem_nil)).trans h59
                        have h178 : f69 70 = iz E 700 ms2 := (k70 70 (List.not_mem_nil)).trans h60
                        have h179 : f69 71 = iz E 700 ma2 := (k70 71 (List.not_mem_nil)).trans h61
                        have h180 : f69 72 = iz E 700 mn2 := (k70 72 (List.not_mem_nil)).trans h62
                        refine F_callV hX (st := []) (c_Mo_copyBack E f69 F51 fm p (sz 0) (num * w) en b h mt2 ms2 ma2 mn2 P1 ad num w h71 (moK_fr hmk (FrF.tr (FrF.tr (FrF.tr (FrF.tr (FrF.tr (FrF.rf (S := [11, 12, 13])) k13 (by decide)) k21 (by decide)) k27 (by decide)) k33 (by decide)) k53 (by decide)) (by decide)) h52 h72 h176 h73 h177 h178 h179 h180 hB hho hhn (by omega) (by omega) (by omega) (by omega) ⟨rfl, by omega⟩ hB1 hno (by omega) hpe2) cm_Mo_copyBack im_Mo_copyBack se_Mo_copyBack rfl ml_Mo_274 d_Mo_differ_216 (by decide) h71 rfl rfl (Nat.le_of_ble_eq_true rfl) (by decide) ?_
                        rintro _ f181 ⟨rfl, F184, mt'_185, ms'_186, ma'_187, mn'_188, h189, h190, k191, h192, h193, h194, h195, p196, k197⟩
                        refine G_cast (st' := []) ?_ rfl rfl rfl rfl
                        refine G_iload hX 7 rfl d_Mo_differ_219 ?_
                        refine G_iload hX 0 rfl d_Mo_differ_221 ?_
                        refine G_iadd_z hX d_Mo_differ_223 ?_
                        refine G_istore hX (lv' := [(5, .int (zI (p + fm.2))), (8, .int (zI fm.2)), (7, .int (zI (encF fm))), (0, .ref (eA E 61)), (1, .int (zI ch)), (2, .int (zI w)), (3, .int (zI (num * w))), (4, .int (zI en)), (6, .int (zI r))]) (by decide) rfl d_Mo_differ_224 ?_
                        refine G_goto hX (tgt := 288) d_Mo_differ_226 rfl ?_
                        refine G_goto hX (tgt := 93) d_Mo_differ_288 rfl ?_
                        rw [if_neg (by omega), if_pos (by omega)] at hst2
                        have hsb := cnt_b (p := fun r => decide (r < ad ∧ r < fm.1 ∧ h (fm.1 - r - 1) = h (sz 0 + (p - num * w) - r - 1))) (B := ad) (r := 0) had.1
                        have hsb1 : 0 ≤ sbF h fm.1 (sz 0 + (p - num * w)) ad ∧ sbF h fm.1 (sz 0 + (p - num * w)) ad ≤ ad := hsb
                        have hsb2 := sbF_m (h := h) (here := sz 0 + (p - num * w)) (add := ad) (show 0 ≤ fm.1 by have := hfb.2.2 (by omega); omega)
                        have hac2 := appA_b (ad := ad - sbF h fm.1 (sz 0 + (p - num * w)) ad) (num := num) hB1 (by omega) (by omega) had.2.2.1
                        refine G_loc (lv' := [(0, .ref (eA E 61)), (1, .int (zI ch)), (2, .int (zI w)), (3, .int (zI (num * w))), (4, .int (zI en)), (5, .int (zI (p + fm.2)))]) [3, 4, 5, 6, 7, 0] rfl ?_
                        exact ih58 (p + fm.2) 0 (k2 - 1) (plApp (appA P1 (ad - sbF h fm.1 (sz 0 + (p - num * w)) ad) num) 3 (sbF h fm.1 (sz 0 + (p - num * w)) ad + fm.2) (fm.1 - sbF h fm.1 (sz 0 + (p - num * w)) ad) num) mt'_185 ms'_186 ma'_187 mn'_188 F184 f181 (by omega) (by omega) (show 0 ≤ (0 : Int) ∧ (0 : Int) ≤ _ ∧ 0 ≤ pC (appA P1 (ad - sbF h fm.1 (sz 0 + (p - num * w)) ad) num) + 1 ∧ pC (appA P1 (ad - sbF h fm.1 (sz 0 + (p - num * w)) ad) num) + 1 + 0 ≤ _ by omega) (plB_app hac2.1 (by decide) (by omega) (by omega) (by omega)) (noA_app (by decide)) app_l2 (by rw [show sz 0 + (p + fm.2 - num * w) = sz 0 + (p - num * w) + fm.2 by omega]; exact hst2) (by rw [appA_n (ad := 0) (by decide)]; exact p196) (by rw [appA_n (ad := 0) (by decide)]; exact h190) (FrF.tr (FrF.tr FrF.rf k53 (by decide)) k191 (by decide)) h192 h193 h194 h195 h189 (Fr.tr (Fr.tr (Fr.tr Fr.rf k56 (by decide)) k70 (by decide)) k197 (by decide))
                    · skip
                      refine G_aload_n hX 2 rfl rfl d_Mo_differ_180 ?_
                      refine G_iconst hX d_Mo_differ_181 ?_
                      refine G_iload hX 8 rfl d_Mo_differ_182 ?_
                      refine G_iconst hX d_Mo_differ_184 ?_
                      refine G_iload_n hX 5 rfl rfl d_Mo_differ_185 ?_
                      refine G_aload_n hX 2 rfl rfl d_Mo_differ_186 ?_
                      have h198 : F51 13 = .int (zI w) := (k53 13 (by decide)).trans h31
                      refine M_get hX fg_Mo_246 d_Mo_differ_187 h71 (by decide) h198 ?_
                      refine G_idiv_z hX (by omega) d_Mo_differ_190 ?_
                      refine G_top (show zI ((num * w) / w) = zI num from by rw [hdv]) ?_
                      have h199 : f69 69 = iz E 700 mt2 := (k70 69 (List.not_mem_nil)).trans h59
                      have h200 : f69 70 = iz E 700 ms2 := (k70 70 (List.not_mem_nil)).trans h60
                      have h201 : f69 71 = iz E 700 ma2 := (k70 71 (List.not_mem_nil)).trans h61
                      have h202 : f69 72 = iz E 700 mn2 := (k70 72 (List.not_mem_nil)).trans h62
                      refine F_callV hX (st := []) (c_Mo_tell E f69 F51 2 r (-1) num (pC (appA P1 ad num)) mt2 ms2 ma2 mn2 h71 (moK_fr hmk (FrF.tr (FrF.tr (FrF.tr (FrF.tr (FrF.tr (FrF.rf (S := [11, 12, 13])) k13 (by decide)) k21 (by decide)) k27 (by decide)) k33 (by decide)) k53 (by decide)) (by decide)) h52 h199 h200 h201 h202 (by omega)) cm_Mo_tell im_Mo_tell se_Mo_tell rfl ml_Mo_258 d_Mo_differ_191 (by decide) h71 rfl rfl (Nat.le_of_ble_eq_true rfl) (by decide) ?_
                      rintro _ f203 ⟨rfl, F206, h207, h208, k209, h210, h211, h212, h213, k214⟩
                      refine G_cast (st' := []) ?_ rfl rfl rfl rfl
                      refine G_iload hX 7 rfl d_Mo_differ_194 ?_
                      refine G_iload hX 8 rfl d_Mo_differ_196 ?_
                      refine G_iadd_z hX d_Mo_differ_198 ?_
                      refine G_istore hX (lv' := [(5, .int (zI (p + r))), (8, .int (zI fm.2)), (7, .int (zI (encF fm))), (0, .ref (eA E 61)), (1, .int (zI ch)), (2, .int (zI w)), (3, .int (zI (num * w))), (4, .int (zI en)), (6, .int (zI r))]) (by decide) rfl d_Mo_differ_199 ?_
                      refine G_goto hX (tgt := 288) d_Mo_differ_201 rfl ?_
                      refine G_goto hX (tgt := 93) d_Mo_differ_288 rfl ?_
                      rw [if_pos ⟨by omega, by omega⟩] at hst2
                      refine G_loc (lv' := [(0, .ref (eA E 61)), (1, .int (zI ch)), (2, .int (zI w)), (3, .int (zI (num * w))), (4, .int (zI en)), (5, .int (zI (p + r)))]) [3, 4, 5, 6, 7, 0] rfl ?_
                      exact ih58 (p + r) 0 (k2 - 1) (plApp (appA P1 ad num) 2 r (-1) num) (uz mt2 (pC (appA P1 ad num)) 2) (uz ms2 (pC (appA P1 ad num)) r) (uz ma2 (pC (appA P1 ad num)) (-1)) (uz mn2 (pC (appA P1 ad num)) num) F206 f203 (by omega) (by omega) (show 0 ≤ (0 : Int) ∧ (0 : Int) ≤ _ ∧ 0 ≤ pC (appA P1 ad num) + 1 ∧ pC (appA P1 ad num) + 1 + 0 ≤ _ by omega) (plB_app hac.1 (by decide) (by omega) (by omega) (by omega)) (noA_app (by decide)) app_l2 (by rw [show sz 0 + (p + r - num * w) = sz 0 + (p - num * w) + r by omega]; exact hst2) (by rw [appA_n (ad := 0) (by decide)]; exact plE_tl hpe2 rfl) (by rw [appA_n (ad := 0) (by decide)]; exact h208) (FrF.tr (FrF.tr FrF.rf k53 (by decide)) k209 (by decide)) h210 h211 h212 h213 h207 (Fr.tr (Fr.tr (Fr.tr Fr.rf k56 (by decide)) k70 (by decide)) k214 (by decide))
                refine G_iconst hX d_Mo_differ_100 ?_
                refine G_istore hX (lv' := [(6, .int (zI 1)), (0, .ref (eA E 61)), (1, .int (zI ch)), (2, .int (zI w)), (3, .int (zI (num * w))), (4, .int (zI en)), (5, .int (zI p))]) (by decide) rfl d_Mo_differ_101 ?_
                have loop215 : ∀ (q : Nat) (r : Int) (f216 : Nat → va_E), (en - p - r).toNat < q → (1 ≤ r ∧ p + r ≤ en) → (rnF h (sz 0 + (p - num * w)) (sz 0 + (en - num * w)) = cntF (fun r => decide (sz 0 + (p - num * w) + r < sz 0 + (en - num * w) ∧ h (sz 0 + (p - num * w) + r) = h (sz 0 + (p - num * w)))) (sz 0 + (en - num * w) - (sz 0 + (p - num * w))) r) → Fr [] f55 f216 → G E X 0 0 103 [(0, .ref (eA E 61)), (1, .int (zI ch)), (2, .int (zI w)), (3, .int (zI (num * w))), (4, .int (zI en)), (5, .int (zI p)), (6, .int (zI r))] [] (wl E f216) := by
                  intro q
                  induction q with
                  | zero => intro r f216 hms218; exact absurd hms218 (Nat.not_lt_zero _)
                  | succ q ih219 =>
                    intro r f216 hms218 hr hs3 k217
                    refine G_iload hX 5 rfl d_Mo_differ_103 ?_
                    refine G_iload hX 6 rfl d_Mo_differ_105 ?_
                    refine G_iadd_z hX d_Mo_differ_107 ?_
                    refine G_iload hX 4 rfl d_Mo_differ_108 ?_
                    refine G_icmp_ge_z hX (tgt := 147) d_Mo_differ_110 rfl (by omega) (fun c220 => ?_) (fun c221 => ?_)
                    · skip
                      have e9 : rnF h (sz 0 + (p - num * w)) (sz 0 + (en - num * w)) = r := by
                        refine hs3.trans (cnt_stop ?_)
                        by_cases q : sz 0 + (en - num * w) - (sz 0 + (p - num * w)) ≤ r
                        · exact Or.inr q
                        · refine Or.inl (decide_eq_false (fun q2 => ?_))
                          have q3 := q2.2
                          first | omega | contradiction
                      exact join68 r f216  (by omega) e9  (Fr.tr Fr.rf k217 (by decide))
                    · skip
                      refine G_aload_n hX 0 rfl rfl d_Mo_differ_113 ?_
                      have h222 : f216 61 = mob F51 := (k217 61 (List.not_mem_nil)).trans h63
                      have h223 : F51 1 = .ref (eA E 63) := (k53 1 (by decide)).trans ((k33 1 (by decide)).trans ((k27 1 (by decide)).trans ((k21 1 (by decide)).trans ((k13 1 (by decide)).trans (hmk 1 63 (by decide))))))
                      refine M_get hX fg_Mo_77 d_Mo_differ_114 h222 (by decide) h223 ?_
                      refine G_sipush hX (by decide) d_Mo_differ_117 ?_
                      refine G_iload hX 5 rfl d_Mo_differ_120 ?_
                      refine G_iadd_z hX d_Mo_differ_122 ?_
                      refine G_iload hX 6 rfl d_Mo_differ_123 ?_
                      refine G_iadd_z hX d_Mo_differ_125 ?_
                      have h224 : f216 63 = iz E 1600 b := (k217 63 (List.not_mem_nil)).trans ((k56 63 (by decide)).trans ((k50 63 (List.not_mem_nil)).trans ((k36 63 (by decide)).trans ((k28 63 (by decide)).trans ((k22 63 (by decide)).trans ((k14 63 (by decide)).trans hc63))))))
                      refine F_iald hX d_Mo_differ_126 63 (by decide) h224 (by omega) ?_
                      refine G_top (show zI (b ((300 + p) + r)) = zI (h (sz 0 + (p - num * w) + r)) from congrArg zI ((congrArg b (show _ = 300 + num * w + ((sz 0 + (p - num * w) + r) - sz 0) by omega)).trans ((hhn ((sz 0 + (p - num * w) + r) - sz 0) (by omega) (by omega)).trans (congrArg h (by omega))))) ?_
                      have b225 := hB (sz 0 + (p - num * w) + r)
                      refine G_aload_n hX 0 rfl rfl d_Mo_differ_127 ?_
                      refine M_get hX fg_Mo_77 d_Mo_differ_128 h222 (by decide) h223 ?_
                      refine G_sipush hX (by decide) d_Mo_differ_131 ?_
                      refine G_iload hX 5 rfl d_Mo_differ_134 ?_
                      refine G_iadd_z hX d_Mo_differ_136 ?_
                      refine F_iald hX d_Mo_differ_137 63 (by decide) h224 (by omega) ?_
                      refine G_top (show zI (b (300 + p)) = zI (h (sz 0 + (p - num * w))) from congrArg zI ((congrArg b (show _ = 300 + num * w + ((sz 0 + (p - num * w)) - sz 0) by omega)).trans ((hhn ((sz 0 + (p - num * w)) - sz 0) (by omega) (by omega)).trans (congrArg h (by omega))))) ?_
                      have b226 := hB (sz 0 + (p - num * w))
                      refine G_icmp_ne_z hX (tgt := 147) d_Mo_differ_138 rfl (by omega) (fun c227 => ?_) (fun c228 => ?_)
                      · skip
                        have e9 : rnF h (sz 0 + (p - num * w)) (sz 0 + (en - num * w)) = r := by
                          refine hs3.trans (cnt_stop ?_)
                          by_cases q : sz 0 + (en - num * w) - (sz 0 + (p - num * w)) ≤ r
                          · exact Or.inr q
                          · refine Or.inl (decide_eq_false (fun q2 => ?_))
                            have q3 := q2.2
                            first | omega | contradiction
                        exact join68 r f216  (by omega) e9  (Fr.tr Fr.rf k217 (by decide))
                      · skip
                        refine G_iinc_z hX (lv' := [(6, .int (zI (r + 1))), (0, .ref (eA E 61)), (1, .int (zI ch)), (2, .int (zI w)), (3, .int (zI (num * w))), (4, .int (zI en)), (5, .int (zI p))]) 6 rfl (by decide) rfl d_Mo_differ_141 ?_
                        refine G_goto hX (tgt := 103) d_Mo_differ_144 rfl ?_
                        refine G_loc (lv' := [(0, .ref (eA E 61)), (1, .int (zI ch)), (2, .int (zI w)), (3, .int (zI (num * w))), (4, .int (zI en)), (5, .int (zI p)), (6, .int (zI (r + 1)))]) [1, 2, 3, 4, 5, 6, 0] rfl ?_
                        exact ih219 (r + 1) f216 (by omega) (by omega) (hs3.trans (cnt_go (by omega) (decide_eq_true ⟨by omega, by assumption⟩)))  (Fr.tr Fr.rf k217 (by decide))
                refine G_loc (lv' := [(0, .ref (eA E 61)), (1, .int (zI ch)), (2, .int (zI w)), (3, .int (zI (num * w))), (4, .int (zI en)), (5, .int (zI p)), (6, .int (zI 1))]) [1, 2, 3, 4, 5, 6, 0] rfl ?_
                exact loop215 (_ + 1) 1 f55 (Nat.lt_succ_self _) (by omega) rfl  Fr.rf
          have h229 : f49 69 = iz E 700 mt1 := (k50 69 (List.not_mem_nil)).trans h39
          have h230 : f49 70 = iz E 700 ms1 := (k50 70 (List.not_mem_nil)).trans h40
          have h231 : f49 71 = iz E 700 ma1 := (k50 71 (List.not_mem_nil)).trans h41
          have h232 : f49 72 = iz E 700 mn1 := (k50 72 (List.not_mem_nil)).trans h42
          have h233 : f49 61 = mob F29 := (k50 61 (List.not_mem_nil)).trans h43
          refine G_loc (lv' := [(0, .ref (eA E 61)), (1, .int (zI ch)), (2, .int (zI w)), (3, .int (zI (num * w))), (4, .int (zI en)), (5, .int (zI (num * w)))]) [2, 3, 4, 5, 1, 0] rfl ?_
          exact loop54 (_ + 1) (num * w) 0 ((sz 0 + (en - num * w) - sz 0).toNat) Q mt1 ms1 ma1 mn1 F29 f49 (Nat.lt_succ_self _) (by omega) (by omega) hQB (noA_l hQl) (fun q => by have := hQl q; omega) (by unfold pwF; rw [Int.sub_self, Int.add_zero]) (by rw [appA_n (ad := 0) (by decide)]; exact hpe1) (by rw [appA_n (ad := 0) (by decide)]; exact h30) FrF.rf h229 h230 h231 h232 h233 Fr.rf
        refine G_iload_n hX 3 rfl rfl d_Mo_differ_58 ?_
        refine G_aload_n hX 0 rfl rfl d_Mo_differ_59 ?_
        refine M_get hX fg_Mo_246 d_Mo_differ_60 h43 (by decide) h31 ?_
        refine G_iadd_z hX d_Mo_differ_63 ?_
        refine G_aload_n hX 0 rfl rfl d_Mo_differ_64 ?_
        refine M_get hX fg_Mo_81 d_Mo_differ_65 h43 (by decide) h44 ?_
        refine G_iconst hX d_Mo_differ_68 ?_
        refine F_iald hX d_Mo_differ_69 64 (by decide) h45 (by omega) ?_
        refine G_icmp_ge_z hX (tgt := 82) d_Mo_differ_70 rfl (by omega) (fun c234 => ?_) (fun c235 => ?_)
        · skip
          refine G_aload_n hX 0 rfl rfl d_Mo_differ_82 ?_
          refine M_get hX fg_Mo_81 d_Mo_differ_83 h43 (by decide) h44 ?_
          refine G_iconst hX d_Mo_differ_86 ?_
          refine F_iald hX d_Mo_differ_87 64 (by decide) h45 (by omega) ?_
          have hen2 : sz 0 + (if w ≤ sz 1 - num * w then w else sz 1 - num * w) = sz 0 + ((sz 1) - num * w) := by split <;> omega
          exact join48 (sz 1) f35  (by omega) hen2 (by omega)  Fr.rf
        · skip
          refine G_iload_n hX 3 rfl rfl d_Mo_differ_73 ?_
          refine G_aload_n hX 0 rfl rfl d_Mo_differ_74 ?_
          refine M_get hX fg_Mo_246 d_Mo_differ_75 h43 (by decide) h31 ?_
          refine G_iadd_z hX d_Mo_differ_78 ?_
          refine G_goto hX (tgt := 88) d_Mo_differ_79 rfl ?_
          have hen2 : sz 0 + (if w ≤ sz 1 - num * w then w else sz 1 - num * w) = sz 0 + (((num * w) + w) - num * w) := by split <;> omega
          exact join48 ((num * w) + w) f35  (by omega) hen2 (by omega)  Fr.rf
  have h236 : F24 13 = .int (zI w) := (k27 13 (by decide)).trans ((k21 13 (by decide)).trans h12)
  have h237 : F24 12 = .int (zI (sz 0)) := (k27 12 (by decide)).trans h20
  have h238 : f23 69 = iz E 700 mt := (k28 69 (by decide)).trans ((k22 69 (by decide)).trans ((k14 69 (by decide)).trans hc69))
  have h239 : f23 70 = iz E 700 ms := (k28 70 (by decide)).trans ((k22 70 (by decide)).trans ((k14 70 (by decide)).trans hc70))
  have h240 : f23 71 = iz E 700 ma := (k28 71 (by decide)).trans ((k22 71 (by decide)).trans ((k14 71 (by decide)).trans hc71))
  have h241 : f23 72 = iz E 700 mn := (k28 72 (by decide)).trans ((k22 72 (by decide)).trans ((k14 72 (by decide)).trans hc72))
  refine G_loc (lv' := [(0, .ref (eA E 61)), (1, .int (zI ch)), (2, .int (zI w)), (3, .int (zI 0))]) [1, 2, 3, 0] rfl ?_
  refine G_cast (loop34 (_ + 1) 0 ((sz 1).toNat) (pT P, pS P, pA P, pN P, 0) mt ms ma mn F24 f23 (Nat.lt_succ_self _) (by omega) hPB (show 0 ≤ (0 : Int) ∧ (0 : Int) ≤ 0 * w ∧ (0 : Int) ≤ sz 1 by omega) (fun q => absurd (show (0 : Int) < 0 from q) (by decide)) rfl (fun j h1 h2 => absurd h2 (by show ¬ j < 0; omega)) h26 h236 h237 FrF.rf h238 h239 h240 h241 h25 Fr.rf) rfl (by rw [Int.zero_mul]) rfl rfl
theorem c_Mo_differ_no (E : EV) (f : Nat → va_E) (F : Nat → Value) (ch : Int) (w : Int) (hMo : f 61 = mob F) (hmk : moK E F) (hk : ch < 1 ∨ 16 < ch ∨ w < 16 ∨ 256 < w) (hk2 : -2147483648 ≤ ch ∧ ch < 2147483648 ∧ -2147483648 ≤ w ∧ w < 2147483648) : CF yn_Mo_differ cd_Mo_differ 9 (some (.int)) 3 E [.ref (eA E 61), .int (zI ch), .int (zI w)] f (fun r f' => r = some (.int (zI (-1))) ∧ f' = f) := by
  refine CF.of (by decide +kernel) (Nat.le_of_ble_eq_true rfl) fun X hX hE => ?_
  have hX : Ok E X "DeltaFerryModel" "differ" cd_Mo_differ 9 (some (.int)) (rl 3) := hX
  refine G_cast (lv' := [(0, .ref (eA E 61)), (1, .int (zI ch)), (2, .int (zI w))]) ?_ rfl rfl rfl rfl
  refine G_iload_n hX 1 rfl rfl d_Mo_differ_0 ?_
  refine G_iconst hX d_Mo_differ_1 ?_
  refine G_icmp_lt_z hX (tgt := 24) d_Mo_differ_2 rfl (by omega) (fun c1 => ?_) (fun c2 => ?_)
  · skip
    refine G_iconst hX d_Mo_differ_24 ?_
    exact F_iret hX hE d_Mo_differ_25 ⟨rfl, rfl⟩
  · skip
    refine G_iload_n hX 1 rfl rfl d_Mo_differ_5 ?_
    refine G_bipush hX (by decide) d_Mo_differ_6 ?_
    refine G_icmp_gt_z hX (tgt := 24) d_Mo_differ_8 rfl (by omega) (fun c3 => ?_) (fun c4 => ?_)
    · skip
      refine G_iconst hX d_Mo_differ_24 ?_
      exact F_iret hX hE d_Mo_differ_25 ⟨rfl, rfl⟩
    · skip
      refine G_iload_n hX 2 rfl rfl d_Mo_differ_11 ?_
      refine G_bipush hX (by decide) d_Mo_differ_12 ?_
      refine G_icmp_lt_z hX (tgt := 24) d_Mo_differ_14 rfl (by omega) (fun c5 => ?_) (fun c6 => ?_)
      · skip
        refine G_iconst hX d_Mo_differ_24 ?_
        exact F_iret hX hE d_Mo_differ_25 ⟨rfl, rfl⟩
      · skip
        refine G_iload_n hX 2 rfl rfl d_Mo_differ_17 ?_
        refine G_sipush hX (by decide) d_Mo_differ_18 ?_
        refine G_icmp_le_z hX (tgt := 26) d_Mo_differ_21 rfl (by omega) (fun c7 => ?_) (fun c8 => ?_)
        · skip
          exfalso; omega
        · skip
          refine G_iconst hX d_Mo_differ_24 ?_
          exact F_iret hX hE d_Mo_differ_25 ⟨rfl, rfl⟩
theorem c_Mo_scan_no (E : EV) (f : Nat → va_E) (F : Nat → Value) (w : Int) (ct : Int) (hMo : f 61 = mob F) (hmk : moK E F) (hF7 : F 7 = .int (zI ct)) (hk : ct < 0 ∨ w < 16 ∨ 256 < w) (hk2 : -2147483648 ≤ w ∧ w < 2147483648 ∧ -1 ≤ ct ∧ ct ≤ 75) : CF yn_Mo_scan cd_Mo_scan 7 (some (.int)) 4 E [.ref (eA E 61), .int (zI w)] f (fun r f' => r = some (.int (zI (-1))) ∧ f' = f) := by
  refine CF.of (by decide +kernel) (Nat.le_of_ble_eq_true rfl) fun X hX hE => ?_
  have hX : Ok E X "DeltaFerryModel" "scan" cd_Mo_scan 7 (some (.int)) (rl 4) := hX
  refine G_cast (lv' := [(0, .ref (eA E 61)), (1, .int (zI w))]) ?_ rfl rfl rfl rfl
  refine G_aload_n hX 0 rfl rfl d_Mo_scan_0 ?_
  refine M_get hX fg_Mo_87 d_Mo_scan_1 hMo (by decide) hF7 ?_
  refine G_if_lt_z hX (tgt := 20) d_Mo_scan_4 rfl (by omega) (fun c1 => ?_) (fun c2 => ?_)
  · skip
    refine G_iconst hX d_Mo_scan_20 ?_
    exact F_iret hX hE d_Mo_scan_21 ⟨rfl, rfl⟩
  · skip
    refine G_iload_n hX 1 rfl rfl d_Mo_scan_7 ?_
    refine G_bipush hX (by decide) d_Mo_scan_8 ?_
    refine G_icmp_lt_z hX (tgt := 20) d_Mo_scan_10 rfl (by omega) (fun c3 => ?_) (fun c4 => ?_)
    · skip
      refine G_iconst hX d_Mo_scan_20 ?_
      exact F_iret hX hE d_Mo_scan_21 ⟨rfl, rfl⟩
    · skip
      refine G_iload_n hX 1 rfl rfl d_Mo_scan_13 ?_
      refine G_sipush hX (by decide) d_Mo_scan_14 ?_
      refine G_icmp_le_z hX (tgt := 22) d_Mo_scan_17 rfl (by omega) (fun c5 => ?_) (fun c6 => ?_)
      · skip
        exfalso; omega
      · skip
        refine G_iconst hX d_Mo_scan_20 ?_
        exact F_iret hX hE d_Mo_scan_21 ⟨rfl, rfl⟩
theorem c_Mo_instruction (E : EV) (f : Nat → va_E) (F : Nat → Value) (i : Int) (q : Int) (pl : Int) (md : Int) (P : PS) (mt : Int → Int) (ms : Int → Int) (ma : Int → Int) (mn : Int → Int) (hMo : f 61 = mob F) (hmk : moK E F) (hF11 : F 11 = .int (zI pl)) (hc69 : f 69 = iz E 700 mt) (hc70 : f 70 = iz E 700 ms) (hc71 : f 71 = iz E 700 ma) (hc72 : f 72 = iz E 700 mn) (hpl : (md = 0 ∧ pl = -1) ∨ (md = 1 ∧ pl = pC P ∧ plE mt ms ma mn P)) (hC : 0 ≤ pC P ∧ pC P ≤ 300) (hk2 : -2147483648 ≤ i ∧ i < 2147483648 ∧ -2147483648 ≤ q ∧ q < 2147483648) : CF yn_Mo_instruction cd_Mo_instruction 3 (some (.int)) 0 E [.ref (eA E 61), .int (zI i), .int (zI q)] f (fun r f' => r = some (.int (zI (if md = 0 ∨ i < 0 ∨ pC P ≤ i ∨ q < 0 ∨ 3 < q then -1 else if q = 0 then pT P i else if q = 1 then pS P i else if q = 2 then pA P i else pN P i))) ∧ f' = f) := by
  refine CF.of (by decide +kernel) (Nat.le_of_ble_eq_true rfl) fun X hX hE => ?_
  have hX : Ok E X "DeltaFerryModel" "instruction" cd_Mo_instruction 3 (some (.int)) (rl 0) := hX
  refine G_cast (lv' := [(0, .ref (eA E 61)), (1, .int (zI i)), (2, .int (zI q))]) ?_ rfl rfl rfl rfl
  refine G_iload_n hX 1 rfl rfl d_Mo_instruction_0 ?_
  refine G_if_lt_z hX (tgt := 21) d_Mo_instruction_1 rfl (by omega) (fun c1 => ?_) (fun c2 => ?_)
  · skip
    refine G_iconst hX d_Mo_instruction_21 ?_
    exact F_iret hX hE d_Mo_instruction_22 ⟨by rw [if_pos (by omega)], rfl⟩
  · skip
    refine G_iload_n hX 1 rfl rfl d_Mo_instruction_4 ?_
    refine G_aload_n hX 0 rfl rfl d_Mo_instruction_5 ?_
    refine M_get hX fg_Mo_100 d_Mo_instruction_6 hMo (by decide) hF11 ?_
    refine G_icmp_ge_z hX (tgt := 21) d_Mo_instruction_9 rfl (by omega) (fun c3 => ?_) (fun c4 => ?_)
    · skip
      refine G_iconst hX d_Mo_instruction_21 ?_
      exact F_iret hX hE d_Mo_instruction_22 ⟨by rw [if_pos (by omega)], rfl⟩
    · skip
      refine G_iload_n hX 2 rfl rfl d_Mo_instruction_12 ?_
      refine G_if_lt_z hX (tgt := 21) d_Mo_instruction_13 rfl (by omega) (fun c5 => ?_) (fun c6 => ?_)
      · skip
        refine G_iconst hX d_Mo_instruction_21 ?_
        exact F_iret hX hE d_Mo_instruction_22 ⟨by rw [if_pos (by omega)], rfl⟩
      · skip
        refine G_iload_n hX 2 rfl rfl d_Mo_instruction_16 ?_
        refine G_iconst hX d_Mo_instruction_17 ?_
        refine G_icmp_le_z hX (tgt := 23) d_Mo_instruction_18 rfl (by omega) (fun c7 => ?_) (fun c8 => ?_)
        · skip
          have hmd : md = 1 ∧ pl = pC P ∧ plE mt ms ma mn P := by rcases hpl with q1 | q1; (exfalso; omega); exact q1
          have hE1 := hmd.2.2 i (by omega) (by omega)
          refine G_iload_n hX 2 rfl rfl d_Mo_instruction_23 ?_
          refine G_if_ne_z hX (tgt := 36) d_Mo_instruction_24 rfl (by omega) (fun c9 => ?_) (fun c10 => ?_)
          · skip
            refine G_iload_n hX 2 rfl rfl d_Mo_instruction_36 ?_
            refine G_iconst hX d_Mo_instruction_37 ?_
            refine G_icmp_ne_z hX (tgt := 50) d_Mo_instruction_38 rfl (by omega) (fun c11 => ?_) (fun c12 => ?_)
            · skip
              refine G_iload_n hX 2 rfl rfl d_Mo_instruction_50 ?_
              refine G_iconst hX d_Mo_instruction_51 ?_
              refine G_icmp_ne_z hX (tgt := 64) d_Mo_instruction_52 rfl (by omega) (fun c13 => ?_) (fun c14 => ?_)
              · skip
                refine G_aload_n hX 0 rfl rfl d_Mo_instruction_64 ?_
                refine M_get hX fg_Mo_112 d_Mo_instruction_65 hMo (by decide) (hmk 17 72 (by decide)) ?_
                refine G_iload_n hX 1 rfl rfl d_Mo_instruction_68 ?_
                refine F_iald hX d_Mo_instruction_69 72 (by decide) hc72 (by omega) ?_
                refine G_top (show zI (mn i) = zI (pN P i) from congrArg zI hE1.2.2.2) ?_
                exact F_iret hX hE d_Mo_instruction_70 ⟨by rw [if_neg (by omega), if_neg (by omega), if_neg (by omega), if_neg (by omega)], rfl⟩
              · skip
                refine G_aload_n hX 0 rfl rfl d_Mo_instruction_55 ?_
                refine M_get hX fg_Mo_109 d_Mo_instruction_56 hMo (by decide) (hmk 16 71 (by decide)) ?_
                refine G_iload_n hX 1 rfl rfl d_Mo_instruction_59 ?_
                refine F_iald hX d_Mo_instruction_60 71 (by decide) hc71 (by omega) ?_
                refine G_top (show zI (ma i) = zI (pA P i) from congrArg zI hE1.2.2.1) ?_
                refine G_goto hX (tgt := 70) d_Mo_instruction_61 rfl ?_
                exact F_iret hX hE d_Mo_instruction_70 ⟨by rw [if_neg (by omega), if_neg (by omega), if_neg (by omega), if_pos (by omega)], rfl⟩
            · skip
              refine G_aload_n hX 0 rfl rfl d_Mo_instruction_41 ?_
              refine M_get hX fg_Mo_106 d_Mo_instruction_42 hMo (by decide) (hmk 15 70 (by decide)) ?_
              refine G_iload_n hX 1 rfl rfl d_Mo_instruction_45 ?_
              refine F_iald hX d_Mo_instruction_46 70 (by decide) hc70 (by omega) ?_
              refine G_top (show zI (ms i) = zI (pS P i) from congrArg zI hE1.2.1) ?_
              refine G_goto hX (tgt := 70) d_Mo_instruction_47 rfl ?_
              exact F_iret hX hE d_Mo_instruction_70 ⟨by rw [if_neg (by omega), if_neg (by omega), if_pos (by omega)], rfl⟩
          · skip
            refine G_aload_n hX 0 rfl rfl d_Mo_instruction_27 ?_
            refine M_get hX fg_Mo_103 d_Mo_instruction_28 hMo (by decide) (hmk 14 69 (by decide)) ?_
            refine G_iload_n hX 1 rfl rfl d_Mo_instruction_31 ?_
            refine F_iald hX d_Mo_instruction_32 69 (by decide) hc69 (by omega) ?_
            refine G_top (show zI (mt i) = zI (pT P i) from congrArg zI hE1.1) ?_
            refine G_goto hX (tgt := 70) d_Mo_instruction_33 rfl ?_
            exact F_iret hX hE d_Mo_instruction_70 ⟨by rw [if_neg (by omega), if_pos (by omega)], rfl⟩
        · skip
          refine G_iconst hX d_Mo_instruction_21 ?_
          exact F_iret hX hE d_Mo_instruction_22 ⟨by rw [if_pos (by omega)], rfl⟩
