/-! DeltaFerryModel: layWindow; printed by wip/tools/m_mo9.py -/
theorem plE_i {mt ms ma mn : Int → Int} {P : PS} {i j : Int} (h : plE mt ms ma mn P) (h0 : 0 ≤ i ∧ i < pC P) (hj : j = i) : mt j = pT P i ∧ ms j = pS P i ∧ ma j = pA P i ∧ mn j = pN P i := by subst hj; exact h j h0.1 h0.2
theorem arI_b {P : PS} {a b x c : Int} (h : wnOK P a b x c) : ∀ (k : Nat), a + k ≤ b → arB (arI P a (a + k)) := by
  intro k
  induction k with
  | zero =>
    intro _
    have : arI P a (a + (0 : Nat)) = ar0 := by
      unfold arI
      rw [show (a + ((0 : Nat) : Int) - a).toNat = 0 by omega]; rfl
    rw [this]; exact arB_0
  | succ k ih =>
    intro hk
    have hi := h.2.2 (a + k) (by omega) (by omega)
    rw [show a + ((k + 1 : Nat) : Int) = (a + k) + 1 by omega, arI_s (by omega)]
    have := ih (by omega)
    split
    · rename_i q; exact arB_n this (hi.2.2.2.2 q)
    · exact this
theorem arI_bi {P : PS} {a b x c i : Int} (h : wnOK P a b x c) (h1 : a ≤ i) (h2 : i ≤ b) : arB (arI P a i) := by
  have := arI_b h (i - a).toNat (by omega)
  rwa [show a + ((i - a).toNat : Int) = i by omega] at this
theorem gdI_len {P : PS} {g : Int → Int} {i x : Int} (h : 1 ≤ pS P i) : ((gdI P g i x).length : Int) ≤ pS P i := by
  unfold gdI
  split
  · rw [sl_len]; omega
  · split
    · exact h
    · show (0 : Int) ≤ _; omega
theorem adI_len {P : PS} {a s i : Int} (h : pT P i = 3 → 0 ≤ pA P i ∧ pA P i ≤ 700) : (adI P a s i).length ≤ 2 := by
  unfold adI
  split
  · rename_i q; exact tl_len (h q)
  · exact Nat.zero_le 2
theorem c_Mo_layWindow (E : EV) (f : Nat → va_E) (F : Nat → Value) (a : Int) (bg : Int) (P : PS) (num : Int) (w : Int) (s : Int) (c : Int) (b : Int → Int) (gF : Int → Int) (mt : Int → Int) (ms : Int → Int) (ma : Int → Int) (mn : Int → Int) (nr : Int → Int) (sm : Int → Int) (pt : Int → Int) (ps : Int → Int) (hMo : f 61 = mob F) (hmk : moK E F) (hF11 : F 11 = .int (zI (pC P))) (hF12 : F 12 = .int (zI s)) (hF13 : F 13 = .int (zI w)) (hc63 : f 63 = iz E 1600 b) (hc69 : f 69 = iz E 700 mt) (hc70 : f 70 = iz E 700 ms) (hc71 : f 71 = iz E 700 ma) (hc72 : f 72 = iz E 700 mn) (hc78 : f 78 = iz E 8 nr) (hc79 : f 79 = iz E 1024 sm) (hc76 : f 76 = iz E 3 ps) (hc77 : f 77 = iz E 3000 pt) (hpe : plE mt ms ma mn P) (hPB : plB P) (hok : wnOK P a (wnE P num a) bg c) (hC : 0 ≤ pC P ∧ pC P ≤ 300 ∧ a ≤ pC P) (hw : 16 ≤ w ∧ w ≤ 256) (hnum : bg = num * w ∧ 0 ≤ num ∧ num ≤ 300) (hs : 0 ≤ s ∧ s ≤ 300) (hag : ∀ j, 0 ≤ j → j < c → b (300 + j) = gF j) : CF yn_Mo_layWindow cd_Mo_layWindow 11 (some (.int)) 4 E [.ref (eA E 61), .int (zI a), .int (zI bg)] f (fun r f' => r = some (.int (zI (wnE P num a))) ∧ ∃ (F' : Nat → Value) (nr' : Int → Int) (sm' : Int → Int) (pt' : Int → Int) (ps' : Int → Int), f' 61 = mob F' ∧ FrF [25, 26, 27] F F' ∧ f' 78 = iz E 8 nr' ∧ f' 79 = iz E 1024 sm' ∧ f' 76 = iz E 3 ps' ∧ f' 77 = iz E 3000 pt' ∧ (prt pt' ps' (gdL P gF (wnE P num a - a).toNat a) (cdL P (mdI P a s) (wnE P num a) (wnE P num a - a).toNat a) (adL P a s (wnE P num a - a).toNat a)) ∧ (((gdL P gF (wnE P num a - a).toNat a).length : Int) ≤ psI P (wnE P num a) - bg ∧ ((cdL P (mdI P a s) (wnE P num a) (wnE P num a - a).toNat a).length : Int) ≤ 3 * (psI P (wnE P num a) - bg) ∧ ((adL P a s (wnE P num a - a).toNat a).length : Int) ≤ 2 * (psI P (wnE P num a) - bg)) ∧ Fr [78, 79, 76, 77, 61] f f') := by
  refine CF.of (by decide +kernel) (Nat.le_of_ble_eq_true rfl) fun X hX hE => ?_
  have hX : Ok E X "DeltaFerryModel" "layWindow" cd_Mo_layWindow 11 (some (.int)) (rl 4) := hX
  refine G_cast (lv' := [(0, .ref (eA E 61)), (1, .int (zI a)), (2, .int (zI bg))]) ?_ rfl rfl rfl rfl
  obtain ⟨e, he⟩ : ∃ e, e = wnE P num a := ⟨_, rfl⟩
  have heb : a ≤ e ∧ e ≤ pC P := by rw [he]; exact wnE_b hC.2.2
  rw [← he] at hok
  rw [← he] at hE
  have hok1 := hok.2.1
  refine G_aload_n hX 0 rfl rfl d_Mo_layWindow_0 ?_
  refine M_get hX fg_Mo_124 d_Mo_layWindow_1 hMo (by decide) (hmk 23 76 (by decide)) ?_
  refine G_iconst hX d_Mo_layWindow_4 ?_
  refine G_iconst hX d_Mo_layWindow_5 ?_
  refine F_iast hX d_Mo_layWindow_6 76 (by decide) hc76 (by omega) (fun f1 h2 k3 => ?_)
  refine G_aload_n hX 0 rfl rfl d_Mo_layWindow_7 ?_
  have h4 : f1 61 = mob F := (k3 61 (by decide)).trans hMo
  refine M_get hX fg_Mo_124 d_Mo_layWindow_8 h4 (by decide) (hmk 23 76 (by decide)) ?_
  refine G_iconst hX d_Mo_layWindow_11 ?_
  refine G_iconst hX d_Mo_layWindow_12 ?_
  refine F_iast hX d_Mo_layWindow_13 76 (by decide) h2 (by omega) (fun f5 h6 k7 => ?_)
  refine G_aload_n hX 0 rfl rfl d_Mo_layWindow_14 ?_
  have h8 : f5 61 = mob F := (k7 61 (by decide)).trans h4
  refine M_get hX fg_Mo_124 d_Mo_layWindow_15 h8 (by decide) (hmk 23 76 (by decide)) ?_
  refine G_iconst hX d_Mo_layWindow_18 ?_
  refine G_iconst hX d_Mo_layWindow_19 ?_
  refine F_iast hX d_Mo_layWindow_20 76 (by decide) h6 (by omega) (fun f9 h10 k11 => ?_)
  refine G_aload_n hX 0 rfl rfl d_Mo_layWindow_21 ?_
  refine G_iconst hX d_Mo_layWindow_22 ?_
  refine G_iconst hX d_Mo_layWindow_23 ?_
  have h12 : f9 61 = mob F := (k11 61 (by decide)).trans h8
  have h13 : f9 78 = iz E 8 nr := (k11 78 (by decide)).trans ((k7 78 (by decide)).trans ((k3 78 (by decide)).trans hc78))
  have h14 : f9 79 = iz E 1024 sm := (k11 79 (by decide)).trans ((k7 79 (by decide)).trans ((k3 79 (by decide)).trans hc79))
  refine F_callV hX (st := []) (c_Mo_beginRows E f9 F 4 3 nr sm h12 hmk h13 h14) cm_Mo_beginRows im_Mo_beginRows se_Mo_beginRows rfl ml_Mo_319 d_Mo_layWindow_24 (by decide) h12 rfl rfl (Nat.le_of_ble_eq_true rfl) (by decide) ?_
  rintro _ f15 ⟨rfl, F18, h19, h20, h21, h22, k23, h24, h25, k26⟩
  refine G_cast (st' := []) ?_ rfl rfl rfl rfl
  refine G_iload_n hX 2 rfl rfl d_Mo_layWindow_27 ?_
  refine G_aload_n hX 0 rfl rfl d_Mo_layWindow_28 ?_
  have h27 : F18 13 = .int (zI w) := (k23 13 (by decide)).trans hF13
  refine M_get hX fg_Mo_246 d_Mo_layWindow_29 h19 (by decide) h27 ?_
  refine G_idiv_z hX (by omega) d_Mo_layWindow_32 ?_
  refine G_top (show zI (bg / w) = zI num from by rw [hnum.1, Int.mul_ediv_cancel _ (by omega)]) ?_
  refine G_istore_n hX (lv' := [(3, .int (zI num)), (0, .ref (eA E 61)), (1, .int (zI a)), (2, .int (zI bg))]) rfl (by decide) rfl d_Mo_layWindow_33 ?_
  refine G_iload_n hX 2 rfl rfl d_Mo_layWindow_34 ?_
  refine G_istore hX (lv' := [(4, .int (zI a)), (3, .int (zI num)), (0, .ref (eA E 61)), (1, .int (zI a)), (2, .int (zI bg))]) (by decide) rfl d_Mo_layWindow_35 ?_
  refine G_iload_n hX 4 rfl rfl d_Mo_layWindow_37 ?_
  refine G_istore hX (lv' := [(5, .int (zI bg)), (4, .int (zI a)), (3, .int (zI num)), (0, .ref (eA E 61)), (1, .int (zI a)), (2, .int (zI bg))]) (by decide) rfl d_Mo_layWindow_38 ?_
  have hx0 : bg = psI P a := hok.2.1.1
  have h28 : f15 76 = iz E 3 (uz (uz (uz ps 0 0) 1 0) 2 0) := (k26 76 (by decide)).trans h10
  have loop34 : ∀ (q : Nat) (i : Int) (k : Nat) (R : AR) (D : List Int) (C : List Int) (A : List Int) (pt1 : Int → Int) (ps1 : Int → Int) (F29 : Nat → Value) (f35 : Nat → va_E), (e - i).toNat < q → (a ≤ i ∧ i ≤ e ∧ e - i ≤ k) → (R = arI P a i) → (wnE P num i = e) → (gdL P gF (e - a).toNat (a) = D ++ gdL P gF (e - i).toNat (i)) → (cdL P (mdI P a s) e (e - a).toNat a = C ++ cdL P (mdI P a s) e k i) → (adL P a s (e - a).toNat (a) = A ++ adL P a s (e - i).toNat (i)) → (prt pt1 ps1 D C A) → ((D.length : Int) ≤ psI P i - bg ∧ (C.length : Int) ≤ 3 * (i - a) ∧ (A.length : Int) ≤ 2 * (i - a)) → (F29 25 = .int (zI 4)) → (F29 26 = .int (zI 3)) → (F29 27 = .int (zI R.2.2)) → (FrF [25, 26, 27] F18 F29) → f35 78 = iz E 8 R.1 → f35 79 = iz E 1024 R.2.1 → f35 76 = iz E 3 ps1 → f35 77 = iz E 3000 pt1 → f35 61 = mob F29 → Fr [78, 79, 76, 77, 61] f15 f35 → G E X 0 0 40 [(0, .ref (eA E 61)), (2, .int (zI bg)), (3, .int (zI num)), (4, .int (zI i)), (5, .int (zI (psI P i)))] [] (wl E f35) := by
    intro q
    induction q with
    | zero => intro i k R D C A pt1 ps1 F29 f35 hms37; exact absurd hms37 (Nat.not_lt_zero _)
    | succ q ih38 =>
      intro i k R D C A pt1 ps1 F29 f35 hms37 hi hR hwe hD hCd hA hpr hln h30 h31 h32 k33 h39 h40 h41 h42 h43 k36
      have hgi := wnOK_gi hok hi.1 hi.2.1
      have hle := wnOK_le hok
      have hci := hok.1
      refine G_iload hX 3 rfl d_Mo_layWindow_40 ?_
      refine G_aload_n hX 0 rfl rfl d_Mo_layWindow_42 ?_
      have h44 : F29 11 = .int (zI (pC P)) := (k33 11 (by decide)).trans ((k23 11 (by decide)).trans hF11)
      refine M_get hX fg_Mo_100 d_Mo_layWindow_43 h43 (by decide) h44 ?_
      refine G_icmp_ge_z hX (tgt := 439) d_Mo_layWindow_46 rfl (by omega) (fun c45 => ?_) (fun c46 => ?_)
      · skip
        refine G_iload hX 3 rfl d_Mo_layWindow_439 ?_
        have hie : i = e := hwe.symm.trans (wnE_no (by first | exact Or.inl (by omega) | exact Or.inr (by omega))) |>.symm
        rw [gdL_e (show e ≤ i by omega), List.append_nil] at hD
        rw [cdL_e (show e ≤ i by omega), List.append_nil] at hCd
        rw [adL_e (show e ≤ i by omega), List.append_nil] at hA
        exact F_iret hX hE d_Mo_layWindow_441 ⟨by rw [hie], F29, _, _, _, _, h43, (FrF.tr (FrF.tr FrF.rf k23 (by decide)) k33 (by decide)), h39, h40, h41, h42, (by rw [hD, hCd, hA]; exact hpr), (by rw [hD, hCd, hA, ← hie]; omega), (Fr.tr (Fr.tr (Fr.tr (Fr.tr (Fr.tr Fr.rf k3 (by decide)) k7 (by decide)) k11 (by decide)) k26 (by decide)) k36 (by decide))⟩
      · skip
        refine G_aload_n hX 0 rfl rfl d_Mo_layWindow_49 ?_
        have h47 : F29 17 = .ref (eA E 72) := (k33 17 (by decide)).trans ((k23 17 (by decide)).trans (hmk 17 72 (by decide)))
        refine M_get hX fg_Mo_112 d_Mo_layWindow_50 h43 (by decide) h47 ?_
        refine G_iload hX 3 rfl d_Mo_layWindow_53 ?_
        have h48 : f35 72 = iz E 700 mn := (k36 72 (by decide)).trans ((k26 72 (by decide)).trans ((k11 72 (by decide)).trans ((k7 72 (by decide)).trans ((k3 72 (by decide)).trans hc72))))
        refine F_iald hX d_Mo_layWindow_55 72 (by decide) h48 (by omega) ?_
        refine G_top (show zI (mn i) = zI (pN P i) from congrArg zI (plE_i hpe (by omega) rfl).2.2.2) ?_
        have b49 := hPB i
        refine G_iload_n hX 2 rfl rfl d_Mo_layWindow_56 ?_
        refine G_icmp_ne_z hX (tgt := 439) d_Mo_layWindow_57 rfl (by omega) (fun c50 => ?_) (fun c51 => ?_)
        · skip
          refine G_iload hX 3 rfl d_Mo_layWindow_439 ?_
          have hie : i = e := hwe.symm.trans (wnE_no (by first | exact Or.inl (by omega) | exact Or.inr (by omega))) |>.symm
          rw [gdL_e (show e ≤ i by omega), List.append_nil] at hD
          rw [cdL_e (show e ≤ i by omega), List.append_nil] at hCd
          rw [adL_e (show e ≤ i by omega), List.append_nil] at hA
          exact F_iret hX hE d_Mo_layWindow_441 ⟨by rw [hie], F29, _, _, _, _, h43, (FrF.tr (FrF.tr FrF.rf k23 (by decide)) k33 (by decide)), h39, h40, h41, h42, (by rw [hD, hCd, hA]; exact hpr), (by rw [hD, hCd, hA, ← hie]; omega), (Fr.tr (Fr.tr (Fr.tr (Fr.tr (Fr.tr Fr.rf k3 (by decide)) k7 (by decide)) k11 (by decide)) k26 (by decide)) k36 (by decide))⟩
        · skip
          have hiC : i < pC P := by omega
          have hwi := wnE_go hiC (by omega : pN P i = num)
          rw [hwe] at hwi
          have hie : i < e := by have := wnE_b (num := num) (show i + 1 ≤ pC P by omega); omega
          have hoi := hok.2.2 i hi.1 hie
          have hpi := psI_s (P := P) (show 0 ≤ i by omega)
          have hbi := hPB i
          have hps : bg ≤ psI P i := by omega
          have join52 : ∀ (code : Int) (md : Int) (f53 : Nat → va_E), (code = if i + 1 < e then c2F P (mdI P a s) i else -1) → (0 ≤ code → md = if pT P i = 1 then mdI P a s (i + 1) else mdI P a s i) → Fr [] f35 f53 → G E X 0 0 265 [(0, .ref (eA E 61)), (2, .int (zI bg)), (3, .int (zI num)), (4, .int (zI i)), (5, .int (zI (psI P i))), (7, .int (zI (s + psI P i - bg))), (8, .int (zI code)), (9, .int (zI md))] [] (wl E f53) := by
            intro code md f53 hcode hmd k54
            have hRB := arI_bi hok hi.1 hi.2.1
            rw [← hR] at hRB
            have hRh := arB_h hRB
            have hcb : -1 ≤ code ∧ code ≤ 255 := by
              rw [hcode]
              split
              · exact c2F_b (by omega) (fun q => mdI_b (hoi.2.2.2.2 q).1) (fun q => mdI_b ((hok.2.2 (i + 1) (by omega) (by omega)).2.2.2.2 q).1)
              · omega
            refine G_iload hX 6 rfl d_Mo_layWindow_265 ?_
            refine G_if_ge_z hX (tgt := 298) d_Mo_layWindow_267 rfl (by omega) (fun c55 => ?_) (fun c56 => ?_)
            · skip
              have hi1 : i + 1 < e := by by_cases q : i + 1 < e; exact q; rw [if_neg q] at hcode; omega
              rw [if_pos hi1] at hcode
              have hoj := hok.2.2 (i + 1) (by omega) hi1
              have hpj := psI_s (P := P) (show 0 ≤ i + 1 by omega)
              have hmd2 := hmd (by omega)
              have hpp := c2F_p (P := P) (md := (mdI P a s)) (i := i) (by omega)
              by_cases q7 : pT P i = 1 ∧ pT P (i + 1) = 3
              · skip
                have haj := hoj.2.2.2.2 q7.2
                rw [if_pos q7.1] at hmd2
                have hRi : arI P a (i + 1) = R := by rw [arI_s hi.1, if_neg (by omega), hR]
                have hmj : mdI P a s (i + 1) = mdF R.1 R.2.1 4 3 (pA P (i + 1)) (s + psI P i - bg + pS P i) := by unfold mdI; rw [hRi, hpi]; congr 1; omega
                refine G_aload_n hX 0 rfl rfl d_Mo_layWindow_298 ?_
                refine G_iconst hX d_Mo_layWindow_299 ?_
                refine G_iload hX 6 rfl d_Mo_layWindow_300 ?_
                have h57 : f53 61 = mob F29 := (k54 61 (List.not_mem_nil)).trans h43
                have h58 : f53 76 = iz E 3 ps1 := (k54 76 (List.not_mem_nil)).trans h41
                have h59 : f53 77 = iz E 3000 pt1 := (k54 77 (List.not_mem_nil)).trans h42
                refine F_callV hX (st := []) (c_Mo_lay1 E f53 F29 code pt1 ps1 D C A h57 (moK_fr hmk (FrF.tr (FrF.tr (FrF.rf (S := [25, 26, 27])) k23 (by decide)) k33 (by decide)) (by decide)) h58 h59 hpr (by first | omega | (simp only [List.length_append, List.length_cons, List.length_nil, sl_len, Int.natCast_add, Int.natCast_one, Int.natCast_zero]; omega))) cm_Mo_lay im_Mo_lay se_Mo_lay rfl ml_Mo_301 d_Mo_layWindow_302 (by decide) h57 rfl rfl (Nat.le_of_ble_eq_true rfl) (by decide) ?_
                rintro _ f60 ⟨rfl, pt'_63, ps'_64, h65, h66, p67, k68⟩
                refine G_cast (st' := []) ?_ rfl rfl rfl rfl
                refine G_aload_n hX 0 rfl rfl d_Mo_layWindow_305 ?_
                have h69 : f60 61 = mob F29 := (k68 61 (by decide)).trans h57
                have h70 : F29 14 = .ref (eA E 69) := (k33 14 (by decide)).trans ((k23 14 (by decide)).trans (hmk 14 69 (by decide)))
                refine M_get hX fg_Mo_103 d_Mo_layWindow_306 h69 (by decide) h70 ?_
                refine G_iload hX 3 rfl d_Mo_layWindow_309 ?_
                have h71 : f60 69 = iz E 700 mt := (k68 69 (by decide)).trans ((k54 69 (List.not_mem_nil)).trans ((k36 69 (by decide)).trans ((k26 69 (by decide)).trans ((k11 69 (by decide)).trans ((k7 69 (by decide)).trans ((k3 69 (by decide)).trans hc69))))))
                refine F_iald hX d_Mo_layWindow_311 69 (by decide) h71 (by omega) ?_
                refine G_top (show zI (mt i) = zI (pT P i) from congrArg zI (plE_i hpe (by omega) rfl).1) ?_
                have b72 := hPB i
                refine G_iconst hX d_Mo_layWindow_312 ?_
                refine G_icmp_ne_z hX (tgt := 320) d_Mo_layWindow_313 rfl (by omega) (fun c73 => by exfalso; omega) (fun c74 => ?_)
                refine G_iconst hX d_Mo_layWindow_316 ?_
                refine G_goto hX (tgt := 321) d_Mo_layWindow_317 rfl ?_
                refine G_istore hX (lv' := [(10, .int (zI 1)), (0, .ref (eA E 61)), (2, .int (zI bg)), (3, .int (zI num)), (4, .int (zI i)), (5, .int (zI (psI P i))), (7, .int (zI (s + psI P i - bg))), (8, .int (zI code)), (9, .int (zI md))]) (by decide) rfl d_Mo_layWindow_321 ?_
                refine G_aload_n hX 1 rfl rfl d_Mo_layWindow_323 ?_
                refine G_iload hX 0 rfl d_Mo_layWindow_324 ?_
                refine G_if_eq_z hX (tgt := 334) d_Mo_layWindow_326 rfl (by omega) (fun c75 => by exfalso; omega) (fun c76 => ?_)
                refine G_iload hX 5 rfl d_Mo_layWindow_329 ?_
                refine G_goto hX (tgt := 344) d_Mo_layWindow_331 rfl ?_
                refine G_iload hX 0 rfl d_Mo_layWindow_344 ?_
                refine G_if_eq_z hX (tgt := 359) d_Mo_layWindow_346 rfl (by omega) (fun c77 => by exfalso; omega) (fun c78 => ?_)
                refine G_aload_n hX 1 rfl rfl d_Mo_layWindow_349 ?_
                have h79 : F29 15 = .ref (eA E 70) := (k33 15 (by decide)).trans ((k23 15 (by decide)).trans (hmk 15 70 (by decide)))
                refine M_get hX fg_Mo_106 d_Mo_layWindow_350 h69 (by decide) h79 ?_
                refine G_iload hX 4 rfl d_Mo_layWindow_353 ?_
                have h80 : f60 70 = iz E 700 ms := (k68 70 (by decide)).trans ((k54 70 (List.not_mem_nil)).trans ((k36 70 (by decide)).trans ((k26 70 (by decide)).trans ((k11 70 (by decide)).trans ((k7 70 (by decide)).trans ((k3 70 (by decide)).trans hc70))))))
                refine F_iald hX d_Mo_layWindow_355 70 (by decide) h80 (by omega) ?_
                refine G_top (show zI (ms i) = zI (pS P i) from congrArg zI (plE_i hpe (by omega) rfl).2.1) ?_
                have b81 := hPB i
                refine G_goto hX (tgt := 360) d_Mo_layWindow_356 rfl ?_
                have h82 : f60 63 = iz E 1600 b := (k68 63 (by decide)).trans ((k54 63 (List.not_mem_nil)).trans ((k36 63 (by decide)).trans ((k26 63 (by decide)).trans ((k11 63 (by decide)).trans ((k7 63 (by decide)).trans ((k3 63 (by decide)).trans hc63))))))
                refine F_callV hX (st := []) (c_Mo_layAdded E f60 F29 (psI P i) (pS P i) b gF pt'_63 ps'_64 D (C ++ [code]) A h69 (moK_fr hmk (FrF.tr (FrF.tr (FrF.rf (S := [25, 26, 27])) k23 (by decide)) k33 (by decide)) (by decide)) h82 h65 h66 p67 (by first | omega | (simp only [List.length_append, List.length_cons, List.length_nil, sl_len, Int.natCast_add, Int.natCast_one, Int.natCast_zero]; omega)) (by omega) (fun j h1 h2 => hag j (by omega) (by omega))) cm_Mo_layAdded im_Mo_layAdded se_Mo_layAdded rfl ml_Mo_310 d_Mo_layWindow_360 (by decide) h69 rfl rfl (Nat.le_of_ble_eq_true rfl) (by decide) ?_
                rintro _ f83 ⟨rfl, pt'_86, ps'_87, h88, h89, p90, k91⟩
                refine G_cast (st' := []) ?_ rfl rfl rfl rfl
                refine G_aload_n hX 1 rfl rfl d_Mo_layWindow_363 ?_
                refine G_aload_n hX 1 rfl rfl d_Mo_layWindow_364 ?_
                have h92 : f83 61 = mob F29 := (k91 61 (by decide)).trans h69
                have h93 : F29 16 = .ref (eA E 71) := (k33 16 (by decide)).trans ((k23 16 (by decide)).trans (hmk 16 71 (by decide)))
                refine M_get hX fg_Mo_109 d_Mo_layWindow_365 h92 (by decide) h93 ?_
                refine G_iload hX 0 rfl d_Mo_layWindow_368 ?_
                refine G_if_eq_z hX (tgt := 380) d_Mo_layWindow_370 rfl (by omega) (fun c94 => by exfalso; omega) (fun c95 => ?_)
                refine G_iload hX 4 rfl d_Mo_layWindow_373 ?_
                refine G_iconst hX d_Mo_layWindow_375 ?_
                refine G_iadd_z hX d_Mo_layWindow_376 ?_
                refine G_goto hX (tgt := 382) d_Mo_layWindow_377 rfl ?_
                have h96 : f83 71 = iz E 700 ma := (k91 71 (by decide)).trans ((k68 71 (by decide)).trans ((k54 71 (List.not_mem_nil)).trans ((k36 71 (by decide)).trans ((k26 71 (by decide)).trans ((k11 71 (by decide)).trans ((k7 71 (by decide)).trans ((k3 71 (by decide)).trans hc71)))))))
                refine F_iald hX d_Mo_layWindow_382 71 (by decide) h96 (by omega) ?_
                refine G_top (show zI (ma (i + 1)) = zI (pA P (i + 1)) from congrArg zI (plE_i hpe (by omega) rfl).2.2.1) ?_
                have b97 := hPB (i + 1)
                refine G_iload hX 8 rfl d_Mo_layWindow_383 ?_
                refine G_iload hX 0 rfl d_Mo_layWindow_385 ?_
                refine G_if_eq_z hX (tgt := 403) d_Mo_layWindow_387 rfl (by omega) (fun c98 => by exfalso; omega) (fun c99 => ?_)
                refine G_iload hX 6 rfl d_Mo_layWindow_390 ?_
                refine G_aload_n hX 1 rfl rfl d_Mo_layWindow_392 ?_
                refine M_get hX fg_Mo_106 d_Mo_layWindow_393 h92 (by decide) h79 ?_
                refine G_iload hX 4 rfl d_Mo_layWindow_396 ?_
                have h100 : f83 70 = iz E 700 ms := (k91 70 (by decide)).trans h80
                refine F_iald hX d_Mo_layWindow_398 70 (by decide) h100 (by omega) ?_
                refine G_top (show zI (ms i) = zI (pS P i) from congrArg zI (plE_i hpe (by omega) rfl).2.1) ?_
                have b101 := hPB i
                refine G_iadd_z hX d_Mo_layWindow_399 ?_
                refine G_goto hX (tgt := 405) d_Mo_layWindow_400 rfl ?_
                rw [show md = mdF R.1 R.2.1 4 3 (pA P (i + 1)) (s + psI P i - bg + pS P i) from hmd2.trans hmj]
                have h102 : f83 78 = iz E 8 R.1 := (k91 78 (by decide)).trans ((k68 78 (by decide)).trans ((k54 78 (List.not_mem_nil)).trans h39))
                have h103 : f83 79 = iz E 1024 R.2.1 := (k91 79 (by decide)).trans ((k68 79 (by decide)).trans ((k54 79 (List.not_mem_nil)).trans h40))
                refine F_callV hX (st := []) (c_Mo_layAddress E f83 F29 (pA P (i + 1)) ((s + psI P i - bg) + (pS P i)) R.2.2 R.1 R.2.1 pt'_86 ps'_87 (D ++ sl gF (psI P i) (pS P i : Int).toNat) (C ++ [code]) A h92 (moK_fr hmk (FrF.tr (FrF.tr (FrF.rf (S := [25, 26, 27])) k23 (by decide)) k33 (by decide)) (by decide)) h30 h31 h32 h102 h103 h88 h89 p90 (by first | omega | (simp only [List.length_append, List.length_cons, List.length_nil, sl_len, Int.natCast_add, Int.natCast_one, Int.natCast_zero]; omega)) (by omega) (by omega) (by omega) hRh.1 hRh.2.1) cm_Mo_layAddress im_Mo_layAddress se_Mo_layAddress rfl ml_Mo_316 d_Mo_layWindow_405 (by decide) h92 rfl rfl (Nat.le_of_ble_eq_true rfl) (by decide) ?_
                rintro _ f104 ⟨rfl, F107, pt'_108, ps'_109, h110, h111, k112, h113, h114, h115, h116, p117, k118⟩
                refine G_cast (st' := []) ?_ rfl rfl rfl rfl
                refine G_iload hX 5 rfl d_Mo_layWindow_408 ?_
                refine G_aload_n hX 1 rfl rfl d_Mo_layWindow_410 ?_
                have h119 : F107 15 = .ref (eA E 70) := (k112 15 (by decide)).trans h79
                refine M_get hX fg_Mo_106 d_Mo_layWindow_411 h110 (by decide) h119 ?_
                refine G_iload hX 4 rfl d_Mo_layWindow_414 ?_
                have h120 : f104 70 = iz E 700 ms := (k118 70 (by decide)).trans h100
                refine F_iald hX d_Mo_layWindow_416 70 (by decide) h120 (by omega) ?_
                refine G_top (show zI (ms i) = zI (pS P i) from congrArg zI (plE_i hpe (by omega) rfl).2.1) ?_
                have b121 := hPB i
                refine G_iadd_z hX d_Mo_layWindow_417 ?_
                refine G_aload_n hX 1 rfl rfl d_Mo_layWindow_418 ?_
                refine M_get hX fg_Mo_106 d_Mo_layWindow_419 h110 (by decide) h119 ?_
                refine G_iload hX 4 rfl d_Mo_layWindow_422 ?_
                refine G_iconst hX d_Mo_layWindow_424 ?_
                refine G_iadd_z hX d_Mo_layWindow_425 ?_
                refine F_iald hX d_Mo_layWindow_426 70 (by decide) h120 (by omega) ?_
                refine G_top (show zI (ms (i + 1)) = zI (pS P (i + 1)) from congrArg zI (plE_i hpe (by omega) rfl).2.1) ?_
                have b122 := hPB (i + 1)
                refine G_iadd_z hX d_Mo_layWindow_427 ?_
                refine G_istore hX (lv' := [(5, .int (zI (((psI P i) + (pS P i)) + (pS P (i + 1))))), (10, .int (zI 1)), (0, .ref (eA E 61)), (2, .int (zI bg)), (3, .int (zI num)), (4, .int (zI i)), (7, .int (zI (s + psI P i - bg))), (8, .int (zI code)), (9, .int (zI (mdF R.1 R.2.1 4 3 (pA P (i + 1)) (s + psI P i - bg + pS P i))))]) (by decide) rfl d_Mo_layWindow_428 ?_
                refine G_iload hX 5 rfl d_Mo_layWindow_430 ?_
                refine G_iconst hX d_Mo_layWindow_432 ?_
                refine G_iadd_z hX d_Mo_layWindow_433 ?_
                refine G_istore hX (lv' := [(4, .int (zI (i + 2))), (5, .int (zI (((psI P i) + (pS P i)) + (pS P (i + 1))))), (10, .int (zI 1)), (0, .ref (eA E 61)), (2, .int (zI bg)), (3, .int (zI num)), (7, .int (zI (s + psI P i - bg))), (8, .int (zI code)), (9, .int (zI (mdF R.1 R.2.1 4 3 (pA P (i + 1)) (s + psI P i - bg + pS P i))))]) (by decide) rfl d_Mo_layWindow_434 ?_
                refine G_goto hX (tgt := 40) d_Mo_layWindow_436 rfl ?_
                have hgd : gdL P gF (e - i).toNat (i) = sl gF (psI P i) (pS P i : Int).toNat ++ (gdL P gF (e - (i + 1 + 1)).toNat (i + 1 + 1)) := by
                  rw [gdL_s hie, gdL_s hi1]
                  rw [show gdI P gF i (psI P i) = sl gF (psI P i) (pS P i : Int).toNat from if_pos q7.1, show gdI P gF (i + 1) (psI P (i + 1)) = [] by unfold gdI; rw [if_neg (by omega), if_neg (by omega)]]; rfl
                have had : adL P a s (e - i).toNat (i) = lst (tlB R.1 R.2.1 4 3 (pA P (i + 1)) (s + psI P i - bg + pS P i)) (tlW R.1 R.2.1 4 3 (pA P (i + 1)) (s + psI P i - bg + pS P i)).toNat ++ (adL P a s (e - (i + 1 + 1)).toNat (i + 1 + 1)) := by
                  rw [adL_s hie, adL_s hi1]
                  rw [show adI P a s i = [] from if_neg (by omega), show adI P a s (i + 1) = lst (tlB R.1 R.2.1 4 3 (pA P (i + 1)) (s + psI P i - bg + pS P i)) (tlW R.1 R.2.1 4 3 (pA P (i + 1)) (s + psI P i - bg + pS P i)).toNat by unfold adI; rw [if_pos q7.2, hRi, hpi, show s + (psI P i + pS P i) - psI P a = s + psI P i - bg + pS P i by omega]]; rfl
                have hcd := cdL_2 hi1 hi.2.2 (md := (mdI P a s)) (P := P) (by omega)
                have hl3 := tl_len (nr := R.1) (sm := R.2.1) (here := (s + psI P i - bg + pS P i)) haj
                have hw2 := wnE_go (P := P) (num := num) (show i + 1 < pC P by omega) (wnE_in (P := P) (num := num) (a := i + 1) (by omega) (by omega) (by omega))
                have hR2 : arN R (pA P (i + 1)) = arI P a (i + 1 + 1) := by
                  rw [arI_s (by omega), if_pos q7.2, hRi]
                have h123 : F107 25 = .int (zI 4) := (k112 25 (by decide)).trans h30
                have h124 : F107 26 = .int (zI 3) := (k112 26 (by decide)).trans h31
                refine G_loc (lv' := [(0, .ref (eA E 61)), (2, .int (zI bg)), (3, .int (zI num)), (4, .int (zI (i + 2))), (5, .int (zI (((psI P i) + (pS P i)) + (pS P (i + 1)))))]) [3, 4, 5, 0, 1] rfl ?_
                refine G_cast (ih38 (i + 1 + 1) (k - 1) (arN R (pA P (i + 1))) (D ++ sl gF (psI P i) (pS P i : Int).toNat) (C ++ [code]) (A ++ lst (tlB R.1 R.2.1 4 3 (pA P (i + 1)) ((s + psI P i - bg) + (pS P i))) (tlW R.1 R.2.1 4 3 (pA P (i + 1)) ((s + psI P i - bg) + (pS P i))).toNat) pt'_108 ps'_109 F107 f104 (by omega) (by omega) hR2 (hw2.symm.trans hwi.symm) (by rw [hD, hgd, List.append_assoc]) (by rw [hCd, hcd, ← hcode, List.append_assoc, show i + 2 = i + 1 + 1 by omega]) (by rw [hA, had, List.append_assoc]) p117 (by rw [hpj, hpi]; simp only [List.length_append, List.length_cons, List.length_nil, sl_len, Int.natCast_add, Int.natCast_one, Int.natCast_zero]; omega) h123 h124 h111 (FrF.tr (FrF.tr FrF.rf k33 (by decide)) k112 (by decide)) h115 h116 h113 h114 h110 (Fr.tr (Fr.tr (Fr.tr (Fr.tr (Fr.tr Fr.rf k36 (by decide)) k54 (by decide)) k68 (by decide)) k91 (by decide)) k118 (by decide))) rfl (by rw [hpj, hpi, show i + 2 = i + 1 + 1 by omega]) rfl rfl
              · skip
                have q6 : pT P i = 3 ∧ pS P i = 4 ∧ pT P (i + 1) = 1 ∧ pS P (i + 1) = 1 := by rcases hpp with h9 | h9; exact absurd h9 q7; exact h9
                have hai := hoi.2.2.2.2 q6.1
                rw [if_neg (by omega)] at hmd2
                have hmj : mdI P a s i = mdF R.1 R.2.1 4 3 (pA P i) (s + psI P i - bg) := by unfold mdI; rw [← hR, ← hx0]
                refine G_aload_n hX 0 rfl rfl d_Mo_layWindow_298 ?_
                refine G_iconst hX d_Mo_layWindow_299 ?_
                refine G_iload hX 6 rfl d_Mo_layWindow_300 ?_
                have h125 : f53 61 = mob F29 := (k54 61 (List.not_mem_nil)).trans h43
                have h126 : f53 76 = iz E 3 ps1 := (k54 76 (List.not_mem_nil)).trans h41
                have h127 : f53 77 = iz E 3000 pt1 := (k54 77 (List.not_mem_nil)).trans h42
                refine F_callV hX (st := []) (c_Mo_lay1 E f53 F29 code pt1 ps1 D C A h125 (moK_fr hmk (FrF.tr (FrF.tr (FrF.rf (S := [25, 26, 27])) k23 (by decide)) k33 (by decide)) (by decide)) h126 h127 hpr (by first | omega | (simp only [List.length_append, List.length_cons, List.length_nil, sl_len, Int.natCast_add, Int.natCast_one, Int.natCast_zero]; omega))) cm_Mo_lay im_Mo_lay se_Mo_lay rfl ml_Mo_301 d_Mo_layWindow_302 (by decide) h125 rfl rfl (Nat.le_of_ble_eq_true rfl) (by decide) ?_
                rintro _ f128 ⟨rfl, pt'_131, ps'_132, h133, h134, p135, k136⟩
                refine G_cast (st' := []) ?_ rfl rfl rfl rfl
                refine G_aload_n hX 0 rfl rfl d_Mo_layWindow_305 ?_
                have h137 : f128 61 = mob F29 := (k136 61 (by decide)).trans h125
                have h138 : F29 14 = .ref (eA E 69) := (k33 14 (by decide)).trans ((k23 14 (by decide)).trans (hmk 14 69 (by decide)))
                refine M_get hX fg_Mo_103 d_Mo_layWindow_306 h137 (by decide) h138 ?_
                refine G_iload hX 3 rfl d_Mo_layWindow_309 ?_
                have h139 : f128 69 = iz E 700 mt := (k136 69 (by decide)).trans ((k54 69 (List.not_mem_nil)).trans ((k36 69 (by decide)).trans ((k26 69 (by decide)).trans ((k11 69 (by decide)).trans ((k7 69 (by decide)).trans ((k3 69 (by decide)).trans hc69))))))
                refine F_iald hX d_Mo_layWindow_311 69 (by decide) h139 (by omega) ?_
                refine G_top (show zI (mt i) = zI (pT P i) from congrArg zI (plE_i hpe (by omega) rfl).1) ?_
                have b140 := hPB i
                refine G_iconst hX d_Mo_layWindow_312 ?_
                refine G_icmp_ne_z hX (tgt := 320) d_Mo_layWindow_313 rfl (by omega) (fun c141 => ?_) (fun c142 => by exfalso; omega)
                refine G_iconst hX d_Mo_layWindow_320 ?_
                refine G_istore hX (lv' := [(10, .int (zI 0)), (0, .ref (eA E 61)), (2, .int (zI bg)), (3, .int (zI num)), (4, .int (zI i)), (5, .int (zI (psI P i))), (7, .int (zI (s + psI P i - bg))), (8, .int (zI code)), (9, .int (zI md))]) (by decide) rfl d_Mo_layWindow_321 ?_
                refine G_aload_n hX 1 rfl rfl d_Mo_layWindow_323 ?_
                refine G_iload hX 0 rfl d_Mo_layWindow_324 ?_
                refine G_if_eq_z hX (tgt := 334) d_Mo_layWindow_326 rfl (by omega) (fun c143 => ?_) (fun c144 => by exfalso; omega)
                refine G_iload hX 5 rfl d_Mo_layWindow_334 ?_
                refine G_aload_n hX 1 rfl rfl d_Mo_layWindow_336 ?_
                have h145 : F29 15 = .ref (eA E 70) := (k33 15 (by decide)).trans ((k23 15 (by decide)).trans (hmk 15 70 (by decide)))
                refine M_get hX fg_Mo_106 d_Mo_layWindow_337 h137 (by decide) h145 ?_
                refine G_iload hX 4 rfl d_Mo_layWindow_340 ?_
                have h146 : f128 70 = iz E 700 ms := (k136 70 (by decide)).trans ((k54 70 (List.not_mem_nil)).trans ((k36 70 (by decide)).trans ((k26 70 (by decide)).trans ((k11 70 (by decide)).trans ((k7 70 (by decide)).trans ((k3 70 (by decide)).trans hc70))))))
                refine F_iald hX d_Mo_layWindow_342 70 (by decide) h146 (by omega) ?_
                refine G_top (show zI (ms i) = zI (pS P i) from congrArg zI (plE_i hpe (by omega) rfl).2.1) ?_
                have b147 := hPB i
                refine G_iadd_z hX d_Mo_layWindow_343 ?_
                refine G_iload hX 0 rfl d_Mo_layWindow_344 ?_
                refine G_if_eq_z hX (tgt := 359) d_Mo_layWindow_346 rfl (by omega) (fun c148 => ?_) (fun c149 => by exfalso; omega)
                refine G_iconst hX d_Mo_layWindow_359 ?_
                have h150 : f128 63 = iz E 1600 b := (k136 63 (by decide)).trans ((k54 63 (List.not_mem_nil)).trans ((k36 63 (by decide)).trans ((k26 63 (by decide)).trans ((k11 63 (by decide)).trans ((k7 63 (by decide)).trans ((k3 63 (by decide)).trans hc63))))))
                refine F_callV hX (st := []) (c_Mo_layAdded E f128 F29 ((psI P i) + (pS P i)) 1 b gF pt'_131 ps'_132 D (C ++ [code]) A h137 (moK_fr hmk (FrF.tr (FrF.tr (FrF.rf (S := [25, 26, 27])) k23 (by decide)) k33 (by decide)) (by decide)) h150 h133 h134 p135 (by first | omega | (simp only [List.length_append, List.length_cons, List.length_nil, sl_len, Int.natCast_add, Int.natCast_one, Int.natCast_zero]; omega)) (by omega) (fun j h1 h2 => hag j (by omega) (by omega))) cm_Mo_layAdded im_Mo_layAdded se_Mo_layAdded rfl ml_Mo_310 d_Mo_layWindow_360 (by decide) h137 rfl rfl (Nat.le_of_ble_eq_true rfl) (by decide) ?_
                rintro _ f151 ⟨rfl, pt'_154, ps'_155, h156, h157, p158, k159⟩
                refine G_cast (st' := []) ?_ rfl rfl rfl rfl
                refine G_aload_n hX 1 rfl rfl d_Mo_layWindow_363 ?_
                refine G_aload_n hX 1 rfl rfl d_Mo_layWindow_364 ?_
                have h160 : f151 61 = mob F29 := (k159 61 (by decide)).trans h137
                have h161 : F29 16 = .ref (eA E 71) := (k33 16 (by decide)).trans ((k23 16 (by decide)).trans (hmk 16 71 (by decide)))
                refine M_get hX fg_Mo_109 d_Mo_layWindow_365 h160 (by decide) h161 ?_
                refine G_iload hX 0 rfl d_Mo_layWindow_368 ?_
                refine G_if_eq_z hX (tgt := 380) d_Mo_layWindow_370 rfl (by omega) (fun c162 => ?_) (fun c163 => by exfalso; omega)
                refine G_iload hX 4 rfl d_Mo_layWindow_380 ?_
                have h164 : f151 71 = iz E 700 ma := (k159 71 (by decide)).trans ((k136 71 (by decide)).trans ((k54 71 (List.not_mem_nil)).trans ((k36 71 (by decide)).trans ((k26 71 (by decide)).trans ((k11 71 (by decide)).trans ((k7 71 (by decide)).trans ((k3 71 (by decide)).trans hc71)))))))
                refine F_iald hX d_Mo_layWindow_382 71 (by decide) h164 (by omega) ?_
                refine G_top (show zI (ma i) = zI (pA P i) from congrArg zI (plE_i hpe (by omega) rfl).2.2.1) ?_
                have b165 := hPB i
                refine G_iload hX 8 rfl d_Mo_layWindow_383 ?_
                refine G_iload hX 0 rfl d_Mo_layWindow_385 ?_
                refine G_if_eq_z hX (tgt := 403) d_Mo_layWindow_387 rfl (by omega) (fun c166 => ?_) (fun c167 => by exfalso; omega)
                refine G_iload hX 6 rfl d_Mo_layWindow_403 ?_
                rw [show md = mdF R.1 R.2.1 4 3 (pA P i) (s + psI P i - bg) from hmd2.trans hmj]
                have h168 : f151 78 = iz E 8 R.1 := (k159 78 (by decide)).trans ((k136 78 (by decide)).trans ((k54 78 (List.not_mem_nil)).trans h39))
                have h169 : f151 79 = iz E 1024 R.2.1 := (k159 79 (by decide)).trans ((k136 79 (by decide)).trans ((k54 79 (List.not_mem_nil)).trans h40))
                refine F_callV hX (st := []) (c_Mo_layAddress E f151 F29 (pA P i) (s + psI P i - bg) R.2.2 R.1 R.2.1 pt'_154 ps'_155 (D ++ sl gF ((psI P i) + (pS P i)) (1 : Int).toNat) (C ++ [code]) A h160 (moK_fr hmk (FrF.tr (FrF.tr (FrF.rf (S := [25, 26, 27])) k23 (by decide)) k33 (by decide)) (by decide)) h30 h31 h32 h168 h169 h156 h157 p158 (by first | omega | (simp only [List.length_append, List.length_cons, List.length_nil, sl_len, Int.natCast_add, Int.natCast_one, Int.natCast_zero]; omega)) (by omega) (by omega) (by omega) hRh.1 hRh.2.1) cm_Mo_layAddress im_Mo_layAddress se_Mo_layAddress rfl ml_Mo_316 d_Mo_layWindow_405 (by decide) h160 rfl rfl (Nat.le_of_ble_eq_true rfl) (by decide) ?_
                rintro _ f170 ⟨rfl, F173, pt'_174, ps'_175, h176, h177, k178, h179, h180, h181, h182, p183, k184⟩
                refine G_cast (st' := []) ?_ rfl rfl rfl rfl
                refine G_iload hX 5 rfl d_Mo_layWindow_408 ?_
                refine G_aload_n hX 1 rfl rfl d_Mo_layWindow_410 ?_
                have h185 : F173 15 = .ref (eA E 70) := (k178 15 (by decide)).trans h145
                refine M_get hX fg_Mo_106 d_Mo_layWindow_411 h176 (by decide) h185 ?_
                refine G_iload hX 4 rfl d_Mo_layWindow_414 ?_
                have h186 : f170 70 = iz E 700 ms := (k184 70 (by decide)).trans ((k159 70 (by decide)).trans h146)
                refine F_iald hX d_Mo_layWindow_416 70 (by decide) h186 (by omega) ?_
                refine G_top (show zI (ms i) = zI (pS P i) from congrArg zI (plE_i hpe (by omega) rfl).2.1) ?_
                have b187 := hPB i
                refine G_iadd_z hX d_Mo_layWindow_417 ?_
                refine G_aload_n hX 1 rfl rfl d_Mo_layWindow_418 ?_
                refine M_get hX fg_Mo_106 d_Mo_layWindow_419 h176 (by decide) h185 ?_
                refine G_iload hX 4 rfl d_Mo_layWindow_422 ?_
                refine G_iconst hX d_Mo_layWindow_424 ?_
                refine G_iadd_z hX d_Mo_layWindow_425 ?_
                refine F_iald hX d_Mo_layWindow_426 70 (by decide) h186 (by omega) ?_
                refine G_top (show zI (ms (i + 1)) = zI (pS P (i + 1)) from congrArg zI (plE_i hpe (by omega) rfl).2.1) ?_
                have b188 := hPB (i + 1)
                refine G_iadd_z hX d_Mo_layWindow_427 ?_
                refine G_istore hX (lv' := [(5, .int (zI (((psI P i) + (pS P i)) + (pS P (i + 1))))), (10, .int (zI 0)), (0, .ref (eA E 61)), (2, .int (zI bg)), (3, .int (zI num)), (4, .int (zI i)), (7, .int (zI (s + psI P i - bg))), (8, .int (zI code)), (9, .int (zI (mdF R.1 R.2.1 4 3 (pA P i) (s + psI P i - bg))))]) (by decide) rfl d_Mo_layWindow_428 ?_
                refine G_iload hX 5 rfl d_Mo_layWindow_430 ?_
                refine G_iconst hX d_Mo_layWindow_432 ?_
                refine G_iadd_z hX d_Mo_layWindow_433 ?_
                refine G_istore hX (lv' := [(4, .int (zI (i + 2))), (5, .int (zI (((psI P i) + (pS P i)) + (pS P (i + 1))))), (10, .int (zI 0)), (0, .ref (eA E 61)), (2, .int (zI bg)), (3, .int (zI num)), (7, .int (zI (s + psI P i - bg))), (8, .int (zI code)), (9, .int (zI (mdF R.1 R.2.1 4 3 (pA P i) (s + psI P i - bg))))]) (by decide) rfl d_Mo_layWindow_434 ?_
                refine G_goto hX (tgt := 40) d_Mo_layWindow_436 rfl ?_
                have hgd : gdL P gF (e - i).toNat (i) = sl gF (psI P i + pS P i) (1 : Int).toNat ++ (gdL P gF (e - (i + 1 + 1)).toNat (i + 1 + 1)) := by
                  rw [gdL_s hie, gdL_s hi1]
                  rw [show gdI P gF i (psI P i) = [] by unfold gdI; rw [if_neg (by omega), if_neg (by omega)], show gdI P gF (i + 1) (psI P (i + 1)) = sl gF (psI P i + pS P i) (1 : Int).toNat by unfold gdI; rw [if_pos q6.2.2.1, q6.2.2.2, hpi]]; rfl
                have had : adL P a s (e - i).toNat (i) = lst (tlB R.1 R.2.1 4 3 (pA P i) (s + psI P i - bg)) (tlW R.1 R.2.1 4 3 (pA P i) (s + psI P i - bg)).toNat ++ (adL P a s (e - (i + 1 + 1)).toNat (i + 1 + 1)) := by
                  rw [adL_s hie, adL_s hi1]
                  rw [show adI P a s (i + 1) = [] from if_neg (by omega), show adI P a s i = lst (tlB R.1 R.2.1 4 3 (pA P i) (s + psI P i - bg)) (tlW R.1 R.2.1 4 3 (pA P i) (s + psI P i - bg)).toNat by unfold adI; rw [if_pos q6.1, ← hR, ← hx0]]; rfl
                have hcd := cdL_2 hi1 hi.2.2 (md := (mdI P a s)) (P := P) (by omega)
                have hl3 := tl_len (nr := R.1) (sm := R.2.1) (here := (s + psI P i - bg)) hai
                have hw2 := wnE_go (P := P) (num := num) (show i + 1 < pC P by omega) (wnE_in (P := P) (num := num) (a := i + 1) (by omega) (by omega) (by omega))
                have hR2 : arN R (pA P i) = arI P a (i + 1 + 1) := by
                  rw [arI_s (by omega), if_neg (by omega), arI_s hi.1, if_pos q6.1, hR]
                have h189 : F173 25 = .int (zI 4) := (k178 25 (by decide)).trans h30
                have h190 : F173 26 = .int (zI 3) := (k178 26 (by decide)).trans h31
                refine G_loc (lv' := [(0, .ref (eA E 61)), (2, .int (zI bg)), (3, .int (zI num)), (4, .int (zI (i + 2))), (5, .int (zI (((psI P i) + (pS P i)) + (pS P (i + 1)))))]) [3, 4, 5, 0, 1] rfl ?_
                refine G_cast (ih38 (i + 1 + 1) (k - 1) (arN R (pA P i)) (D ++ sl gF ((psI P i) + (pS P i)) (1 : Int).toNat) (C ++ [code]) (A ++ lst (tlB R.1 R.2.1 4 3 (pA P i) (s + psI P i - bg)) (tlW R.1 R.2.1 4 3 (pA P i) (s + psI P i - bg)).toNat) pt'_174 ps'_175 F173 f170 (by omega) (by omega) hR2 (hw2.symm.trans hwi.symm) (by rw [hD, hgd, List.append_assoc]) (by rw [hCd, hcd, ← hcode, List.append_assoc, show i + 2 = i + 1 + 1 by omega]) (by rw [hA, had, List.append_assoc]) p183 (by rw [hpj, hpi]; simp only [List.length_append, List.length_cons, List.length_nil, sl_len, Int.natCast_add, Int.natCast_one, Int.natCast_zero]; omega) h189 h190 h177 (FrF.tr (FrF.tr FrF.rf k33 (by decide)) k178 (by decide)) h181 h182 h179 h180 h176 (Fr.tr (Fr.tr (Fr.tr (Fr.tr (Fr.tr Fr.rf k36 (by decide)) k54 (by decide)) k136 (by decide)) k159 (by decide)) k184 (by decide))) rfl (by rw [hpj, hpi, show i + 2 = i + 1 + 1 by omega]) rfl rfl
            · skip
              refine G_aload_n hX 0 rfl rfl d_Mo_layWindow_270 ?_
              refine G_iload hX 3 rfl d_Mo_layWindow_271 ?_
              refine G_iload hX 4 rfl d_Mo_layWindow_273 ?_
              refine G_iload hX 5 rfl d_Mo_layWindow_275 ?_
              have h191 : f53 61 = mob F29 := (k54 61 (List.not_mem_nil)).trans h43
              have h192 : f53 63 = iz E 1600 b := (k54 63 (List.not_mem_nil)).trans ((k36 63 (by decide)).trans ((k26 63 (by decide)).trans ((k11 63 (by decide)).trans ((k7 63 (by decide)).trans ((k3 63 (by decide)).trans hc63)))))
              have h193 : f53 69 = iz E 700 mt := (k54 69 (List.not_mem_nil)).trans ((k36 69 (by decide)).trans ((k26 69 (by decide)).trans ((k11 69 (by decide)).trans ((k7 69 (by decide)).trans ((k3 69 (by decide)).trans hc69)))))
              have h194 : f53 70 = iz E 700 ms := (k54 70 (List.not_mem_nil)).trans ((k36 70 (by decide)).trans ((k26 70 (by decide)).trans ((k11 70 (by decide)).trans ((k7 70 (by decide)).trans ((k3 70 (by decide)).trans hc70)))))
              have h195 : f53 71 = iz E 700 ma := (k54 71 (List.not_mem_nil)).trans ((k36 71 (by decide)).trans ((k26 71 (by decide)).trans ((k11 71 (by decide)).trans ((k7 71 (by decide)).trans ((k3 71 (by decide)).trans hc71)))))
              have h196 : f53 78 = iz E 8 R.1 := (k54 78 (List.not_mem_nil)).trans h39
              have h197 : f53 79 = iz E 1024 R.2.1 := (k54 79 (List.not_mem_nil)).trans h40
              have h198 : f53 76 = iz E 3 ps1 := (k54 76 (List.not_mem_nil)).trans h41
              have h199 : f53 77 = iz E 3000 pt1 := (k54 77 (List.not_mem_nil)).trans h42
              refine F_callV hX (st := []) (c_Mo_layOne E f53 F29 i (psI P i) (s + psI P i - bg) P b gF mt ms ma R pt1 ps1 D C A h191 (moK_fr hmk (FrF.tr (FrF.tr (FrF.rf (S := [25, 26, 27])) k23 (by decide)) k33 (by decide)) (by decide)) h30 h31 h32 h192 h193 h194 h195 h196 h197 h198 h199 hpr (by omega) (by have := plE_i hpe (i := i) (by omega) rfl; exact ⟨this.1, this.2.1, this.2.2.1⟩) ⟨hoi.2.2.2.1, by omega, hoi.2.2.2.2⟩ hRB (by omega) (fun j h1 h2 => hag j h1 (by omega))) cm_Mo_layOne im_Mo_layOne se_Mo_layOne rfl ml_Mo_325 d_Mo_layWindow_277 (by decide) h191 rfl rfl (Nat.le_of_ble_eq_true rfl) (by decide) ?_
              rintro _ f200 ⟨rfl, F203, R'_204, pt'_205, ps'_206, h207, h208, k209, h210, h211, h212, h213, p214, p215, k216⟩
              refine G_cast (st' := []) ?_ rfl rfl rfl rfl
              refine G_iload hX 4 rfl d_Mo_layWindow_280 ?_
              refine G_aload_n hX 0 rfl rfl d_Mo_layWindow_282 ?_
              have h217 : F203 15 = .ref (eA E 70) := (k209 15 (by decide)).trans ((k33 15 (by decide)).trans ((k23 15 (by decide)).trans (hmk 15 70 (by decide))))
              refine M_get hX fg_Mo_106 d_Mo_layWindow_283 h207 (by decide) h217 ?_
              refine G_iload hX 3 rfl d_Mo_layWindow_286 ?_
              have h218 : f200 70 = iz E 700 ms := (k216 70 (by decide)).trans h194
              refine F_iald hX d_Mo_layWindow_288 70 (by decide) h218 (by omega) ?_
              refine G_top (show zI (ms i) = zI (pS P i) from congrArg zI (plE_i hpe (by omega) rfl).2.1) ?_
              have b219 := hPB i
              refine G_iadd_z hX d_Mo_layWindow_289 ?_
              refine G_istore hX (lv' := [(5, .int (zI ((psI P i) + (pS P i)))), (0, .ref (eA E 61)), (2, .int (zI bg)), (3, .int (zI num)), (4, .int (zI i)), (7, .int (zI (s + psI P i - bg))), (8, .int (zI code)), (9, .int (zI md))]) (by decide) rfl d_Mo_layWindow_290 ?_
              refine G_iinc_z hX (lv' := [(4, .int (zI (i + 1))), (5, .int (zI ((psI P i) + (pS P i)))), (0, .ref (eA E 61)), (2, .int (zI bg)), (3, .int (zI num)), (7, .int (zI (s + psI P i - bg))), (8, .int (zI code)), (9, .int (zI md))]) 4 rfl (by decide) rfl d_Mo_layWindow_292 ?_
              refine G_goto hX (tgt := 436) d_Mo_layWindow_295 rfl ?_
              refine G_goto hX (tgt := 40) d_Mo_layWindow_436 rfl ?_
              have hnc : ¬ (i + 1 < e ∧ 0 ≤ c2F P (mdI P a s) i) := by rintro ⟨u1, u2⟩; rw [if_pos u1] at hcode; omega
              have hmi : mdF R.1 R.2.1 4 3 (pA P i) (s + psI P i - bg) = mdI P a s i := by unfold mdI; rw [← hR, ← hx0]
              have hai : (if pT P i = 3 then lst (tlB R.1 R.2.1 4 3 (pA P i) (s + psI P i - bg)) (tlW R.1 R.2.1 4 3 (pA P i) (s + psI P i - bg)).toNat else []) = adI P a s i := by unfold adI; rw [← hR, ← hx0]
              rw [hmi, hai] at p215
              have hl1 := gdI_len (P := P) (g := gF) (x := psI P i) hoi.1
              have hl2 := c1L_len (t := pT P i) (n := pS P i) (m := mdI P a s i) (by omega)
              have hl3 := adI_len (P := P) (a := a) (s := s) hoi.2.2.2.2
              have h220 : F203 25 = .int (zI 4) := (k209 25 (by decide)).trans h30
              have h221 : F203 26 = .int (zI 3) := (k209 26 (by decide)).trans h31
              refine G_loc (lv' := [(0, .ref (eA E 61)), (2, .int (zI bg)), (3, .int (zI num)), (4, .int (zI (i + 1))), (5, .int (zI ((psI P i) + (pS P i))))]) [2, 3, 4, 0, 1] rfl ?_
              refine G_cast (ih38 (i + 1) (k - 1) R'_204 (D ++ gdI P gF i (psI P i)) (C ++ c1L (pT P i) (pS P i) (mdI P a s i)) (A ++ adI P a s i) pt'_205 ps'_206 F203 f200 (by omega) (by omega) (by rw [p214, hR, arI_s hi.1]) hwi.symm (by rw [hD, gdL_s hie, List.append_assoc]) (by rw [hCd, cdL_1 hie hi.2.2 hnc, List.append_assoc]) (by rw [hA, adL_s hie, List.append_assoc]) p215 (by rw [hpi]; simp only [List.length_append, Int.natCast_add]; omega) h220 h221 h208 (FrF.tr (FrF.tr FrF.rf k33 (by decide)) k209 (by decide)) h210 h211 h212 h213 h207 (Fr.tr (Fr.tr (Fr.tr Fr.rf k36 (by decide)) k54 (by decide)) k216 (by decide))) rfl (by rw [hpi]) rfl rfl
          have join222 : ∀ (two : Int) (f223 : Nat → va_E), ((two = 1 ∧ i + 1 < e) ∨ (two = 0 ∧ e = i + 1)) → Fr [] f35 f223 → G E X 0 0 89 [(0, .ref (eA E 61)), (2, .int (zI bg)), (3, .int (zI num)), (4, .int (zI i)), (5, .int (zI (psI P i)))] [.int (zI two)] (wl E f223) := by
            intro two f223 htwo k224
            refine G_istore hX (lv' := [(6, .int (zI two)), (0, .ref (eA E 61)), (2, .int (zI bg)), (3, .int (zI num)), (4, .int (zI i)), (5, .int (zI (psI P i)))]) (by decide) rfl d_Mo_layWindow_89 ?_
            refine G_aload_n hX 1 rfl rfl d_Mo_layWindow_91 ?_
            have h225 : f223 61 = mob F29 := (k224 61 (List.not_mem_nil)).trans h43
            have h226 : F29 12 = .int (zI s) := (k33 12 (by decide)).trans ((k23 12 (by decide)).trans hF12)
            refine M_get hX fg_Mo_249 d_Mo_layWindow_92 h225 (by decide) h226 ?_
            refine G_iload hX 5 rfl d_Mo_layWindow_95 ?_
            refine G_iadd_z hX d_Mo_layWindow_97 ?_
            refine G_iload_n hX 2 rfl rfl d_Mo_layWindow_98 ?_
            refine G_isub_z hX d_Mo_layWindow_99 ?_
            refine G_istore hX (lv' := [(7, .int (zI ((s + (psI P i)) - bg))), (6, .int (zI two)), (0, .ref (eA E 61)), (2, .int (zI bg)), (3, .int (zI num)), (4, .int (zI i)), (5, .int (zI (psI P i)))]) (by decide) rfl d_Mo_layWindow_100 ?_
            refine G_iconst hX d_Mo_layWindow_102 ?_
            refine G_istore hX (lv' := [(8, .int (zI (-1))), (7, .int (zI ((s + (psI P i)) - bg))), (6, .int (zI two)), (0, .ref (eA E 61)), (2, .int (zI bg)), (3, .int (zI num)), (4, .int (zI i)), (5, .int (zI (psI P i)))]) (by decide) rfl d_Mo_layWindow_103 ?_
            refine G_iconst hX d_Mo_layWindow_105 ?_
            refine G_istore hX (lv' := [(9, .int (zI 0)), (8, .int (zI (-1))), (7, .int (zI ((s + (psI P i)) - bg))), (6, .int (zI two)), (0, .ref (eA E 61)), (2, .int (zI bg)), (3, .int (zI num)), (4, .int (zI i)), (5, .int (zI (psI P i)))]) (by decide) rfl d_Mo_layWindow_106 ?_
            by_cases q8 : i + 1 < e
            · skip
              have htw : two = 1 := by omega
              have hoj := hok.2.2 (i + 1) (by omega) q8
              have hpj := psI_s (P := P) (show 0 ≤ i + 1 by omega)
              have hRB := arI_bi hok hi.1 hi.2.1
              rw [← hR] at hRB
              have hRh := arB_h hRB
              refine G_iload hX 3 rfl d_Mo_layWindow_108 ?_
              refine G_if_eq_z hX (tgt := 189) d_Mo_layWindow_110 rfl (by omega) (fun c227 => by exfalso; omega) (fun c228 => ?_)
              refine G_aload_n hX 4 rfl rfl d_Mo_layWindow_113 ?_
              have h229 : F29 14 = .ref (eA E 69) := (k33 14 (by decide)).trans ((k23 14 (by decide)).trans (hmk 14 69 (by decide)))
              refine M_get hX fg_Mo_103 d_Mo_layWindow_114 h225 (by decide) h229 ?_
              refine G_iload hX 7 rfl d_Mo_layWindow_117 ?_
              have h230 : f223 69 = iz E 700 mt := (k224 69 (List.not_mem_nil)).trans ((k36 69 (by decide)).trans ((k26 69 (by decide)).trans ((k11 69 (by decide)).trans ((k7 69 (by decide)).trans ((k3 69 (by decide)).trans hc69)))))
              refine F_iald hX d_Mo_layWindow_119 69 (by decide) h230 (by omega) ?_
              refine G_top (show zI (mt i) = zI (pT P i) from congrArg zI (plE_i hpe (by omega) rfl).1) ?_
              have b231 := hPB i
              refine G_iconst hX d_Mo_layWindow_120 ?_
              refine G_icmp_ne_z hX (tgt := 189) d_Mo_layWindow_121 rfl (by omega) (fun c232 => ?_) (fun c233 => ?_)
              · skip
                refine G_iload hX 3 rfl d_Mo_layWindow_189 ?_
                refine G_if_eq_z hX (tgt := 265) d_Mo_layWindow_191 rfl (by omega) (fun c234 => by exfalso; omega) (fun c235 => ?_)
                refine G_aload_n hX 4 rfl rfl d_Mo_layWindow_194 ?_
                refine M_get hX fg_Mo_103 d_Mo_layWindow_195 h225 (by decide) h229 ?_
                refine G_iload hX 7 rfl d_Mo_layWindow_198 ?_
                refine F_iald hX d_Mo_layWindow_200 69 (by decide) h230 (by omega) ?_
                refine G_top (show zI (mt i) = zI (pT P i) from congrArg zI (plE_i hpe (by omega) rfl).1) ?_
                have b236 := hPB i
                refine G_iconst hX d_Mo_layWindow_201 ?_
                refine G_icmp_ne_z hX (tgt := 265) d_Mo_layWindow_202 rfl (by omega) (fun c237 => ?_) (fun c238 => ?_)
                · skip
                  refine G_loc (lv' := [(0, .ref (eA E 61)), (2, .int (zI bg)), (3, .int (zI num)), (4, .int (zI i)), (5, .int (zI (psI P i))), (7, .int (zI ((s + (psI P i)) - bg))), (8, .int (zI (-1))), (9, .int (zI 0))]) [4, 5, 6, 7, 8, 2, 1, 0] rfl ?_
                  exact join52 (-1) 0 f223  (by first | (exfalso; omega) | exact (if_neg (by omega)).symm | (rw [if_pos q8, c2F_n (by omega) (by omega)])) (fun q => absurd q (by decide))  (Fr.tr Fr.rf k224 (by decide))
                · skip
                  refine G_aload_n hX 4 rfl rfl d_Mo_layWindow_205 ?_
                  refine M_get hX fg_Mo_103 d_Mo_layWindow_206 h225 (by decide) h229 ?_
                  refine G_iload hX 7 rfl d_Mo_layWindow_209 ?_
                  refine G_iconst hX d_Mo_layWindow_211 ?_
                  refine G_iadd_z hX d_Mo_layWindow_212 ?_
                  refine F_iald hX d_Mo_layWindow_213 69 (by decide) h230 (by omega) ?_
                  refine G_top (show zI (mt (i + 1)) = zI (pT P (i + 1)) from congrArg zI (plE_i hpe (by omega) rfl).1) ?_
                  have b239 := hPB (i + 1)
                  refine G_iconst hX d_Mo_layWindow_214 ?_
                  refine G_icmp_ne_z hX (tgt := 265) d_Mo_layWindow_215 rfl (by omega) (fun c240 => ?_) (fun c241 => ?_)
                  · skip
                    refine G_loc (lv' := [(0, .ref (eA E 61)), (2, .int (zI bg)), (3, .int (zI num)), (4, .int (zI i)), (5, .int (zI (psI P i))), (7, .int (zI ((s + (psI P i)) - bg))), (8, .int (zI (-1))), (9, .int (zI 0))]) [4, 5, 6, 7, 8, 2, 1, 0] rfl ?_
                    exact join52 (-1) 0 f223  (by first | (exfalso; omega) | exact (if_neg (by omega)).symm | (rw [if_pos q8, c2F_n (by omega) (by omega)])) (fun q => absurd q (by decide))  (Fr.tr Fr.rf k224 (by decide))
                  · skip
                    refine G_aload_n hX 4 rfl rfl d_Mo_layWindow_218 ?_
                    have h242 : F29 15 = .ref (eA E 70) := (k33 15 (by decide)).trans ((k23 15 (by decide)).trans (hmk 15 70 (by decide)))
                    refine M_get hX fg_Mo_106 d_Mo_layWindow_219 h225 (by decide) h242 ?_
                    refine G_iload hX 7 rfl d_Mo_layWindow_222 ?_
                    have h243 : f223 70 = iz E 700 ms := (k224 70 (List.not_mem_nil)).trans ((k36 70 (by decide)).trans ((k26 70 (by decide)).trans ((k11 70 (by decide)).trans ((k7 70 (by decide)).trans ((k3 70 (by decide)).trans hc70)))))
                    refine F_iald hX d_Mo_layWindow_224 70 (by decide) h243 (by omega) ?_
                    refine G_top (show zI (ms i) = zI (pS P i) from congrArg zI (plE_i hpe (by omega) rfl).2.1) ?_
                    have b244 := hPB i
                    refine G_iconst hX d_Mo_layWindow_225 ?_
                    refine G_icmp_ne_z hX (tgt := 265) d_Mo_layWindow_226 rfl (by omega) (fun c245 => ?_) (fun c246 => ?_)
                    · skip
                      refine G_loc (lv' := [(0, .ref (eA E 61)), (2, .int (zI bg)), (3, .int (zI num)), (4, .int (zI i)), (5, .int (zI (psI P i))), (7, .int (zI ((s + (psI P i)) - bg))), (8, .int (zI (-1))), (9, .int (zI 0))]) [4, 5, 6, 7, 8, 2, 1, 0] rfl ?_
                      exact join52 (-1) 0 f223  (by first | (exfalso; omega) | exact (if_neg (by omega)).symm | (rw [if_pos q8, c2F_n (by omega) (by omega)])) (fun q => absurd q (by decide))  (Fr.tr Fr.rf k224 (by decide))
                    · skip
                      refine G_aload_n hX 4 rfl rfl d_Mo_layWindow_229 ?_
                      refine M_get hX fg_Mo_106 d_Mo_layWindow_230 h225 (by decide) h242 ?_
                      refine G_iload hX 7 rfl d_Mo_layWindow_233 ?_
                      refine G_iconst hX d_Mo_layWindow_235 ?_
                      refine G_iadd_z hX d_Mo_layWindow_236 ?_
                      refine F_iald hX d_Mo_layWindow_237 70 (by decide) h243 (by omega) ?_
                      refine G_top (show zI (ms (i + 1)) = zI (pS P (i + 1)) from congrArg zI (plE_i hpe (by omega) rfl).2.1) ?_
                      have b247 := hPB (i + 1)
                      refine G_iconst hX d_Mo_layWindow_238 ?_
                      refine G_icmp_ne_z hX (tgt := 265) d_Mo_layWindow_239 rfl (by omega) (fun c248 => ?_) (fun c249 => ?_)
                      · skip
                        refine G_loc (lv' := [(0, .ref (eA E 61)), (2, .int (zI bg)), (3, .int (zI num)), (4, .int (zI i)), (5, .int (zI (psI P i))), (7, .int (zI ((s + (psI P i)) - bg))), (8, .int (zI (-1))), (9, .int (zI 0))]) [4, 5, 6, 7, 8, 2, 1, 0] rfl ?_
                        exact join52 (-1) 0 f223  (by first | (exfalso; omega) | exact (if_neg (by omega)).symm | (rw [if_pos q8, c2F_n (by omega) (by omega)])) (fun q => absurd q (by decide))  (Fr.tr Fr.rf k224 (by decide))
                      · skip
                        have ht3 : pT P i = 3 ∧ pS P i = 4 ∧ pT P (i + 1) = 1 ∧ pS P (i + 1) = 1 := by omega
                        have hai := hoi.2.2.2.2 ht3.1
                        refine G_aload_n hX 4 rfl rfl d_Mo_layWindow_242 ?_
                        refine G_aload_n hX 4 rfl rfl d_Mo_layWindow_243 ?_
                        have h250 : F29 16 = .ref (eA E 71) := (k33 16 (by decide)).trans ((k23 16 (by decide)).trans (hmk 16 71 (by decide)))
                        refine M_get hX fg_Mo_109 d_Mo_layWindow_244 h225 (by decide) h250 ?_
                        refine G_iload hX 7 rfl d_Mo_layWindow_247 ?_
                        have h251 : f223 71 = iz E 700 ma := (k224 71 (List.not_mem_nil)).trans ((k36 71 (by decide)).trans ((k26 71 (by decide)).trans ((k11 71 (by decide)).trans ((k7 71 (by decide)).trans ((k3 71 (by decide)).trans hc71)))))
                        refine F_iald hX d_Mo_layWindow_249 71 (by decide) h251 (by omega) ?_
                        refine G_top (show zI (ma i) = zI (pA P i) from congrArg zI (plE_i hpe (by omega) rfl).2.2.1) ?_
                        have b252 := hPB i
                        refine G_iload hX 2 rfl d_Mo_layWindow_250 ?_
                        have h253 : f223 78 = iz E 8 R.1 := (k224 78 (List.not_mem_nil)).trans h39
                        have h254 : f223 79 = iz E 1024 R.2.1 := (k224 79 (List.not_mem_nil)).trans h40
                        refine F_callV hX (st := []) (c_Mo_modeFor E f223 F29 (pA P i) ((s + (psI P i)) - bg) R.1 R.2.1 h225 (moK_fr hmk (FrF.tr (FrF.tr (FrF.rf (S := [25, 26, 27])) k23 (by decide)) k33 (by decide)) (by decide)) h253 h254 (by omega) (by omega) hRh.1 hRh.2.1) cm_Mo_modeFor im_Mo_modeFor se_Mo_modeFor rfl ml_Mo_313 d_Mo_layWindow_252 (by decide) h225 rfl rfl (Nat.le_of_ble_eq_true rfl) (by decide) ?_
                        rintro _ f255 ⟨rfl, e258⟩
                        obtain rfl := e258.symm
                        refine G_cast (st' := [.int (zI (mdF R.1 R.2.1 4 3 (pA P i) ((s + (psI P i)) - bg)))]) ?_ rfl rfl rfl rfl
                        have hmi : mdF R.1 R.2.1 4 3 (pA P i) (s + psI P i - bg) = mdI P a s i := by unfold mdI; rw [← hR, ← hx0]
                        refine G_top (show zI (mdF R.1 R.2.1 4 3 (pA P i) ((s + (psI P i)) - bg)) = zI (mdI P a s i) from congrArg zI hmi) ?_
                        have hmib := mdI_b (P := P) (a := a) (so := s) hai.1
                        refine G_istore hX (lv' := [(9, .int (zI (mdI P a s i))), (8, .int (zI (-1))), (7, .int (zI ((s + (psI P i)) - bg))), (6, .int (zI two)), (0, .ref (eA E 61)), (2, .int (zI bg)), (3, .int (zI num)), (4, .int (zI i)), (5, .int (zI (psI P i)))]) (by decide) rfl d_Mo_layWindow_255 ?_
                        refine G_sipush hX (by decide) d_Mo_layWindow_257 ?_
                        refine G_iload hX 0 rfl d_Mo_layWindow_260 ?_
                        refine G_iadd_z hX d_Mo_layWindow_262 ?_
                        refine G_istore hX (lv' := [(8, .int (zI (247 + (mdI P a s i)))), (9, .int (zI (mdI P a s i))), (7, .int (zI ((s + (psI P i)) - bg))), (6, .int (zI two)), (0, .ref (eA E 61)), (2, .int (zI bg)), (3, .int (zI num)), (4, .int (zI i)), (5, .int (zI (psI P i)))]) (by decide) rfl d_Mo_layWindow_263 ?_
                        refine G_loc (lv' := [(0, .ref (eA E 61)), (2, .int (zI bg)), (3, .int (zI num)), (4, .int (zI i)), (5, .int (zI (psI P i))), (7, .int (zI ((s + (psI P i)) - bg))), (8, .int (zI (247 + (mdI P a s i)))), (9, .int (zI (mdI P a s i)))]) [4, 5, 6, 7, 8, 2, 0, 1] rfl ?_
                        exact join52 (247 + (mdI P a s i)) (mdI P a s i) f223  (by rw [if_pos q8, c2F_b2 ht3]) (fun _ => (if_neg (by omega)).symm)  (Fr.tr Fr.rf k224 (by decide))
              · skip
                refine G_aload_n hX 4 rfl rfl d_Mo_layWindow_124 ?_
                refine M_get hX fg_Mo_103 d_Mo_layWindow_125 h225 (by decide) h229 ?_
                refine G_iload hX 7 rfl d_Mo_layWindow_128 ?_
                refine G_iconst hX d_Mo_layWindow_130 ?_
                refine G_iadd_z hX d_Mo_layWindow_131 ?_
                refine F_iald hX d_Mo_layWindow_132 69 (by decide) h230 (by omega) ?_
                refine G_top (show zI (mt (i + 1)) = zI (pT P (i + 1)) from congrArg zI (plE_i hpe (by omega) rfl).1) ?_
                have b259 := hPB (i + 1)
                refine G_iconst hX d_Mo_layWindow_133 ?_
                refine G_icmp_ne_z hX (tgt := 189) d_Mo_layWindow_134 rfl (by omega) (fun c260 => ?_) (fun c261 => ?_)
                · skip
                  refine G_iload hX 3 rfl d_Mo_layWindow_189 ?_
                  refine G_if_eq_z hX (tgt := 265) d_Mo_layWindow_191 rfl (by omega) (fun c262 => by exfalso; omega) (fun c263 => ?_)
                  refine G_aload_n hX 4 rfl rfl d_Mo_layWindow_194 ?_
                  refine M_get hX fg_Mo_103 d_Mo_layWindow_195 h225 (by decide) h229 ?_
                  refine G_iload hX 7 rfl d_Mo_layWindow_198 ?_
                  refine F_iald hX d_Mo_layWindow_200 69 (by decide) h230 (by omega) ?_
                  refine G_top (show zI (mt i) = zI (pT P i) from congrArg zI (plE_i hpe (by omega) rfl).1) ?_
                  have b264 := hPB i
                  refine G_iconst hX d_Mo_layWindow_201 ?_
                  refine G_icmp_ne_z hX (tgt := 265) d_Mo_layWindow_202 rfl (by omega) (fun c265 => ?_) (fun c266 => ?_)
                  · skip
                    refine G_loc (lv' := [(0, .ref (eA E 61)), (2, .int (zI bg)), (3, .int (zI num)), (4, .int (zI i)), (5, .int (zI (psI P i))), (7, .int (zI ((s + (psI P i)) - bg))), (8, .int (zI (-1))), (9, .int (zI 0))]) [4, 5, 6, 7, 8, 2, 1, 0] rfl ?_
                    exact join52 (-1) 0 f223  (by first | (exfalso; omega) | exact (if_neg (by omega)).symm | (rw [if_pos q8, c2F_n (by omega) (by omega)])) (fun q => absurd q (by decide))  (Fr.tr Fr.rf k224 (by decide))
                  · skip
                    refine G_aload_n hX 4 rfl rfl d_Mo_layWindow_205 ?_
                    refine M_get hX fg_Mo_103 d_Mo_layWindow_206 h225 (by decide) h229 ?_
                    refine G_iload hX 7 rfl d_Mo_layWindow_209 ?_
                    refine G_iconst hX d_Mo_layWindow_211 ?_
                    refine G_iadd_z hX d_Mo_layWindow_212 ?_
                    refine F_iald hX d_Mo_layWindow_213 69 (by decide) h230 (by omega) ?_
                    refine G_top (show zI (mt (i + 1)) = zI (pT P (i + 1)) from congrArg zI (plE_i hpe (by omega) rfl).1) ?_
                    have b267 := hPB (i + 1)
                    refine G_iconst hX d_Mo_layWindow_214 ?_
                    refine G_icmp_ne_z hX (tgt := 265) d_Mo_layWindow_215 rfl (by omega) (fun c268 => ?_) (fun c269 => ?_)
                    · skip
                      refine G_loc (lv' := [(0, .ref (eA E 61)), (2, .int (zI bg)), (3, .int (zI num)), (4, .int (zI i)), (5, .int (zI (psI P i))), (7, .int (zI ((s + (psI P i)) - bg))), (8, .int (zI (-1))), (9, .int (zI 0))]) [4, 5, 6, 7, 8, 2, 1, 0] rfl ?_
                      exact join52 (-1) 0 f223  (by first | (exfalso; omega) | exact (if_neg (by omega)).symm | (rw [if_pos q8, c2F_n (by omega) (by omega)])) (fun q => absurd q (by decide))  (Fr.tr Fr.rf k224 (by decide))
                    · skip
                      refine G_aload_n hX 4 rfl rfl d_Mo_layWindow_218 ?_
                      have h270 : F29 15 = .ref (eA E 70) := (k33 15 (by decide)).trans ((k23 15 (by decide)).trans (hmk 15 70 (by decide)))
                      refine M_get hX fg_Mo_106 d_Mo_layWindow_219 h225 (by decide) h270 ?_
                      refine G_iload hX 7 rfl d_Mo_layWindow_222 ?_
                      have h271 : f223 70 = iz E 700 ms := (k224 70 (List.not_mem_nil)).trans ((k36 70 (by decide)).trans ((k26 70 (by decide)).trans ((k11 70 (by decide)).trans ((k7 70 (by decide)).trans ((k3 70 (by decide)).trans hc70)))))
                      refine F_iald hX d_Mo_layWindow_224 70 (by decide) h271 (by omega) ?_
                      refine G_top (show zI (ms i) = zI (pS P i) from congrArg zI (plE_i hpe (by omega) rfl).2.1) ?_
                      have b272 := hPB i
                      refine G_iconst hX d_Mo_layWindow_225 ?_
                      refine G_icmp_ne_z hX (tgt := 265) d_Mo_layWindow_226 rfl (by omega) (fun c273 => ?_) (fun c274 => ?_)
                      · skip
                        refine G_loc (lv' := [(0, .ref (eA E 61)), (2, .int (zI bg)), (3, .int (zI num)), (4, .int (zI i)), (5, .int (zI (psI P i))), (7, .int (zI ((s + (psI P i)) - bg))), (8, .int (zI (-1))), (9, .int (zI 0))]) [4, 5, 6, 7, 8, 2, 1, 0] rfl ?_
                        exact join52 (-1) 0 f223  (by first | (exfalso; omega) | exact (if_neg (by omega)).symm | (rw [if_pos q8, c2F_n (by omega) (by omega)])) (fun q => absurd q (by decide))  (Fr.tr Fr.rf k224 (by decide))
                      · skip
                        refine G_aload_n hX 4 rfl rfl d_Mo_layWindow_229 ?_
                        refine M_get hX fg_Mo_106 d_Mo_layWindow_230 h225 (by decide) h270 ?_
                        refine G_iload hX 7 rfl d_Mo_layWindow_233 ?_
                        refine G_iconst hX d_Mo_layWindow_235 ?_
                        refine G_iadd_z hX d_Mo_layWindow_236 ?_
                        refine F_iald hX d_Mo_layWindow_237 70 (by decide) h271 (by omega) ?_
                        refine G_top (show zI (ms (i + 1)) = zI (pS P (i + 1)) from congrArg zI (plE_i hpe (by omega) rfl).2.1) ?_
                        have b275 := hPB (i + 1)
                        refine G_iconst hX d_Mo_layWindow_238 ?_
                        refine G_icmp_ne_z hX (tgt := 265) d_Mo_layWindow_239 rfl (by omega) (fun c276 => ?_) (fun c277 => ?_)
                        · skip
                          refine G_loc (lv' := [(0, .ref (eA E 61)), (2, .int (zI bg)), (3, .int (zI num)), (4, .int (zI i)), (5, .int (zI (psI P i))), (7, .int (zI ((s + (psI P i)) - bg))), (8, .int (zI (-1))), (9, .int (zI 0))]) [4, 5, 6, 7, 8, 2, 1, 0] rfl ?_
                          exact join52 (-1) 0 f223  (by first | (exfalso; omega) | exact (if_neg (by omega)).symm | (rw [if_pos q8, c2F_n (by omega) (by omega)])) (fun q => absurd q (by decide))  (Fr.tr Fr.rf k224 (by decide))
                        · skip
                          have ht3 : pT P i = 3 ∧ pS P i = 4 ∧ pT P (i + 1) = 1 ∧ pS P (i + 1) = 1 := by omega
                          have hai := hoi.2.2.2.2 ht3.1
                          refine G_aload_n hX 4 rfl rfl d_Mo_layWindow_242 ?_
                          refine G_aload_n hX 4 rfl rfl d_Mo_layWindow_243 ?_
                          have h278 : F29 16 = .ref (eA E 71) := (k33 16 (by decide)).trans ((k23 16 (by decide)).trans (hmk 16 71 (by decide)))
                          refine M_get hX fg_Mo_109 d_Mo_layWindow_244 h225 (by decide) h278 ?_
                          refine G_iload hX 7 rfl d_Mo_layWindow_247 ?_
                          have h279 : f223 71 = iz E 700 ma := (k224 71 (List.not_mem_nil)).trans ((k36 71 (by decide)).trans ((k26 71 (by decide)).trans ((k11 71 (by decide)).trans ((k7 71 (by decide)).trans ((k3 71 (by decide)).trans hc71)))))
                          refine F_iald hX d_Mo_layWindow_249 71 (by decide) h279 (by omega) ?_
                          refine G_top (show zI (ma i) = zI (pA P i) from congrArg zI (plE_i hpe (by omega) rfl).2.2.1) ?_
                          have b280 := hPB i
                          refine G_iload hX 2 rfl d_Mo_layWindow_250 ?_
                          have h281 : f223 78 = iz E 8 R.1 := (k224 78 (List.not_mem_nil)).trans h39
                          have h282 : f223 79 = iz E 1024 R.2.1 := (k224 79 (List.not_mem_nil)).trans h40
                          refine F_callV hX (st := []) (c_Mo_modeFor E f223 F29 (pA P i) ((s + (psI P i)) - bg) R.1 R.2.1 h225 (moK_fr hmk (FrF.tr (FrF.tr (FrF.rf (S := [25, 26, 27])) k23 (by decide)) k33 (by decide)) (by decide)) h281 h282 (by omega) (by omega) hRh.1 hRh.2.1) cm_Mo_modeFor im_Mo_modeFor se_Mo_modeFor rfl ml_Mo_313 d_Mo_layWindow_252 (by decide) h225 rfl rfl (Nat.le_of_ble_eq_true rfl) (by decide) ?_
                          rintro _ f283 ⟨rfl, e286⟩
                          obtain rfl := e286.symm
                          refine G_cast (st' := [.int (zI (mdF R.1 R.2.1 4 3 (pA P i) ((s + (psI P i)) - bg)))]) ?_ rfl rfl rfl rfl
                          have hmi : mdF R.1 R.2.1 4 3 (pA P i) (s + psI P i - bg) = mdI P a s i := by unfold mdI; rw [← hR, ← hx0]
                          refine G_top (show zI (mdF R.1 R.2.1 4 3 (pA P i) ((s + (psI P i)) - bg)) = zI (mdI P a s i) from congrArg zI hmi) ?_
                          have hmib := mdI_b (P := P) (a := a) (so := s) hai.1
                          refine G_istore hX (lv' := [(9, .int (zI (mdI P a s i))), (8, .int (zI (-1))), (7, .int (zI ((s + (psI P i)) - bg))), (6, .int (zI two)), (0, .ref (eA E 61)), (2, .int (zI bg)), (3, .int (zI num)), (4, .int (zI i)), (5, .int (zI (psI P i)))]) (by decide) rfl d_Mo_layWindow_255 ?_
                          refine G_sipush hX (by decide) d_Mo_layWindow_257 ?_
                          refine G_iload hX 0 rfl d_Mo_layWindow_260 ?_
                          refine G_iadd_z hX d_Mo_layWindow_262 ?_
                          refine G_istore hX (lv' := [(8, .int (zI (247 + (mdI P a s i)))), (9, .int (zI (mdI P a s i))), (7, .int (zI ((s + (psI P i)) - bg))), (6, .int (zI two)), (0, .ref (eA E 61)), (2, .int (zI bg)), (3, .int (zI num)), (4, .int (zI i)), (5, .int (zI (psI P i)))]) (by decide) rfl d_Mo_layWindow_263 ?_
                          refine G_loc (lv' := [(0, .ref (eA E 61)), (2, .int (zI bg)), (3, .int (zI num)), (4, .int (zI i)), (5, .int (zI (psI P i))), (7, .int (zI ((s + (psI P i)) - bg))), (8, .int (zI (247 + (mdI P a s i)))), (9, .int (zI (mdI P a s i)))]) [4, 5, 6, 7, 8, 2, 0, 1] rfl ?_
                          exact join52 (247 + (mdI P a s i)) (mdI P a s i) f223  (by rw [if_pos q8, c2F_b2 ht3]) (fun _ => (if_neg (by omega)).symm)  (Fr.tr Fr.rf k224 (by decide))
                · skip
                  have ht1 : pT P i = 1 := by omega
                  have ht2 : pT P (i + 1) = 3 := by omega
                  have hRi : arI P a (i + 1) = R := by rw [arI_s hi.1, if_neg (by omega), hR]
                  have haj := hoj.2.2.2.2 ht2
                  refine G_aload_n hX 4 rfl rfl d_Mo_layWindow_137 ?_
                  refine G_aload_n hX 4 rfl rfl d_Mo_layWindow_138 ?_
                  have h287 : F29 16 = .ref (eA E 71) := (k33 16 (by decide)).trans ((k23 16 (by decide)).trans (hmk 16 71 (by decide)))
                  refine M_get hX fg_Mo_109 d_Mo_layWindow_139 h225 (by decide) h287 ?_
                  refine G_iload hX 7 rfl d_Mo_layWindow_142 ?_
                  refine G_iconst hX d_Mo_layWindow_144 ?_
                  refine G_iadd_z hX d_Mo_layWindow_145 ?_
                  have h288 : f223 71 = iz E 700 ma := (k224 71 (List.not_mem_nil)).trans ((k36 71 (by decide)).trans ((k26 71 (by decide)).trans ((k11 71 (by decide)).trans ((k7 71 (by decide)).trans ((k3 71 (by decide)).trans hc71)))))
                  refine F_iald hX d_Mo_layWindow_146 71 (by decide) h288 (by omega) ?_
                  refine G_top (show zI (ma (i + 1)) = zI (pA P (i + 1)) from congrArg zI (plE_i hpe (by omega) rfl).2.2.1) ?_
                  have b289 := hPB (i + 1)
                  refine G_iload hX 2 rfl d_Mo_layWindow_147 ?_
                  refine G_aload_n hX 4 rfl rfl d_Mo_layWindow_149 ?_
                  have h290 : F29 15 = .ref (eA E 70) := (k33 15 (by decide)).trans ((k23 15 (by decide)).trans (hmk 15 70 (by decide)))
                  refine M_get hX fg_Mo_106 d_Mo_layWindow_150 h225 (by decide) h290 ?_
                  refine G_iload hX 7 rfl d_Mo_layWindow_153 ?_
                  have h291 : f223 70 = iz E 700 ms := (k224 70 (List.not_mem_nil)).trans ((k36 70 (by decide)).trans ((k26 70 (by decide)).trans ((k11 70 (by decide)).trans ((k7 70 (by decide)).trans ((k3 70 (by decide)).trans hc70)))))
                  refine F_iald hX d_Mo_layWindow_155 70 (by decide) h291 (by omega) ?_
                  refine G_top (show zI (ms i) = zI (pS P i) from congrArg zI (plE_i hpe (by omega) rfl).2.1) ?_
                  have b292 := hPB i
                  refine G_iadd_z hX d_Mo_layWindow_156 ?_
                  have h293 : f223 78 = iz E 8 R.1 := (k224 78 (List.not_mem_nil)).trans h39
                  have h294 : f223 79 = iz E 1024 R.2.1 := (k224 79 (List.not_mem_nil)).trans h40
                  refine F_callV hX (st := []) (c_Mo_modeFor E f223 F29 (pA P (i + 1)) (((s + (psI P i)) - bg) + (pS P i)) R.1 R.2.1 h225 (moK_fr hmk (FrF.tr (FrF.tr (FrF.rf (S := [25, 26, 27])) k23 (by decide)) k33 (by decide)) (by decide)) h293 h294 (by omega) (by omega) hRh.1 hRh.2.1) cm_Mo_modeFor im_Mo_modeFor se_Mo_modeFor rfl ml_Mo_313 d_Mo_layWindow_157 (by decide) h225 rfl rfl (Nat.le_of_ble_eq_true rfl) (by decide) ?_
                  rintro _ f295 ⟨rfl, e298⟩
                  obtain rfl := e298.symm
                  refine G_cast (st' := [.int (zI (mdF R.1 R.2.1 4 3 (pA P (i + 1)) (((s + (psI P i)) - bg) + (pS P i))))]) ?_ rfl rfl rfl rfl
                  have hmj : mdF R.1 R.2.1 4 3 (pA P (i + 1)) (s + psI P i - bg + pS P i) = mdI P a s (i + 1) := by unfold mdI; rw [hRi, hpi]; congr 1; omega
                  refine G_top (show zI (mdF R.1 R.2.1 4 3 (pA P (i + 1)) (((s + (psI P i)) - bg) + (pS P i))) = zI (mdI P a s (i + 1)) from congrArg zI hmj) ?_
                  have hmjb := mdI_b (P := P) (a := a) (so := s) haj.1
                  refine G_istore hX (lv' := [(9, .int (zI (mdI P a s (i + 1)))), (8, .int (zI (-1))), (7, .int (zI ((s + (psI P i)) - bg))), (6, .int (zI two)), (0, .ref (eA E 61)), (2, .int (zI bg)), (3, .int (zI num)), (4, .int (zI i)), (5, .int (zI (psI P i)))]) (by decide) rfl d_Mo_layWindow_160 ?_
                  refine G_aload_n hX 4 rfl rfl d_Mo_layWindow_162 ?_
                  refine G_aload_n hX 4 rfl rfl d_Mo_layWindow_163 ?_
                  refine M_get hX fg_Mo_106 d_Mo_layWindow_164 h225 (by decide) h290 ?_
                  refine G_iload hX 7 rfl d_Mo_layWindow_167 ?_
                  refine F_iald hX d_Mo_layWindow_169 70 (by decide) h291 (by omega) ?_
                  refine G_top (show zI (ms i) = zI (pS P i) from congrArg zI (plE_i hpe (by omega) rfl).2.1) ?_
                  have b299 := hPB i
                  refine G_aload_n hX 4 rfl rfl d_Mo_layWindow_170 ?_
                  refine M_get hX fg_Mo_106 d_Mo_layWindow_171 h225 (by decide) h290 ?_
                  refine G_iload hX 7 rfl d_Mo_layWindow_174 ?_
                  refine G_iconst hX d_Mo_layWindow_176 ?_
                  refine G_iadd_z hX d_Mo_layWindow_177 ?_
                  refine F_iald hX d_Mo_layWindow_178 70 (by decide) h291 (by omega) ?_
                  refine G_top (show zI (ms (i + 1)) = zI (pS P (i + 1)) from congrArg zI (plE_i hpe (by omega) rfl).2.1) ?_
                  have b300 := hPB (i + 1)
                  refine G_iload hX 0 rfl d_Mo_layWindow_179 ?_
                  refine F_callV hX (st := []) (c_Mo_pairCode E f223 F29 (pS P i) (pS P (i + 1)) (mdI P a s (i + 1)) h225 (moK_fr hmk (FrF.tr (FrF.tr (FrF.rf (S := [25, 26, 27])) k23 (by decide)) k33 (by decide)) (by decide)) (by omega)) cm_Mo_pairCode im_Mo_pairCode se_Mo_pairCode rfl ml_Mo_322 d_Mo_layWindow_181 (by decide) h225 rfl rfl (Nat.le_of_ble_eq_true rfl) (by decide) ?_
                  rintro _ f301 ⟨rfl, e304⟩
                  obtain rfl := e304.symm
                  refine G_cast (st' := [.int (zI (pcF (pS P i) (pS P (i + 1)) (mdI P a s (i + 1))))]) ?_ rfl rfl rfl rfl
                  refine G_istore hX (lv' := [(8, .int (zI (pcF (pS P i) (pS P (i + 1)) (mdI P a s (i + 1))))), (9, .int (zI (mdI P a s (i + 1)))), (7, .int (zI ((s + (psI P i)) - bg))), (6, .int (zI two)), (0, .ref (eA E 61)), (2, .int (zI bg)), (3, .int (zI num)), (4, .int (zI i)), (5, .int (zI (psI P i)))]) (by decide) rfl d_Mo_layWindow_184 ?_
                  refine G_goto hX (tgt := 265) d_Mo_layWindow_186 rfl ?_
                  refine G_loc (lv' := [(0, .ref (eA E 61)), (2, .int (zI bg)), (3, .int (zI num)), (4, .int (zI i)), (5, .int (zI (psI P i))), (7, .int (zI ((s + (psI P i)) - bg))), (8, .int (zI (pcF (pS P i) (pS P (i + 1)) (mdI P a s (i + 1))))), (9, .int (zI (mdI P a s (i + 1))))]) [4, 5, 6, 7, 8, 2, 0, 1] rfl ?_
                  exact join52 (pcF (pS P i) (pS P (i + 1)) (mdI P a s (i + 1))) (mdI P a s (i + 1)) f223  (by rw [if_pos q8, c2F_a ht1 ht2]) (fun _ => (if_pos ht1).symm)  (Fr.tr Fr.rf k224 (by decide))
            · skip
              have htw : two = 0 := by omega
              refine G_iload hX 3 rfl d_Mo_layWindow_108 ?_
              refine G_if_eq_z hX (tgt := 189) d_Mo_layWindow_110 rfl (by omega) (fun c305 => ?_) (fun c306 => by exfalso; omega)
              refine G_iload hX 3 rfl d_Mo_layWindow_189 ?_
              refine G_if_eq_z hX (tgt := 265) d_Mo_layWindow_191 rfl (by omega) (fun c307 => ?_) (fun c308 => by exfalso; omega)
              refine G_loc (lv' := [(0, .ref (eA E 61)), (2, .int (zI bg)), (3, .int (zI num)), (4, .int (zI i)), (5, .int (zI (psI P i))), (7, .int (zI ((s + (psI P i)) - bg))), (8, .int (zI (-1))), (9, .int (zI 0))]) [4, 5, 6, 7, 8, 2, 1, 0] rfl ?_
              exact join52 (-1) 0 f223  (by first | (exfalso; omega) | exact (if_neg (by omega)).symm | (rw [if_pos q8, c2F_n (by omega) (by omega)])) (fun q => absurd q (by decide))  (Fr.tr Fr.rf k224 (by decide))
          refine G_iload hX 3 rfl d_Mo_layWindow_60 ?_
          refine G_iconst hX d_Mo_layWindow_62 ?_
          refine G_iadd_z hX d_Mo_layWindow_63 ?_
          refine G_aload_n hX 0 rfl rfl d_Mo_layWindow_64 ?_
          refine M_get hX fg_Mo_100 d_Mo_layWindow_65 h43 (by decide) h44 ?_
          refine G_icmp_ge_z hX (tgt := 88) d_Mo_layWindow_68 rfl (by omega) (fun c309 => ?_) (fun c310 => ?_)
          · skip
            refine G_iconst hX d_Mo_layWindow_88 ?_
            exact join222 0 f35  (Or.inr ⟨rfl, hwi.trans (wnE_no (by first | exact Or.inl (by omega) | exact Or.inr (by omega)))⟩)  Fr.rf
          · skip
            refine G_aload_n hX 0 rfl rfl d_Mo_layWindow_71 ?_
            refine M_get hX fg_Mo_112 d_Mo_layWindow_72 h43 (by decide) h47 ?_
            refine G_iload hX 3 rfl d_Mo_layWindow_75 ?_
            refine G_iconst hX d_Mo_layWindow_77 ?_
            refine G_iadd_z hX d_Mo_layWindow_78 ?_
            refine F_iald hX d_Mo_layWindow_79 72 (by decide) h48 (by omega) ?_
            refine G_top (show zI (mn (i + 1)) = zI (pN P (i + 1)) from congrArg zI (plE_i hpe (by omega) rfl).2.2.2) ?_
            have b311 := hPB (i + 1)
            refine G_iload_n hX 2 rfl rfl d_Mo_layWindow_80 ?_
            refine G_icmp_ne_z hX (tgt := 88) d_Mo_layWindow_81 rfl (by omega) (fun c312 => ?_) (fun c313 => ?_)
            · skip
              refine G_iconst hX d_Mo_layWindow_88 ?_
              exact join222 0 f35  (Or.inr ⟨rfl, hwi.trans (wnE_no (by first | exact Or.inl (by omega) | exact Or.inr (by omega)))⟩)  Fr.rf
            · skip
              refine G_iconst hX d_Mo_layWindow_84 ?_
              refine G_goto hX (tgt := 89) d_Mo_layWindow_85 rfl ?_
              exact join222 1 f35  (Or.inl ⟨rfl, by have h1 := wnE_go (show i + 1 < pC P by omega) (by omega : pN P (i + 1) = num); have h2 := wnE_b (P := P) (num := num) (a := i + 1 + 1) (by omega); omega⟩)  Fr.rf
  have h314 : f15 77 = iz E 3000 pt := (k26 77 (by decide)).trans ((k11 77 (by decide)).trans ((k7 77 (by decide)).trans ((k3 77 (by decide)).trans hc77)))
  refine G_loc (lv' := [(0, .ref (eA E 61)), (2, .int (zI bg)), (3, .int (zI num)), (4, .int (zI a)), (5, .int (zI bg))]) [3, 5, 2, 1, 0] rfl ?_
  refine G_cast (loop34 (_ + 1) a ((e - a).toNat) ar0 ([]) ([]) ([]) pt (uz (uz (uz ps 0 0) 1 0) 2 0) F18 f15 (Nat.lt_succ_self _) (by omega) (by unfold arI; rw [Int.sub_self]; rfl) he.symm rfl rfl rfl ⟨rep_0 _, rep_0 _, rep_0 _⟩ (by rw [← hx0]; simp only [List.length_nil]; omega) h20 h21 h22 FrF.rf h24 h25 h28 h314 h19 Fr.rf) rfl (by rw [← hx0]) rfl rfl
