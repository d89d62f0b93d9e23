/-! DeltaFerryModel: a window's parts; printed by wip/tools/m_mo8.py -/
theorem arB_h {R : AR} (h : arB R) : (∀ k, 0 ≤ R.1 k ∧ R.1 k ≤ 100000) ∧ (∀ k, 0 ≤ R.2.1 k ∧ R.2.1 k ≤ 100000) ∧ 0 ≤ R.2.2 ∧ R.2.2 < 4 :=
  ⟨fun k => ⟨(h.1 k).1, by have := (h.1 k).2; omega⟩, fun k => ⟨(h.2.1 k).1, by have := (h.2.1 k).2; omega⟩, h.2.2⟩
theorem tl_len {nr sm : Int → Int} {a here : Int} (h : 0 ≤ a ∧ a ≤ 700) : (lst (tlB nr sm 4 3 a here) (tlW nr sm 4 3 a here).toNat).length ≤ 2 := by
  have hm := md_b (nr := nr) (sm := sm) (here := here) h.1
  by_cases q : 2 + 4 ≤ mdF nr sm 4 3 a here
  · rw [tl_hi q]; exact (by decide : 1 ≤ 2)
  · rw [tl_lo q]
    have h2 := nbL_len (nbF nr (mdF nr sm 4 3 a here) a here)
    have h3 := wid_2 (v := nbF nr (mdF nr sm 4 3 a here) a here) (by have := hm.2.2 (by omega); omega)
    omega
theorem c2F_n {P : PS} {md : Int → Int} {i : Int} (h : ¬ (pT P i = 1 ∧ pT P (i + 1) = 3)) (h2 : ¬ (pT P i = 3 ∧ pS P i = 4 ∧ pT P (i + 1) = 1 ∧ pS P (i + 1) = 1)) : c2F P md i = -1 := by
  unfold c2F
  rw [if_neg (fun q => h ⟨q.1, q.2.1⟩), if_neg h2]
theorem c2F_a {P : PS} {md : Int → Int} {i : Int} (h : pT P i = 1) (h2 : pT P (i + 1) = 3) : c2F P md i = pcF (pS P i) (pS P (i + 1)) (md (i + 1)) := by
  unfold c2F pcF
  by_cases q : pS P i ≤ 4
  · rw [if_pos ⟨h, h2, q⟩]
    by_cases q2 : md (i + 1) ≤ 5 ∧ 4 ≤ pS P (i + 1) ∧ pS P (i + 1) ≤ 6
    · rw [if_pos q2, if_pos ⟨q2.1, q2.2.1, q2.2.2, q⟩]
    · rw [if_neg q2, if_neg (show ¬ (md (i + 1) ≤ 5 ∧ 4 ≤ pS P (i + 1) ∧ pS P (i + 1) ≤ 6 ∧ pS P i ≤ 4) from fun z => q2 ⟨z.1, z.2.1, z.2.2.1⟩)]
      by_cases q3 : 6 ≤ md (i + 1) ∧ pS P (i + 1) = 4
      · rw [if_pos q3, if_pos ⟨q3.1, q3.2, q⟩]
      · rw [if_neg q3, if_neg (show ¬ (6 ≤ md (i + 1) ∧ pS P (i + 1) = 4 ∧ pS P i ≤ 4) from fun z => q3 ⟨z.1, z.2.1⟩)]
  · rw [if_neg (fun z => q z.2.2), if_neg (by omega), if_neg (by omega), if_neg (by omega)]
theorem c2F_b2 {P : PS} {md : Int → Int} {i : Int} (h : pT P i = 3 ∧ pS P i = 4 ∧ pT P (i + 1) = 1 ∧ pS P (i + 1) = 1) : c2F P md i = 247 + md i := by
  unfold c2F
  rw [if_neg (by omega), if_pos h]
theorem c2F_p {P : PS} {md : Int → Int} {i : Int} (h : 0 ≤ c2F P md i) : (pT P i = 1 ∧ pT P (i + 1) = 3) ∨ (pT P i = 3 ∧ pS P i = 4 ∧ pT P (i + 1) = 1 ∧ pS P (i + 1) = 1) := by
  by_cases q : pT P i = 1 ∧ pT P (i + 1) = 3
  · exact Or.inl q
  · by_cases q2 : pT P i = 3 ∧ pS P i = 4 ∧ pT P (i + 1) = 1 ∧ pS P (i + 1) = 1
    · exact Or.inr q2
    · rw [c2F_n q q2] at h; omega
theorem c1L_1 {n m : Int} (h : n ≤ 17) : c1L 1 n m = [1 + n] := by unfold c1L; rw [if_pos ⟨rfl, h⟩]
theorem c1L_1n {n m : Int} (h : ¬ n ≤ 17) : c1L 1 n m = [1] ++ nbL n := by unfold c1L; rw [if_neg (fun q => h q.2), if_neg (fun q => absurd q.1 (by decide)), if_neg (by decide), if_pos rfl]
theorem c1L_2 {n m : Int} : c1L 2 n m = [0] ++ nbL n := by unfold c1L; rw [if_neg (fun q => absurd q.1 (by decide)), if_neg (fun q => absurd q.1 (by decide)), if_pos rfl]
theorem c1L_3 {n m : Int} (h : 4 ≤ n ∧ n ≤ 18) : c1L 3 n m = [19 + 16 * m + n - 3] := by unfold c1L; rw [if_neg (fun q => absurd q.1 (by decide)), if_pos ⟨rfl, h.1, h.2⟩]
theorem c1L_3n {n m : Int} (h : ¬ (4 ≤ n ∧ n ≤ 18)) : c1L 3 n m = [19 + 16 * m] ++ nbL n := by unfold c1L; rw [if_neg (fun q => absurd q.1 (by decide)), if_neg (fun q => h q.2), if_neg (by decide), if_neg (by decide)]
theorem wnE_go {P : PS} {num i : Int} (h : i < pC P) (h2 : pN P i = num) : wnE P num i = wnE P num (i + 1) := cnt_go h (decide_eq_true h2)
theorem wnE_no {P : PS} {num i : Int} (h : pC P ≤ i ∨ ¬ pN P i = num) : wnE P num i = i := cnt_stop (by rcases h with h | h; exact Or.inr h; exact Or.inl (decide_eq_false h))
theorem hdL_l {n ck v cd cc ca : Int} : ((hdL n ck v cd cc ca).length : Int) = wid n + 1 + wid cd + wid cc + wid ca + (if ck = 0 then 0 else 4) := by
  unfold hdL
  simp only [List.length_append, Int.natCast_add, nbL_len]
  by_cases h : ck = 0
  · rw [if_pos h, if_pos h]; simp only [List.length_cons, List.length_nil]; omega
  · rw [if_neg h, if_neg h]; simp only [List.length_cons, List.length_nil]; omega
theorem c_Mo_layOne (E : EV) (f : Nat → va_E) (F : Nat → Value) (i : Int) (p : Int) (here : Int) (P : PS) (b : Int → Int) (gF : Int → Int) (mt : Int → Int) (ms : Int → Int) (ma : Int → Int) (R : AR) (pt : Int → Int) (ps : Int → Int) (D : List Int) (C : List Int) (A : List Int) (hMo : f 61 = mob F) (hmk : moK E F) (hF25 : F 25 = .int (zI 4)) (hF26 : F 26 = .int (zI 3)) (hF27 : F 27 = .int (zI R.2.2)) (hc63 : f 63 = iz E 1600 b) (hc69 : f 69 = iz E 700 mt) (hc70 : f 70 = iz E 700 ms) (hc71 : f 71 = iz E 700 ma) (hc78 : f 78 = iz E 8 R.1) (hc79 : f 79 = iz E 1024 R.2.1) (hc76 : f 76 = iz E 3 ps) (hc77 : f 77 = iz E 3000 pt) (hr : prt pt ps D C A) (hn : (D.length : Int) < 700 ∧ (C.length : Int) < 900 ∧ (A.length : Int) < 900) (hi : mt i = pT P i ∧ ms i = pS P i ∧ ma i = pA P i) (hb : (1 ≤ pT P i ∧ pT P i ≤ 3) ∧ (1 ≤ pS P i ∧ pS P i ≤ 256) ∧ (pT P i = 3 → 0 ≤ pA P i ∧ pA P i ≤ 700)) (hR : arB R) (hx : (0 ≤ i ∧ i < 700) ∧ (0 ≤ p ∧ p + pS P i ≤ 300) ∧ 0 ≤ here ∧ here ≤ 1000) (hag : ∀ j, 0 ≤ j → j < p + pS P i → b (300 + j) = gF j) : CF yn_Mo_layOne cd_Mo_layOne 7 none 3 E [.ref (eA E 61), .int (zI i), .int (zI p), .int (zI here)] f (fun r f' => r = none ∧ ∃ (F' : Nat → Value) (R' : AR) (pt' : Int → Int) (ps' : Int → Int), f' 61 = mob F' ∧ F' 27 = .int (zI R'.2.2) ∧ FrF [27] F F' ∧ f' 78 = iz E 8 R'.1 ∧ f' 79 = iz E 1024 R'.2.1 ∧ f' 76 = iz E 3 ps' ∧ f' 77 = iz E 3000 pt' ∧ (R' = if pT P i = 3 then arN R (pA P i) else R) ∧ (prt pt' ps' (D ++ gdI P gF i p) (C ++ c1L (pT P i) (pS P i) (mdF R.1 R.2.1 4 3 (pA P i) here)) (A ++ (if pT P i = 3 then lst (tlB R.1 R.2.1 4 3 (pA P i) here) (tlW R.1 R.2.1 4 3 (pA P i) here).toNat else []))) ∧ Fr [78, 79, 76, 77, 61] f f') := by
  refine CF.of (by decide +kernel) (Nat.le_of_ble_eq_true rfl) fun X hX hE => ?_
  have hX : Ok E X "DeltaFerryModel" "layOne" cd_Mo_layOne 7 none (rl 3) := hX
  refine G_cast (lv' := [(0, .ref (eA E 61)), (1, .int (zI i)), (2, .int (zI p)), (3, .int (zI here))]) ?_ rfl rfl rfl rfl
  have hRh := arB_h hR
  refine G_aload_n hX 0 rfl rfl d_Mo_layOne_0 ?_
  refine M_get hX fg_Mo_106 d_Mo_layOne_1 hMo (by decide) (hmk 15 70 (by decide)) ?_
  refine G_iload_n hX 1 rfl rfl d_Mo_layOne_4 ?_
  refine F_iald hX d_Mo_layOne_5 70 (by decide) hc70 (by omega) ?_
  refine G_top (show zI (ms i) = zI (pS P i) from congrArg zI hi.2.1) ?_
  refine G_istore hX (lv' := [(4, .int (zI (pS P i))), (0, .ref (eA E 61)), (1, .int (zI i)), (2, .int (zI p)), (3, .int (zI here))]) (by decide) rfl d_Mo_layOne_6 ?_
  refine G_aload_n hX 1 rfl rfl d_Mo_layOne_8 ?_
  refine M_get hX fg_Mo_103 d_Mo_layOne_9 hMo (by decide) (hmk 14 69 (by decide)) ?_
  refine G_iload_n hX 2 rfl rfl d_Mo_layOne_12 ?_
  refine F_iald hX d_Mo_layOne_13 69 (by decide) hc69 (by omega) ?_
  refine G_top (show zI (mt i) = zI (pT P i) from congrArg zI hi.1) ?_
  refine G_iconst hX d_Mo_layOne_14 ?_
  refine G_icmp_ne_z hX (tgt := 62) d_Mo_layOne_15 rfl (by omega) (fun c1 => ?_) (fun c2 => ?_)
  · skip
    refine G_aload_n hX 1 rfl rfl d_Mo_layOne_62 ?_
    refine M_get hX fg_Mo_103 d_Mo_layOne_63 hMo (by decide) (hmk 14 69 (by decide)) ?_
    refine G_iload_n hX 2 rfl rfl d_Mo_layOne_66 ?_
    refine F_iald hX d_Mo_layOne_67 69 (by decide) hc69 (by omega) ?_
    refine G_top (show zI (mt i) = zI (pT P i) from congrArg zI hi.1) ?_
    refine G_iconst hX d_Mo_layOne_68 ?_
    refine G_icmp_ne_z hX (tgt := 94) d_Mo_layOne_69 rfl (by omega) (fun c3 => ?_) (fun c4 => ?_)
    · skip
      have ht3 : pT P i = 3 := by omega
      have ha3 := hb.2.2 ht3
      have hmb := md_b (nr := R.1) (sm := R.2.1) (here := here) ha3.1
      refine G_aload_n hX 1 rfl rfl d_Mo_layOne_94 ?_
      refine G_aload_n hX 1 rfl rfl d_Mo_layOne_95 ?_
      refine M_get hX fg_Mo_109 d_Mo_layOne_96 hMo (by decide) (hmk 16 71 (by decide)) ?_
      refine G_iload_n hX 2 rfl rfl d_Mo_layOne_99 ?_
      refine F_iald hX d_Mo_layOne_100 71 (by decide) hc71 (by omega) ?_
      refine G_top (show zI (ma i) = zI (pA P i) from congrArg zI hi.2.2) ?_
      refine G_iload_n hX 4 rfl rfl d_Mo_layOne_101 ?_
      refine F_callV hX (st := []) (c_Mo_modeFor E f F (pA P i) here R.1 R.2.1 hMo hmk hc78 hc79 (by omega) (by omega) hRh.1 hRh.2.1) cm_Mo_modeFor im_Mo_modeFor se_Mo_modeFor rfl ml_Mo_313 d_Mo_layOne_102 (by decide) hMo rfl rfl (Nat.le_of_ble_eq_true rfl) (by decide) ?_
      rintro _ f5 ⟨rfl, e8⟩
      obtain rfl := e8.symm
      refine G_cast (st' := [.int (zI (mdF R.1 R.2.1 4 3 (pA P i) here))]) ?_ rfl rfl rfl rfl
      refine G_istore hX (lv' := [(5, .int (zI (mdF R.1 R.2.1 4 3 (pA P i) here))), (4, .int (zI (pS P i))), (0, .ref (eA E 61)), (1, .int (zI i)), (2, .int (zI p)), (3, .int (zI here))]) (by decide) rfl d_Mo_layOne_105 ?_
      refine G_iload hX 1 rfl d_Mo_layOne_107 ?_
      refine G_iconst hX d_Mo_layOne_109 ?_
      refine G_icmp_lt_z hX (tgt := 124) d_Mo_layOne_110 rfl (by omega) (fun c9 => ?_) (fun c10 => ?_)
      · skip
        refine G_iconst hX d_Mo_layOne_124 ?_
        refine G_istore hX (lv' := [(6, .int (zI 0)), (5, .int (zI (mdF R.1 R.2.1 4 3 (pA P i) here))), (4, .int (zI (pS P i))), (0, .ref (eA E 61)), (1, .int (zI i)), (2, .int (zI p)), (3, .int (zI here))]) (by decide) rfl d_Mo_layOne_125 ?_
        refine G_aload_n hX 3 rfl rfl d_Mo_layOne_127 ?_
        refine G_iconst hX d_Mo_layOne_128 ?_
        refine G_bipush hX (by decide) d_Mo_layOne_129 ?_
        refine G_bipush hX (by decide) d_Mo_layOne_131 ?_
        refine G_iload hX 1 rfl d_Mo_layOne_133 ?_
        refine G_imul_z hX d_Mo_layOne_135 ?_
        refine G_iadd_z hX d_Mo_layOne_136 ?_
        refine G_iload hX 0 rfl d_Mo_layOne_137 ?_
        refine G_if_eq_z hX (tgt := 149) d_Mo_layOne_139 rfl (by omega) (fun c11 => ?_) (fun c12 => by exfalso; omega)
        refine G_iconst hX d_Mo_layOne_149 ?_
        refine G_iadd_z hX d_Mo_layOne_150 ?_
        refine F_callV hX (st := []) (c_Mo_lay1 E f F ((19 + (16 * (mdF R.1 R.2.1 4 3 (pA P i) here))) + 0) pt ps D C A hMo hmk hc76 hc77 hr (by first | omega | have hq1 := nbL_b (pS P i); simp only [List.length_append, List.length_cons, List.length_nil, Int.natCast_add, Int.natCast_one, Int.natCast_zero]; omega)) cm_Mo_lay im_Mo_lay se_Mo_lay rfl ml_Mo_301 d_Mo_layOne_151 (by decide) hMo rfl rfl (Nat.le_of_ble_eq_true rfl) (by decide) ?_
        rintro _ f13 ⟨rfl, pt'_16, ps'_17, h18, h19, p20, k21⟩
        refine G_cast (st' := []) ?_ rfl rfl rfl rfl
        refine G_iload hX 0 rfl d_Mo_layOne_154 ?_
        refine G_if_ne_z hX (tgt := 166) d_Mo_layOne_156 rfl (by omega) (fun c22 => by exfalso; omega) (fun c23 => ?_)
        refine G_aload_n hX 3 rfl rfl d_Mo_layOne_159 ?_
        refine G_iconst hX d_Mo_layOne_160 ?_
        refine G_iload hX 2 rfl d_Mo_layOne_161 ?_
        have h24 : f13 61 = mob F := (k21 61 (by decide)).trans hMo
        refine F_callV hX (st := []) (c_Mo_layNumber1 E f13 F (pS P i) pt'_16 ps'_17 D (C ++ [(19 + (16 * (mdF R.1 R.2.1 4 3 (pA P i) here))) + 0]) A h24 hmk h18 h19 p20 (by first | omega | have hq1 := nbL_b (pS P i); simp only [List.length_append, List.length_cons, List.length_nil, Int.natCast_add, Int.natCast_one, Int.natCast_zero]; omega) (by omega)) cm_Mo_layNumber im_Mo_layNumber se_Mo_layNumber rfl ml_Mo_304 d_Mo_layOne_163 (by decide) h24 rfl rfl (Nat.le_of_ble_eq_true rfl) (by decide) ?_
        rintro _ f25 ⟨rfl, pt'_28, ps'_29, h30, h31, p32, k33⟩
        refine G_cast (st' := []) ?_ rfl rfl rfl rfl
        refine G_aload_n hX 3 rfl rfl d_Mo_layOne_166 ?_
        refine G_aload_n hX 3 rfl rfl d_Mo_layOne_167 ?_
        have h34 : f25 61 = mob F := (k33 61 (by decide)).trans h24
        refine M_get hX fg_Mo_109 d_Mo_layOne_168 h34 (by decide) (hmk 16 71 (by decide)) ?_
        refine G_iload_n hX 4 rfl rfl d_Mo_layOne_171 ?_
        have h35 : f25 71 = iz E 700 ma := (k33 71 (by decide)).trans ((k21 71 (by decide)).trans hc71)
        refine F_iald hX d_Mo_layOne_172 71 (by decide) h35 (by omega) ?_
        refine G_top (show zI (ma i) = zI (pA P i) from congrArg zI hi.2.2) ?_
        refine G_iload hX 1 rfl d_Mo_layOne_173 ?_
        refine G_iload_n hX 6 rfl rfl d_Mo_layOne_175 ?_
        have h36 : f25 78 = iz E 8 R.1 := (k33 78 (by decide)).trans ((k21 78 (by decide)).trans hc78)
        have h37 : f25 79 = iz E 1024 R.2.1 := (k33 79 (by decide)).trans ((k21 79 (by decide)).trans hc79)
        refine F_callV hX (st := []) (c_Mo_layAddress E f25 F (pA P i) here R.2.2 R.1 R.2.1 pt'_28 ps'_29 D ((C ++ [(19 + (16 * (mdF R.1 R.2.1 4 3 (pA P i) here))) + 0]) ++ nbL (pS P i)) A h34 hmk hF25 hF26 hF27 h36 h37 h30 h31 p32 (by first | omega | have hq1 := nbL_b (pS P i); simp only [List.length_append, List.length_cons, List.length_nil, Int.natCast_add, Int.natCast_one, Int.natCast_zero]; omega) (by omega) (by omega) (by omega) hRh.1 hRh.2.1) cm_Mo_layAddress im_Mo_layAddress se_Mo_layAddress rfl ml_Mo_316 d_Mo_layOne_176 (by decide) h34 rfl rfl (Nat.le_of_ble_eq_true rfl) (by decide) ?_
        rintro _ f38 ⟨rfl, F41, pt'_42, ps'_43, h44, h45, k46, h47, h48, h49, h50, p51, k52⟩
        refine G_cast (st' := []) ?_ rfl rfl rfl rfl
        exact F_vret hX hE d_Mo_layOne_179 ⟨rfl, F41, (arN R (pA P i)), _, _, h44, h45, (FrF.tr FrF.rf k46 (by decide)), h49, h50, h47, h48, (if_pos ht3).symm, (by unfold gdI; rw [if_pos ht3, ht3, if_neg (by decide), if_neg (by decide), List.append_nil, c1L_3n (by omega), ← List.append_assoc]; simpa only [Int.add_zero] using p51), (Fr.tr (Fr.tr (Fr.tr Fr.rf k21 (by decide)) k33 (by decide)) k52 (by decide))⟩
      · skip
        refine G_iload hX 1 rfl d_Mo_layOne_113 ?_
        refine G_bipush hX (by decide) d_Mo_layOne_115 ?_
        refine G_icmp_gt_z hX (tgt := 124) d_Mo_layOne_117 rfl (by omega) (fun c53 => ?_) (fun c54 => ?_)
        · skip
          refine G_iconst hX d_Mo_layOne_124 ?_
          refine G_istore hX (lv' := [(6, .int (zI 0)), (5, .int (zI (mdF R.1 R.2.1 4 3 (pA P i) here))), (4, .int (zI (pS P i))), (0, .ref (eA E 61)), (1, .int (zI i)), (2, .int (zI p)), (3, .int (zI here))]) (by decide) rfl d_Mo_layOne_125 ?_
          refine G_aload_n hX 3 rfl rfl d_Mo_layOne_127 ?_
          refine G_iconst hX d_Mo_layOne_128 ?_
          refine G_bipush hX (by decide) d_Mo_layOne_129 ?_
          refine G_bipush hX (by decide) d_Mo_layOne_131 ?_
          refine G_iload hX 1 rfl d_Mo_layOne_133 ?_
          refine G_imul_z hX d_Mo_layOne_135 ?_
          refine G_iadd_z hX d_Mo_layOne_136 ?_
          refine G_iload hX 0 rfl d_Mo_layOne_137 ?_
          refine G_if_eq_z hX (tgt := 149) d_Mo_layOne_139 rfl (by omega) (fun c55 => ?_) (fun c56 => by exfalso; omega)
          refine G_iconst hX d_Mo_layOne_149 ?_
          refine G_iadd_z hX d_Mo_layOne_150 ?_
          refine F_callV hX (st := []) (c_Mo_lay1 E f F ((19 + (16 * (mdF R.1 R.2.1 4 3 (pA P i) here))) + 0) pt ps D C A hMo hmk hc76 hc77 hr (by first | omega | have hq1 := nbL_b (pS P i); simp only [List.length_append, List.length_cons, List.length_nil, Int.natCast_add, Int.natCast_one, Int.natCast_zero]; omega)) cm_Mo_lay im_Mo_lay se_Mo_lay rfl ml_Mo_301 d_Mo_layOne_151 (by decide) hMo rfl rfl (Nat.le_of_ble_eq_true rfl) (by decide) ?_
          rintro _ f57 ⟨rfl, pt'_60, ps'_61, h62, h63, p64, k65⟩
          refine G_cast (st' := []) ?_ rfl rfl rfl rfl
          refine G_iload hX 0 rfl d_Mo_layOne_154 ?_
          refine G_if_ne_z hX (tgt := 166) d_Mo_layOne_156 rfl (by omega) (fun c66 => by exfalso; omega) (fun c67 => ?_)
          refine G_aload_n hX 3 rfl rfl d_Mo_layOne_159 ?_
          refine G_iconst hX d_Mo_layOne_160 ?_
          refine G_iload hX 2 rfl d_Mo_layOne_161 ?_
          have h68 : f57 61 = mob F := (k65 61 (by decide)).trans hMo
          refine F_callV hX (st := []) (c_Mo_layNumber1 E f57 F (pS P i) pt'_60 ps'_61 D (C ++ [(19 + (16 * (mdF R.1 R.2.1 4 3 (pA P i) here))) + 0]) A h68 hmk h62 h63 p64 (by first | omega | have hq1 := nbL_b (pS P i); simp only [List.length_append, List.length_cons, List.length_nil, Int.natCast_add, Int.natCast_one, Int.natCast_zero]; omega) (by omega)) cm_Mo_layNumber im_Mo_layNumber se_Mo_layNumber rfl ml_Mo_304 d_Mo_layOne_163 (by decide) h68 rfl rfl (Nat.le_of_ble_eq_true rfl) (by decide) ?_
          rintro _ f69 ⟨rfl, pt'_72, ps'_73, h74, h75, p76, k77⟩
          refine G_cast (st' := []) ?_ rfl rfl rfl rfl
          refine G_aload_n hX 3 rfl rfl d_Mo_layOne_166 ?_
          refine G_aload_n hX 3 rfl rfl d_Mo_layOne_167 ?_
          have h78 : f69 61 = mob F := (k77 61 (by decide)).trans h68
          refine M_get hX fg_Mo_109 d_Mo_layOne_168 h78 (by decide) (hmk 16 71 (by decide)) ?_
          refine G_iload_n hX 4 rfl rfl d_Mo_layOne_171 ?_
          have h79 : f69 71 = iz E 700 ma := (k77 71 (by decide)).trans ((k65 71 (by decide)).trans hc71)
          refine F_iald hX d_Mo_layOne_172 71 (by decide) h79 (by omega) ?_
          refine G_top (show zI (ma i) = zI (pA P i) from congrArg zI hi.2.2) ?_
          refine G_iload hX 1 rfl d_Mo_layOne_173 ?_
          refine G_iload_n hX 6 rfl rfl d_Mo_layOne_175 ?_
          have h80 : f69 78 = iz E 8 R.1 := (k77 78 (by decide)).trans ((k65 78 (by decide)).trans hc78)
          have h81 : f69 79 = iz E 1024 R.2.1 := (k77 79 (by decide)).trans ((k65 79 (by decide)).trans hc79)
          refine F_callV hX (st := []) (c_Mo_layAddress E f69 F (pA P i) here R.2.2 R.1 R.2.1 pt'_72 ps'_73 D ((C ++ [(19 + (16 * (mdF R.1 R.2.1 4 3 (pA P i) here))) + 0]) ++ nbL (pS P i)) A h78 hmk hF25 hF26 hF27 h80 h81 h74 h75 p76 (by first | omega | have hq1 := nbL_b (pS P i); simp only [List.length_append, List.length_cons, List.length_nil, Int.natCast_add, Int.natCast_one, Int.natCast_zero]; omega) (by omega) (by omega) (by omega) hRh.1 hRh.2.1) cm_Mo_layAddress im_Mo_layAddress se_Mo_layAddress rfl ml_Mo_316 d_Mo_layOne_176 (by decide) h78 rfl rfl (Nat.le_of_ble_eq_true rfl) (by decide) ?_
          rintro _ f82 ⟨rfl, F85, pt'_86, ps'_87, h88, h89, k90, h91, h92, h93, h94, p95, k96⟩
          refine G_cast (st' := []) ?_ rfl rfl rfl rfl
          exact F_vret hX hE d_Mo_layOne_179 ⟨rfl, F85, (arN R (pA P i)), _, _, h88, h89, (FrF.tr FrF.rf k90 (by decide)), h93, h94, h91, h92, (if_pos ht3).symm, (by unfold gdI; rw [if_pos ht3, ht3, if_neg (by decide), if_neg (by decide), List.append_nil, c1L_3n (by omega), ← List.append_assoc]; simpa only [Int.add_zero] using p95), (Fr.tr (Fr.tr (Fr.tr Fr.rf k65 (by decide)) k77 (by decide)) k96 (by decide))⟩
        · skip
          refine G_iconst hX d_Mo_layOne_120 ?_
          refine G_goto hX (tgt := 125) d_Mo_layOne_121 rfl ?_
          refine G_istore hX (lv' := [(6, .int (zI 1)), (5, .int (zI (mdF R.1 R.2.1 4 3 (pA P i) here))), (4, .int (zI (pS P i))), (0, .ref (eA E 61)), (1, .int (zI i)), (2, .int (zI p)), (3, .int (zI here))]) (by decide) rfl d_Mo_layOne_125 ?_
          refine G_aload_n hX 3 rfl rfl d_Mo_layOne_127 ?_
          refine G_iconst hX d_Mo_layOne_128 ?_
          refine G_bipush hX (by decide) d_Mo_layOne_129 ?_
          refine G_bipush hX (by decide) d_Mo_layOne_131 ?_
          refine G_iload hX 1 rfl d_Mo_layOne_133 ?_
          refine G_imul_z hX d_Mo_layOne_135 ?_
          refine G_iadd_z hX d_Mo_layOne_136 ?_
          refine G_iload hX 0 rfl d_Mo_layOne_137 ?_
          refine G_if_eq_z hX (tgt := 149) d_Mo_layOne_139 rfl (by omega) (fun c97 => by exfalso; omega) (fun c98 => ?_)
          refine G_iload hX 2 rfl d_Mo_layOne_142 ?_
          refine G_iconst hX d_Mo_layOne_144 ?_
          refine G_isub_z hX d_Mo_layOne_145 ?_
          refine G_goto hX (tgt := 150) d_Mo_layOne_146 rfl ?_
          refine G_iadd_z hX d_Mo_layOne_150 ?_
          refine F_callV hX (st := []) (c_Mo_lay1 E f F ((19 + (16 * (mdF R.1 R.2.1 4 3 (pA P i) here))) + ((pS P i) - 3)) pt ps D C A hMo hmk hc76 hc77 hr (by first | omega | have hq1 := nbL_b (pS P i); simp only [List.length_append, List.length_cons, List.length_nil, Int.natCast_add, Int.natCast_one, Int.natCast_zero]; omega)) cm_Mo_lay im_Mo_lay se_Mo_lay rfl ml_Mo_301 d_Mo_layOne_151 (by decide) hMo rfl rfl (Nat.le_of_ble_eq_true rfl) (by decide) ?_
          rintro _ f99 ⟨rfl, pt'_102, ps'_103, h104, h105, p106, k107⟩
          refine G_cast (st' := []) ?_ rfl rfl rfl rfl
          refine G_iload hX 0 rfl d_Mo_layOne_154 ?_
          refine G_if_ne_z hX (tgt := 166) d_Mo_layOne_156 rfl (by omega) (fun c108 => ?_) (fun c109 => by exfalso; omega)
          refine G_aload_n hX 3 rfl rfl d_Mo_layOne_166 ?_
          refine G_aload_n hX 3 rfl rfl d_Mo_layOne_167 ?_
          have h110 : f99 61 = mob F := (k107 61 (by decide)).trans hMo
          refine M_get hX fg_Mo_109 d_Mo_layOne_168 h110 (by decide) (hmk 16 71 (by decide)) ?_
          refine G_iload_n hX 4 rfl rfl d_Mo_layOne_171 ?_
          have h111 : f99 71 = iz E 700 ma := (k107 71 (by decide)).trans hc71
          refine F_iald hX d_Mo_layOne_172 71 (by decide) h111 (by omega) ?_
          refine G_top (show zI (ma i) = zI (pA P i) from congrArg zI hi.2.2) ?_
          refine G_iload hX 1 rfl d_Mo_layOne_173 ?_
          refine G_iload_n hX 6 rfl rfl d_Mo_layOne_175 ?_
          have h112 : f99 78 = iz E 8 R.1 := (k107 78 (by decide)).trans hc78
          have h113 : f99 79 = iz E 1024 R.2.1 := (k107 79 (by decide)).trans hc79
          refine F_callV hX (st := []) (c_Mo_layAddress E f99 F (pA P i) here R.2.2 R.1 R.2.1 pt'_102 ps'_103 D (C ++ [(19 + (16 * (mdF R.1 R.2.1 4 3 (pA P i) here))) + ((pS P i) - 3)]) A h110 hmk hF25 hF26 hF27 h112 h113 h104 h105 p106 (by first | omega | have hq1 := nbL_b (pS P i); simp only [List.length_append, List.length_cons, List.length_nil, Int.natCast_add, Int.natCast_one, Int.natCast_zero]; omega) (by omega) (by omega) (by omega) hRh.1 hRh.2.1) cm_Mo_layAddress im_Mo_layAddress se_Mo_layAddress rfl ml_Mo_316 d_Mo_layOne_176 (by decide) h110 rfl rfl (Nat.le_of_ble_eq_true rfl) (by decide) ?_
          rintro _ f114 ⟨rfl, F117, pt'_118, ps'_119, h120, h121, k122, h123, h124, h125, h126, p127, k128⟩
          refine G_cast (st' := []) ?_ rfl rfl rfl rfl
          exact F_vret hX hE d_Mo_layOne_179 ⟨rfl, F117, (arN R (pA P i)), _, _, h120, h121, (FrF.tr FrF.rf k122 (by decide)), h125, h126, h123, h124, (if_pos ht3).symm, (by unfold gdI; rw [if_pos ht3, ht3, if_neg (by decide), if_neg (by decide), List.append_nil, c1L_3 (by omega)]; rw [show 19 + 16 * (mdF R.1 R.2.1 4 3 (pA P i) here) + pS P i - 3 = 19 + 16 * (mdF R.1 R.2.1 4 3 (pA P i) here) + (pS P i - 3) by omega]; exact p127), (Fr.tr (Fr.tr Fr.rf k107 (by decide)) k128 (by decide))⟩
    · skip
      refine G_aload_n hX 1 rfl rfl d_Mo_layOne_72 ?_
      refine G_iconst hX d_Mo_layOne_73 ?_
      refine G_iconst hX d_Mo_layOne_74 ?_
      refine F_callV hX (st := []) (c_Mo_lay1 E f F 0 pt ps D C A hMo hmk hc76 hc77 hr (by first | omega | have hq1 := nbL_b (pS P i); simp only [List.length_append, List.length_cons, List.length_nil, Int.natCast_add, Int.natCast_one, Int.natCast_zero]; omega)) cm_Mo_lay im_Mo_lay se_Mo_lay rfl ml_Mo_301 d_Mo_layOne_75 (by decide) hMo rfl rfl (Nat.le_of_ble_eq_true rfl) (by decide) ?_
      rintro _ f129 ⟨rfl, pt'_132, ps'_133, h134, h135, p136, k137⟩
      refine G_cast (st' := []) ?_ rfl rfl rfl rfl
      refine G_aload_n hX 1 rfl rfl d_Mo_layOne_78 ?_
      refine G_iconst hX d_Mo_layOne_79 ?_
      refine G_iload hX 0 rfl d_Mo_layOne_80 ?_
      have h138 : f129 61 = mob F := (k137 61 (by decide)).trans hMo
      refine F_callV hX (st := []) (c_Mo_layNumber1 E f129 F (pS P i) pt'_132 ps'_133 D (C ++ [0]) A h138 hmk h134 h135 p136 (by first | omega | have hq1 := nbL_b (pS P i); simp only [List.length_append, List.length_cons, List.length_nil, Int.natCast_add, Int.natCast_one, Int.natCast_zero]; omega) (by omega)) cm_Mo_layNumber im_Mo_layNumber se_Mo_layNumber rfl ml_Mo_304 d_Mo_layOne_82 (by decide) h138 rfl rfl (Nat.le_of_ble_eq_true rfl) (by decide) ?_
      rintro _ f139 ⟨rfl, pt'_142, ps'_143, h144, h145, p146, k147⟩
      refine G_cast (st' := []) ?_ rfl rfl rfl rfl
      refine G_aload_n hX 1 rfl rfl d_Mo_layOne_85 ?_
      refine G_iload_n hX 3 rfl rfl d_Mo_layOne_86 ?_
      refine G_iconst hX d_Mo_layOne_87 ?_
      have h148 : f139 61 = mob F := (k147 61 (by decide)).trans h138
      have h149 : f139 63 = iz E 1600 b := (k147 63 (by decide)).trans ((k137 63 (by decide)).trans hc63)
      refine F_callV hX (st := []) (c_Mo_layAdded E f139 F p 1 b gF pt'_142 ps'_143 D ((C ++ [0]) ++ nbL (pS P i)) A h148 hmk h149 h144 h145 p146 (by first | omega | have hq1 := nbL_b (pS P i); simp only [List.length_append, List.length_cons, List.length_nil, Int.natCast_add, Int.natCast_one, Int.natCast_zero]; omega) (by omega) (fun j h1 h2 => hag j (by omega) (by omega))) cm_Mo_layAdded im_Mo_layAdded se_Mo_layAdded rfl ml_Mo_310 d_Mo_layOne_88 (by decide) h148 rfl rfl (Nat.le_of_ble_eq_true rfl) (by decide) ?_
      rintro _ f150 ⟨rfl, pt'_153, ps'_154, h155, h156, p157, k158⟩
      refine G_cast (st' := []) ?_ rfl rfl rfl rfl
      refine G_goto hX (tgt := 179) d_Mo_layOne_91 rfl ?_
      have ht2 : pT P i = 2 := by omega
      have h159 : f150 61 = mob F := (k158 61 (by decide)).trans h148
      have h160 : f150 78 = iz E 8 R.1 := (k158 78 (by decide)).trans ((k147 78 (by decide)).trans ((k137 78 (by decide)).trans hc78))
      have h161 : f150 79 = iz E 1024 R.2.1 := (k158 79 (by decide)).trans ((k147 79 (by decide)).trans ((k137 79 (by decide)).trans hc79))
      exact F_vret hX hE d_Mo_layOne_179 ⟨rfl, F, R, _, _, h159, hF27, FrF.rf, h160, h161, h155, h156, (if_neg (by omega)).symm, (by unfold gdI; rw [ht2, if_neg (by decide), if_pos rfl, if_neg (by decide), List.append_nil, c1L_2, ← List.append_assoc]; have e9 : sl gF p (1 : Int).toNat = [gF p] := (by show [gF (p + 0)] = _; rw [Int.add_zero]); rw [← e9]; exact p157), (Fr.tr (Fr.tr (Fr.tr Fr.rf k137 (by decide)) k147 (by decide)) k158 (by decide))⟩
  · skip
    refine G_aload_n hX 1 rfl rfl d_Mo_layOne_18 ?_
    refine G_iconst hX d_Mo_layOne_19 ?_
    refine G_iload hX 0 rfl d_Mo_layOne_20 ?_
    refine G_bipush hX (by decide) d_Mo_layOne_22 ?_
    refine G_icmp_ge_z hX (tgt := 34) d_Mo_layOne_24 rfl (by omega) (fun c162 => ?_) (fun c163 => ?_)
    · skip
      refine G_iconst hX d_Mo_layOne_34 ?_
      refine F_callV hX (st := []) (c_Mo_lay1 E f F 1 pt ps D C A hMo hmk hc76 hc77 hr (by first | omega | have hq1 := nbL_b (pS P i); simp only [List.length_append, List.length_cons, List.length_nil, Int.natCast_add, Int.natCast_one, Int.natCast_zero]; omega)) cm_Mo_lay im_Mo_lay se_Mo_lay rfl ml_Mo_301 d_Mo_layOne_35 (by decide) hMo rfl rfl (Nat.le_of_ble_eq_true rfl) (by decide) ?_
      rintro _ f164 ⟨rfl, pt'_167, ps'_168, h169, h170, p171, k172⟩
      refine G_cast (st' := []) ?_ rfl rfl rfl rfl
      refine G_iload hX 0 rfl d_Mo_layOne_38 ?_
      refine G_bipush hX (by decide) d_Mo_layOne_40 ?_
      refine G_icmp_le_z hX (tgt := 52) d_Mo_layOne_42 rfl (by omega) (fun c173 => by exfalso; omega) (fun c174 => ?_)
      refine G_aload_n hX 1 rfl rfl d_Mo_layOne_45 ?_
      refine G_iconst hX d_Mo_layOne_46 ?_
      refine G_iload hX 0 rfl d_Mo_layOne_47 ?_
      have h175 : f164 61 = mob F := (k172 61 (by decide)).trans hMo
      refine F_callV hX (st := []) (c_Mo_layNumber1 E f164 F (pS P i) pt'_167 ps'_168 D (C ++ [1]) A h175 hmk h169 h170 p171 (by first | omega | have hq1 := nbL_b (pS P i); simp only [List.length_append, List.length_cons, List.length_nil, Int.natCast_add, Int.natCast_one, Int.natCast_zero]; omega) (by omega)) cm_Mo_layNumber im_Mo_layNumber se_Mo_layNumber rfl ml_Mo_304 d_Mo_layOne_49 (by decide) h175 rfl rfl (Nat.le_of_ble_eq_true rfl) (by decide) ?_
      rintro _ f176 ⟨rfl, pt'_179, ps'_180, h181, h182, p183, k184⟩
      refine G_cast (st' := []) ?_ rfl rfl rfl rfl
      refine G_aload_n hX 1 rfl rfl d_Mo_layOne_52 ?_
      refine G_iload_n hX 3 rfl rfl d_Mo_layOne_53 ?_
      refine G_iload hX 0 rfl d_Mo_layOne_54 ?_
      have h185 : f176 61 = mob F := (k184 61 (by decide)).trans h175
      have h186 : f176 63 = iz E 1600 b := (k184 63 (by decide)).trans ((k172 63 (by decide)).trans hc63)
      refine F_callV hX (st := []) (c_Mo_layAdded E f176 F p (pS P i) b gF pt'_179 ps'_180 D ((C ++ [1]) ++ nbL (pS P i)) A h185 hmk h186 h181 h182 p183 (by first | omega | have hq1 := nbL_b (pS P i); simp only [List.length_append, List.length_cons, List.length_nil, Int.natCast_add, Int.natCast_one, Int.natCast_zero]; omega) (by omega) (fun j h1 h2 => hag j (by omega) (by omega))) cm_Mo_layAdded im_Mo_layAdded se_Mo_layAdded rfl ml_Mo_310 d_Mo_layOne_56 (by decide) h185 rfl rfl (Nat.le_of_ble_eq_true rfl) (by decide) ?_
      rintro _ f187 ⟨rfl, pt'_190, ps'_191, h192, h193, p194, k195⟩
      refine G_cast (st' := []) ?_ rfl rfl rfl rfl
      refine G_goto hX (tgt := 179) d_Mo_layOne_59 rfl ?_
      have ht1 : pT P i = 1 := by omega
      have h196 : f187 61 = mob F := (k195 61 (by decide)).trans h185
      have h197 : f187 78 = iz E 8 R.1 := (k195 78 (by decide)).trans ((k184 78 (by decide)).trans ((k172 78 (by decide)).trans hc78))
      have h198 : f187 79 = iz E 1024 R.2.1 := (k195 79 (by decide)).trans ((k184 79 (by decide)).trans ((k172 79 (by decide)).trans hc79))
      exact F_vret hX hE d_Mo_layOne_179 ⟨rfl, F, R, _, _, h196, hF27, FrF.rf, h197, h198, h192, h193, (if_neg (by omega)).symm, (by unfold gdI; rw [if_pos ht1, ht1, if_neg (by decide), List.append_nil, c1L_1n (by omega), ← List.append_assoc]; exact p194), (Fr.tr (Fr.tr (Fr.tr Fr.rf k172 (by decide)) k184 (by decide)) k195 (by decide))⟩
    · skip
      refine G_iconst hX d_Mo_layOne_27 ?_
      refine G_iload hX 0 rfl d_Mo_layOne_28 ?_
      refine G_iadd_z hX d_Mo_layOne_30 ?_
      refine G_goto hX (tgt := 35) d_Mo_layOne_31 rfl ?_
      refine F_callV hX (st := []) (c_Mo_lay1 E f F (1 + (pS P i)) pt ps D C A hMo hmk hc76 hc77 hr (by first | omega | have hq1 := nbL_b (pS P i); simp only [List.length_append, List.length_cons, List.length_nil, Int.natCast_add, Int.natCast_one, Int.natCast_zero]; omega)) cm_Mo_lay im_Mo_lay se_Mo_lay rfl ml_Mo_301 d_Mo_layOne_35 (by decide) hMo rfl rfl (Nat.le_of_ble_eq_true rfl) (by decide) ?_
      rintro _ f199 ⟨rfl, pt'_202, ps'_203, h204, h205, p206, k207⟩
      refine G_cast (st' := []) ?_ rfl rfl rfl rfl
      refine G_iload hX 0 rfl d_Mo_layOne_38 ?_
      refine G_bipush hX (by decide) d_Mo_layOne_40 ?_
      refine G_icmp_le_z hX (tgt := 52) d_Mo_layOne_42 rfl (by omega) (fun c208 => ?_) (fun c209 => by exfalso; omega)
      refine G_aload_n hX 1 rfl rfl d_Mo_layOne_52 ?_
      refine G_iload_n hX 3 rfl rfl d_Mo_layOne_53 ?_
      refine G_iload hX 0 rfl d_Mo_layOne_54 ?_
      have h210 : f199 61 = mob F := (k207 61 (by decide)).trans hMo
      have h211 : f199 63 = iz E 1600 b := (k207 63 (by decide)).trans hc63
      refine F_callV hX (st := []) (c_Mo_layAdded E f199 F p (pS P i) b gF pt'_202 ps'_203 D (C ++ [1 + (pS P i)]) A h210 hmk h211 h204 h205 p206 (by first | omega | have hq1 := nbL_b (pS P i); simp only [List.length_append, List.length_cons, List.length_nil, Int.natCast_add, Int.natCast_one, Int.natCast_zero]; omega) (by omega) (fun j h1 h2 => hag j (by omega) (by omega))) cm_Mo_layAdded im_Mo_layAdded se_Mo_layAdded rfl ml_Mo_310 d_Mo_layOne_56 (by decide) h210 rfl rfl (Nat.le_of_ble_eq_true rfl) (by decide) ?_
      rintro _ f212 ⟨rfl, pt'_215, ps'_216, h217, h218, p219, k220⟩
      refine G_cast (st' := []) ?_ rfl rfl rfl rfl
      refine G_goto hX (tgt := 179) d_Mo_layOne_59 rfl ?_
      have ht1 : pT P i = 1 := by omega
      have h221 : f212 61 = mob F := (k220 61 (by decide)).trans h210
      have h222 : f212 78 = iz E 8 R.1 := (k220 78 (by decide)).trans ((k207 78 (by decide)).trans hc78)
      have h223 : f212 79 = iz E 1024 R.2.1 := (k220 79 (by decide)).trans ((k207 79 (by decide)).trans hc79)
      exact F_vret hX hE d_Mo_layOne_179 ⟨rfl, F, R, _, _, h221, hF27, FrF.rf, h222, h223, h217, h218, (if_neg (by omega)).symm, (by unfold gdI; rw [if_pos ht1, ht1, if_neg (by decide), List.append_nil, c1L_1 (by omega)]; exact p219), (Fr.tr (Fr.tr Fr.rf k207 (by decide)) k220 (by decide))⟩
