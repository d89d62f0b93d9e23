/-! DeltaFerryModel: encode; printed by wip/tools/m_mo10.py -/
theorem wnL_len {P : PS} {w s : Int} {g : Int → Int} {c num a ck n x : Int} (hn : n = if w ≤ c - num * w then w else c - num * w) (hl : ((gdL P g (wnE P num a - a).toNat a).length : Int) ≤ x ∧ ((cdL P (mdI P a s) (wnE P num a) (wnE P num a - a).toNat a).length : Int) ≤ 3 * x ∧ ((adL P a s (wnE P num a - a).toNat a).length : Int) ≤ 2 * x) (hs : s ≤ 300) (hx : x ≤ 300) (hn2 : n ≤ 300) : ((wnL P w s g c num a ck).length : Int) ≤ 6 * x + 30 := by
  unfold wnL
  rw [← hn]
  have h1 := wsL_len (so := s) (ck := ck) (by omega)
  have h2 := hdL_len (sz := n) (ck := ck) (v := adV g (num * w) n) (cd := (gdL P g (wnE P num a - a).toNat a).length) (cc := (cdL P (mdI P a s) (wnE P num a) (wnE P num a - a).toNat a).length) (ca := (adL P a s (wnE P num a - a).toNat a).length) (by omega)
  simp only [List.length_append, Int.natCast_add, nbL_len]
  have h3 := wid_b (((hdL n ck (adV g (num * w) n) ((gdL P g (wnE P num a - a).toNat a).length) ((cdL P (mdI P a s) (wnE P num a) (wnE P num a - a).toNat a).length) ((adL P a s (wnE P num a - a).toNat a).length)).length : Int) + (gdL P g (wnE P num a - a).toNat a).length + (cdL P (mdI P a s) (wnE P num a) (wnE P num a - a).toNat a).length + (adL P a s (wnE P num a - a).toNat a).length)
  omega
theorem c_Mo_encode0 (E : EV) (f : Nat → va_E) (F : Nat → Value) (P : PS) (w : Int) (s : Int) (b : Int → Int) (sz : Int → Int) (gF : Int → Int) (mt : Int → Int) (ms : Int → Int) (ma : Int → Int) (mn : Int → Int) (nr : Int → Int) (sm : Int → Int) (pt : Int → Int) (ps : Int → Int) (dr : Int → Int) (hMo : f 61 = mob F) (hmk : moK E F) (hF11 : F 11 = .int (zI (pC P))) (hF12 : F 12 = .int (zI s)) (hF13 : F 13 = .int (zI w)) (hc63 : f 63 = iz E 1600 b) (hc64 : f 64 = iz E 4 sz) (hc69 : f 69 = iz E 700 mt) (hc70 : f 70 = iz E 700 ms) (hc71 : f 71 = iz E 700 ma) (hc72 : f 72 = iz E 700 mn) (hc78 : f 78 = iz E 8 nr) (hc79 : f 79 = iz E 1024 sm) (hc76 : f 76 = iz E 3 ps) (hc77 : f 77 = iz E 3000 pt) (hc75 : f 75 = iz E 3000 dr) (hsz : ∀ k, 0 ≤ k → k ≤ 3 → 0 ≤ sz k ∧ sz k ≤ (if k = 2 then 700 else 300)) (hpe : plE mt ms ma mn P) (hPB : plB P) (hW : plW P w (sz 1)) (hw : 16 ≤ w ∧ w ≤ 256) (hs : 0 ≤ s ∧ s ≤ 300) (hG : isB gF) (hag : ∀ j, 0 ≤ j → j < sz 1 → b (300 + j) = gF j) (hlg : ((enF P w s gF (sz 1) 0).length : Int) ≤ 700) : CF yn_Mo_encode cd_Mo_encode 4 (some (.int)) 5 E [.ref (eA E 61), .int (zI 0)] f (fun r f' => r = some (.int (zI ((enF P w s gF (sz 1) 0).length : Int))) ∧ ∃ (F' : Nat → Value) (nr' : Int → Int) (sm' : Int → Int) (pt' : Int → Int) (ps' : Int → Int) (dr' : Int → Int) (b' : Int → Int), f' 61 = mob F' ∧ FrF [21, 25, 26, 27] F F' ∧ f' 78 = iz E 8 nr' ∧ f' 79 = iz E 1024 sm' ∧ f' 76 = iz E 3 ps' ∧ f' 77 = iz E 3000 pt' ∧ f' 75 = iz E 3000 dr' ∧ f' 63 = iz E 1600 b' ∧ f' 64 = iz E 4 (uz sz 2 ((enF P w s gF (sz 1) 0).length : Int)) ∧ (rep (fun k => b' (600 + k)) ((enF P w s gF (sz 1) 0).length : Int) (enF P w s gF (sz 1) 0)) ∧ (∀ j, j < 600 ∨ 600 + ((enF P w s gF (sz 1) 0).length : Int) ≤ j → b' j = b j) ∧ Fr [78, 79, 76, 77, 75, 63, 64, 61] f f') := by
  refine CF.of (by decide +kernel) (Nat.le_of_ble_eq_true rfl) fun X hX hE => ?_
  have hX : Ok E X "DeltaFerryModel" "encode" cd_Mo_encode 4 (some (.int)) (rl 5) := hX
  refine G_cast (lv' := [(0, .ref (eA E 61)), (1, .int (zI 0))]) ?_ rfl rfl rfl rfl
  have hsz1 := hsz 1 (by decide) (by decide)
  rw [if_neg (by decide)] at hsz1
  have hWc := hW.1
  refine G_aload_n hX 0 rfl rfl d_Mo_encode_0 ?_
  refine M_get hX fg_Mo_100 d_Mo_encode_1 hMo (by decide) hF11 ?_
  refine G_if_ge_z hX (tgt := 9) d_Mo_encode_4 rfl (by omega) (fun c1 => ?_) (fun c2 => by exfalso; omega)
  refine G_aload_n hX 0 rfl rfl d_Mo_encode_9 ?_
  refine F_callV hX (st := []) (c_Mo_writeHead E f F dr hMo hmk hc75) cm_Mo_writeHead im_Mo_writeHead se_Mo_writeHead rfl ml_Mo_335 d_Mo_encode_10 (by decide) hMo rfl rfl (Nat.le_of_ble_eq_true rfl) (by decide) ?_
  rintro _ f3 ⟨rfl, F6, nd'_7, dr'_8, h9, h10, k11, h12, p13, k14⟩
  refine G_cast (st' := []) ?_ rfl rfl rfl rfl
  refine G_iconst hX d_Mo_encode_13 ?_
  refine G_istore_n hX (lv' := [(2, .int (zI 0)), (0, .ref (eA E 61)), (1, .int (zI 0))]) rfl (by decide) rfl d_Mo_encode_14 ?_
  refine G_iconst hX d_Mo_encode_15 ?_
  refine G_istore_n hX (lv' := [(3, .int (zI 0)), (2, .int (zI 0)), (0, .ref (eA E 61)), (1, .int (zI 0))]) rfl (by decide) rfl d_Mo_encode_16 ?_
  have loop18 : ∀ (q : Nat) (num : Int) (a : Int) (k : Nat) (L : List Int) (nd1 : Int) (dr1 : Int → Int) (nr1 : Int → Int) (sm1 : Int → Int) (pt1 : Int → Int) (ps1 : Int → Int) (F15 : Nat → Value) (f19 : Nat → va_E), (sz 1 - num * w).toNat < q → (0 ≤ num ∧ sz 1 - num * w ≤ k ∧ num * w ≤ 600) → (0 ≤ a ∧ a ≤ pC P) → (num * w = psI P a ∨ sz 1 ≤ num * w) → (enF P w s gF (sz 1) 0 = L ++ enL P w s gF (sz 1) 0 k num a) → (rep dr1 nd1 L) → ((L.length : Int) ≤ 6 * (if num * w ≤ sz 1 then num * w else sz 1) + 30 * num + 5) → (F15 21 = .int (zI nd1)) → (FrF [21, 25, 26, 27] F6 F15) → f19 75 = iz E 3000 dr1 → f19 78 = iz E 8 nr1 → f19 79 = iz E 1024 sm1 → f19 77 = iz E 3000 pt1 → f19 76 = iz E 3 ps1 → f19 61 = mob F15 → Fr [75, 76, 77, 78, 79, 61] f3 f19 → G E X 0 0 17 [(0, .ref (eA E 61)), (1, .int (zI 0)), (2, .int (zI a)), (3, .int (zI (num * w)))] [] (wl E f19) := by
    intro q
    induction q with
    | zero => intro num a k L nd1 dr1 nr1 sm1 pt1 ps1 F15 f19 hms21; exact absurd hms21 (Nat.not_lt_zero _)
    | succ q ih22 =>
      intro num a k L nd1 dr1 nr1 sm1 pt1 ps1 F15 f19 hms21 hn ha hx hL hr1 hln h16 k17 h23 h24 h25 h26 h27 h28 k20
      have hn0 : 0 ≤ num * w := Int.mul_nonneg hn.1 (by omega)
      have hn16 : num * 16 ≤ num * w := Int.mul_le_mul_of_nonneg_left (by omega) hn.1
      have hnx : (num + 1) * w = num * w + w := by rw [Int.add_mul, Int.one_mul]
      refine G_iload_n hX 3 rfl rfl d_Mo_encode_17 ?_
      refine G_aload_n hX 0 rfl rfl d_Mo_encode_18 ?_
      have h29 : F15 2 = .ref (eA E 64) := (k17 2 (by decide)).trans ((k11 2 (by decide)).trans (hmk 2 64 (by decide)))
      refine M_get hX fg_Mo_81 d_Mo_encode_19 h28 (by decide) h29 ?_
      refine G_iconst hX d_Mo_encode_22 ?_
      have h30 : f19 64 = iz E 4 sz := (k20 64 (by decide)).trans ((k14 64 (by decide)).trans hc64)
      refine F_iald hX d_Mo_encode_23 64 (by decide) h30 (by omega) ?_
      refine G_icmp_ge_z hX (tgt := 80) d_Mo_encode_24 rfl (by omega) (fun c31 => ?_) (fun c32 => ?_)
      · skip
        rw [enL_e (by omega), List.append_nil] at hL
        have hnd : nd1 = ((enF P w s gF (sz 1) 0).length : Int) := by rw [hL]; exact hr1.1
        have hnd2 : nd1 = (L.length : Int) := hr1.1
        have hnum : num ≤ 37 := by omega
        have hln2 : (L.length : Int) ≤ 6 * sz 1 + 30 * num + 5 := by split at hln <;> omega
        refine G_aload_n hX 0 rfl rfl d_Mo_encode_80 ?_
        refine M_get hX fg_Mo_292 d_Mo_encode_81 h28 (by decide) h16 ?_
        refine G_sipush hX (by decide) d_Mo_encode_84 ?_
        refine G_icmp_le_z hX (tgt := 93) d_Mo_encode_87 rfl (by omega) (fun c33 => ?_) (fun c34 => by exfalso; omega)
        refine G_iconst hX d_Mo_encode_93 ?_
        refine G_istore_n hX (lv' := [(3, .int (zI 0)), (0, .ref (eA E 61)), (1, .int (zI 0)), (2, .int (zI a))]) rfl (by decide) rfl d_Mo_encode_94 ?_
        have loop35 : ∀ (q : Nat) (j : Int) (b1 : Int → Int) (f36 : Nat → va_E), (nd1 - j).toNat < q → (0 ≤ j ∧ j ≤ nd1) → ((∀ i, 0 ≤ i → i < j → b1 (600 + i) = dr1 i) ∧ ∀ i, i < 600 ∨ 600 + j ≤ i → b1 i = b i) → f36 63 = iz E 1600 b1 → Fr [63] f19 f36 → G E X 0 0 95 [(0, .ref (eA E 61)), (3, .int (zI j))] [] (wl E f36) := by
          intro q
          induction q with
          | zero => intro j b1 f36 hms38; exact absurd hms38 (Nat.not_lt_zero _)
          | succ q ih39 =>
            intro j b1 f36 hms38 hj hb1 h40 k37
            refine G_iload_n hX 1 rfl rfl d_Mo_encode_95 ?_
            refine G_aload_n hX 0 rfl rfl d_Mo_encode_96 ?_
            have h41 : f36 61 = mob F15 := (k37 61 (by decide)).trans h28
            refine M_get hX fg_Mo_292 d_Mo_encode_97 h41 (by decide) h16 ?_
            refine G_icmp_ge_z hX (tgt := 125) d_Mo_encode_100 rfl (by omega) (fun c42 => ?_) (fun c43 => ?_)
            · skip
              refine G_aload_n hX 0 rfl rfl d_Mo_encode_125 ?_
              refine M_get hX fg_Mo_81 d_Mo_encode_126 h41 (by decide) h29 ?_
              refine G_iconst hX d_Mo_encode_129 ?_
              refine G_aload_n hX 0 rfl rfl d_Mo_encode_130 ?_
              refine M_get hX fg_Mo_292 d_Mo_encode_131 h41 (by decide) h16 ?_
              have h44 : f36 64 = iz E 4 sz := (k37 64 (by decide)).trans h30
              refine F_iast hX d_Mo_encode_134 64 (by decide) h44 (by omega) (fun f45 h46 k47 => ?_)
              refine G_aload_n hX 0 rfl rfl d_Mo_encode_135 ?_
              have h48 : f45 61 = mob F15 := (k47 61 (by decide)).trans h41
              refine M_get hX fg_Mo_292 d_Mo_encode_136 h48 (by decide) h16 ?_
              obtain rfl : j = nd1 := by omega
              rw [← hL] at hr1
              have h49 : f45 78 = iz E 8 nr1 := (k47 78 (by decide)).trans ((k37 78 (by decide)).trans h24)
              have h50 : f45 79 = iz E 1024 sm1 := (k47 79 (by decide)).trans ((k37 79 (by decide)).trans h25)
              have h51 : f45 76 = iz E 3 ps1 := (k47 76 (by decide)).trans ((k37 76 (by decide)).trans h27)
              have h52 : f45 77 = iz E 3000 pt1 := (k47 77 (by decide)).trans ((k37 77 (by decide)).trans h26)
              have h53 : f45 75 = iz E 3000 dr1 := (k47 75 (by decide)).trans ((k37 75 (by decide)).trans h23)
              have h54 : f45 63 = iz E 1600 b1 := (k47 63 (by decide)).trans h40
              exact F_iret hX hE d_Mo_encode_139 ⟨by rw [← hnd], F15, _, _, _, _, _, _, h48, (FrF.tr (FrF.tr FrF.rf k11 (by decide)) k17 (by decide)), h49, h50, h51, h52, h53, h54, (by rw [← hnd]; exact h46), ⟨rfl, fun k hk => by rw [← hr1.2 k hk]; exact hb1.1 k (by omega) (by have := hr1.1; omega)⟩, (fun i h1 => hb1.2 i (by omega)), (Fr.tr (Fr.tr (Fr.tr (Fr.tr Fr.rf k14 (by decide)) k20 (by decide)) k37 (by decide)) k47 (by decide))⟩
            · skip
              refine G_aload_n hX 0 rfl rfl d_Mo_encode_103 ?_
              have h55 : F15 1 = .ref (eA E 63) := (k17 1 (by decide)).trans ((k11 1 (by decide)).trans (hmk 1 63 (by decide)))
              refine M_get hX fg_Mo_77 d_Mo_encode_104 h41 (by decide) h55 ?_
              refine G_sipush hX (by decide) d_Mo_encode_107 ?_
              refine G_iload_n hX 1 rfl rfl d_Mo_encode_110 ?_
              refine G_iadd_z hX d_Mo_encode_111 ?_
              refine G_aload_n hX 0 rfl rfl d_Mo_encode_112 ?_
              have h56 : F15 22 = .ref (eA E 75) := (k17 22 (by decide)).trans ((k11 22 (by decide)).trans (hmk 22 75 (by decide)))
              refine M_get hX fg_Mo_121 d_Mo_encode_113 h41 (by decide) h56 ?_
              refine G_iload_n hX 1 rfl rfl d_Mo_encode_116 ?_
              have h57 : f36 75 = iz E 3000 dr1 := (k37 75 (by decide)).trans h23
              refine F_iald hX d_Mo_encode_117 75 (by decide) h57 (by omega) ?_
              refine F_iast hX d_Mo_encode_118 63 (by decide) h40 (by omega) (fun f58 h59 k60 => ?_)
              refine G_iinc_z hX (lv' := [(3, .int (zI (j + 1))), (0, .ref (eA E 61))]) 1 rfl (by decide) rfl d_Mo_encode_119 ?_
              refine G_goto hX (tgt := 95) d_Mo_encode_122 rfl ?_
              refine G_loc (lv' := [(0, .ref (eA E 61)), (3, .int (zI (j + 1)))]) [1, 0] rfl ?_
              exact ih39 (j + 1) (uz b1 (600 + j) (dr1 j)) f58 (by omega) (by omega) (by refine ⟨fun i h1 h2 => ?_, fun i h1 => ?_⟩; (by_cases q9 : i = j; (rw [q9]; exact if_pos rfl); exact (if_neg (by omega)).trans (hb1.1 i h1 (by omega))); exact (if_neg (by omega)).trans (hb1.2 i (by omega))) h59 (Fr.tr (Fr.tr Fr.rf k37 (by decide)) k60 (by decide))
        have h61 : f19 63 = iz E 1600 b := (k20 63 (by decide)).trans ((k14 63 (by decide)).trans hc63)
        refine G_loc (lv' := [(0, .ref (eA E 61)), (3, .int (zI 0))]) [1, 0] rfl ?_
        exact loop35 (_ + 1) 0 b f19 (Nat.lt_succ_self _) (by omega) ⟨fun i h1 h2 => by omega, fun i _ => rfl⟩ h61 Fr.rf
      · skip
        have hxe : num * w = psI P a := by rcases hx with h9 | h9; exact h9; omega
        have hok := wnOK_of hW hw hsz1.2 ha hxe hn0
        have hsw := wnOK_sz hW hw hsz1.2 ha hxe (by omega)
        have hwb := wnE_b (P := P) (num := num) ha.2
        have hst := hL.trans (congrArg (fun q => L ++ q) (enL_s (by omega) hn.2.1))
        obtain ⟨n, hnn⟩ : ∃ n, n = (if w ≤ sz 1 - num * w then w else sz 1 - num * w) := ⟨_, rfl⟩
        have hnb : 0 < n ∧ n ≤ w ∧ n ≤ sz 1 - num * w := by rw [hnn]; split <;> omega
        rw [← hnn] at hsw
        rw [if_pos (by omega)] at hln
        refine G_aload_n hX 0 rfl rfl d_Mo_encode_27 ?_
        refine G_iload_n hX 2 rfl rfl d_Mo_encode_28 ?_
        refine G_iload_n hX 3 rfl rfl d_Mo_encode_29 ?_
        have h62 : F15 12 = .int (zI s) := (k17 12 (by decide)).trans ((k11 12 (by decide)).trans hF12)
        have h63 : F15 13 = .int (zI w) := (k17 13 (by decide)).trans ((k11 13 (by decide)).trans hF13)
        have h64 : F15 11 = .int (zI (pC P)) := (k17 11 (by decide)).trans ((k11 11 (by decide)).trans hF11)
        have h65 : f19 63 = iz E 1600 b := (k20 63 (by decide)).trans ((k14 63 (by decide)).trans hc63)
        have h66 : f19 69 = iz E 700 mt := (k20 69 (by decide)).trans ((k14 69 (by decide)).trans hc69)
        have h67 : f19 70 = iz E 700 ms := (k20 70 (by decide)).trans ((k14 70 (by decide)).trans hc70)
        have h68 : f19 71 = iz E 700 ma := (k20 71 (by decide)).trans ((k14 71 (by decide)).trans hc71)
        have h69 : f19 72 = iz E 700 mn := (k20 72 (by decide)).trans ((k14 72 (by decide)).trans hc72)
        refine F_callV hX (st := []) (c_Mo_layWindow E f19 F15 a (num * w) P num w s (sz 1) b gF mt ms ma mn nr1 sm1 pt1 ps1 h28 (moK_fr hmk (FrF.tr (FrF.tr (FrF.rf (S := [21, 25, 26, 27])) k11 (by decide)) k17 (by decide)) (by decide)) h64 h62 h63 h65 h66 h67 h68 h69 h24 h25 h27 h26 hpe hPB hok (by omega) (by omega) ⟨rfl, by omega⟩ (by omega) hag) cm_Mo_layWindow im_Mo_layWindow se_Mo_layWindow rfl ml_Mo_338 d_Mo_encode_30 (by decide) h28 rfl rfl (Nat.le_of_ble_eq_true rfl) (by decide) ?_
        rintro _ f70 ⟨rfl, F73, nr'_74, sm'_75, pt'_76, ps'_77, h78, k79, h80, h81, h82, h83, p84, p85, k86⟩
        refine G_cast (st' := [.int (zI (wnE P num a))]) ?_ rfl rfl rfl rfl
        refine G_istore_n hX (lv' := [(2, .int (zI (wnE P num a))), (0, .ref (eA E 61)), (1, .int (zI 0)), (3, .int (zI (num * w)))]) rfl (by decide) rfl d_Mo_encode_33 ?_
        refine G_aload_n hX 1 rfl rfl d_Mo_encode_34 ?_
        refine G_iload_n hX 3 rfl rfl d_Mo_encode_35 ?_
        refine G_aload_n hX 1 rfl rfl d_Mo_encode_36 ?_
        have h87 : F73 13 = .int (zI w) := (k79 13 (by decide)).trans h63
        refine M_get hX fg_Mo_246 d_Mo_encode_37 h78 (by decide) h87 ?_
        refine G_iadd_z hX d_Mo_encode_40 ?_
        refine G_aload_n hX 1 rfl rfl d_Mo_encode_41 ?_
        have h88 : F73 2 = .ref (eA E 64) := (k79 2 (by decide)).trans h29
        refine M_get hX fg_Mo_81 d_Mo_encode_42 h78 (by decide) h88 ?_
        refine G_iconst hX d_Mo_encode_45 ?_
        have h89 : f70 64 = iz E 4 sz := (k86 64 (by decide)).trans h30
        refine F_iald hX d_Mo_encode_46 64 (by decide) h89 (by omega) ?_
        refine G_icmp_ge_z hX (tgt := 57) d_Mo_encode_47 rfl (by omega) (fun c90 => ?_) (fun c91 => ?_)
        · skip
          refine G_aload_n hX 1 rfl rfl d_Mo_encode_57 ?_
          refine M_get hX fg_Mo_81 d_Mo_encode_58 h78 (by decide) h88 ?_
          refine G_iconst hX d_Mo_encode_61 ?_
          refine F_iald hX d_Mo_encode_62 64 (by decide) h89 (by omega) ?_
          refine G_iload_n hX 3 rfl rfl d_Mo_encode_63 ?_
          refine G_isub_z hX d_Mo_encode_64 ?_
          refine G_top (show zI ((sz 1) - (num * w)) = zI n from congrArg zI (by rw [hnn]; split <;> omega)) ?_
          have hl3 := p85
          rw [hsw] at hl3
          refine G_iload_n hX 3 rfl rfl d_Mo_encode_65 ?_
          refine G_iload_n hX 2 rfl rfl d_Mo_encode_66 ?_
          have h92 : F73 12 = .int (zI s) := (k79 12 (by decide)).trans h62
          have h93 : F73 21 = .int (zI nd1) := (k79 21 (by decide)).trans h16
          have h94 : f70 63 = iz E 1600 b := (k86 63 (by decide)).trans h65
          have h95 : f70 75 = iz E 3000 dr1 := (k86 75 (by decide)).trans h23
          refine F_callV hX (st := []) (c_Mo_writeWindow0 E f70 F73 n (num * w) s b gF pt'_76 ps'_77 (gdL P gF (wnE P num a - a).toNat a) (cdL P (mdI P a s) (wnE P num a) (wnE P num a - a).toNat a) (adL P a s (wnE P num a - a).toNat a) nd1 dr1 L h78 (moK_fr hmk (FrF.tr (FrF.tr (FrF.tr (FrF.rf (S := [21, 25, 26, 27])) k11 (by decide)) k17 (by decide)) k79 (by decide)) (by decide)) h92 h93 h94 h82 h83 h95 p84 (by omega) (by omega) hr1 (by omega) (by omega) hG (fun j h1 h2 => hag j h1 (by omega))) cm_Mo_writeWindow im_Mo_writeWindow se_Mo_writeWindow rfl ml_Mo_341 d_Mo_encode_67 (by decide) h78 rfl rfl (Nat.le_of_ble_eq_true rfl) (by decide) ?_
          rintro _ f96 ⟨rfl, F99, nd'_100, dr'_101, h102, h103, k104, h105, p106, k107⟩
          refine G_cast (st' := []) ?_ rfl rfl rfl rfl
          refine G_iload_n hX 3 rfl rfl d_Mo_encode_70 ?_
          refine G_aload_n hX 1 rfl rfl d_Mo_encode_71 ?_
          have h108 : F99 13 = .int (zI w) := (k104 13 (by decide)).trans h87
          refine M_get hX fg_Mo_246 d_Mo_encode_72 h102 (by decide) h108 ?_
          refine G_iadd_z hX d_Mo_encode_75 ?_
          refine G_istore_n hX (lv' := [(3, .int (zI ((num * w) + w))), (2, .int (zI (wnE P num a))), (0, .ref (eA E 61)), (1, .int (zI 0))]) rfl (by decide) rfl d_Mo_encode_76 ?_
          refine G_goto hX (tgt := 17) d_Mo_encode_77 rfl ?_
          have hwl := wnL_len (ck := 0) hnn hl3 hs.2 (by omega) (by omega)
          have h109 : f96 78 = iz E 8 nr'_74 := (k107 78 (by decide)).trans h80
          have h110 : f96 79 = iz E 1024 sm'_75 := (k107 79 (by decide)).trans h81
          have h111 : f96 77 = iz E 3000 pt'_76 := (k107 77 (by decide)).trans h83
          have h112 : f96 76 = iz E 3 ps'_77 := (k107 76 (by decide)).trans h82
          refine G_loc (lv' := [(0, .ref (eA E 61)), (1, .int (zI 0)), (2, .int (zI (wnE P num a))), (3, .int (zI ((num * w) + w)))]) [2, 3, 1, 0] rfl ?_
          refine G_cast (ih22 (num + 1) (wnE P num a) (k - 1) (L ++ wnL P w s gF (sz 1) num a 0) nd'_100 dr'_101 nr'_74 sm'_75 pt'_76 ps'_77 F99 f96 (by rw [hnx]; omega) (by rw [hnx]; omega) (by omega) (by rw [hnx, hsw]; by_cases q9 : w ≤ sz 1 - num * w; exact Or.inl (by rw [hnn, if_pos q9]); exact Or.inr (by omega)) (by rw [List.append_assoc]; exact hst) (by unfold wnL; rw [← hnn]; exact p106) (by rw [hnx, List.length_append, Int.natCast_add]; have q8 : n = (if num * w + w ≤ sz 1 then num * w + w else sz 1) - num * w := (by rw [hnn]; split <;> split <;> omega); omega) h103 (FrF.tr (FrF.tr (FrF.tr FrF.rf k17 (by decide)) k79 (by decide)) k104 (by decide)) h105 h109 h110 h111 h112 h102 (Fr.tr (Fr.tr (Fr.tr Fr.rf k20 (by decide)) k86 (by decide)) k107 (by decide))) rfl (by rw [hnx]) rfl rfl
        · skip
          refine G_aload_n hX 1 rfl rfl d_Mo_encode_50 ?_
          refine M_get hX fg_Mo_246 d_Mo_encode_51 h78 (by decide) h87 ?_
          refine G_goto hX (tgt := 65) d_Mo_encode_54 rfl ?_
          refine G_top (show zI w = zI n from congrArg zI (by rw [hnn]; split <;> omega)) ?_
          have hl3 := p85
          rw [hsw] at hl3
          refine G_iload_n hX 3 rfl rfl d_Mo_encode_65 ?_
          refine G_iload_n hX 2 rfl rfl d_Mo_encode_66 ?_
          have h113 : F73 12 = .int (zI s) := (k79 12 (by decide)).trans h62
          have h114 : F73 21 = .int (zI nd1) := (k79 21 (by decide)).trans h16
          have h115 : f70 63 = iz E 1600 b := (k86 63 (by decide)).trans h65
          have h116 : f70 75 = iz E 3000 dr1 := (k86 75 (by decide)).trans h23
          refine F_callV hX (st := []) (c_Mo_writeWindow0 E f70 F73 n (num * w) s b gF pt'_76 ps'_77 (gdL P gF (wnE P num a - a).toNat a) (cdL P (mdI P a s) (wnE P num a) (wnE P num a - a).toNat a) (adL P a s (wnE P num a - a).toNat a) nd1 dr1 L h78 (moK_fr hmk (FrF.tr (FrF.tr (FrF.tr (FrF.rf (S := [21, 25, 26, 27])) k11 (by decide)) k17 (by decide)) k79 (by decide)) (by decide)) h113 h114 h115 h82 h83 h116 p84 (by omega) (by omega) hr1 (by omega) (by omega) hG (fun j h1 h2 => hag j h1 (by omega))) cm_Mo_writeWindow im_Mo_writeWindow se_Mo_writeWindow rfl ml_Mo_341 d_Mo_encode_67 (by decide) h78 rfl rfl (Nat.le_of_ble_eq_true rfl) (by decide) ?_
          rintro _ f117 ⟨rfl, F120, nd'_121, dr'_122, h123, h124, k125, h126, p127, k128⟩
          refine G_cast (st' := []) ?_ rfl rfl rfl rfl
          refine G_iload_n hX 3 rfl rfl d_Mo_encode_70 ?_
          refine G_aload_n hX 1 rfl rfl d_Mo_encode_71 ?_
          have h129 : F120 13 = .int (zI w) := (k125 13 (by decide)).trans h87
          refine M_get hX fg_Mo_246 d_Mo_encode_72 h123 (by decide) h129 ?_
          refine G_iadd_z hX d_Mo_encode_75 ?_
          refine G_istore_n hX (lv' := [(3, .int (zI ((num * w) + w))), (2, .int (zI (wnE P num a))), (0, .ref (eA E 61)), (1, .int (zI 0))]) rfl (by decide) rfl d_Mo_encode_76 ?_
          refine G_goto hX (tgt := 17) d_Mo_encode_77 rfl ?_
          have hwl := wnL_len (ck := 0) hnn hl3 hs.2 (by omega) (by omega)
          have h130 : f117 78 = iz E 8 nr'_74 := (k128 78 (by decide)).trans h80
          have h131 : f117 79 = iz E 1024 sm'_75 := (k128 79 (by decide)).trans h81
          have h132 : f117 77 = iz E 3000 pt'_76 := (k128 77 (by decide)).trans h83
          have h133 : f117 76 = iz E 3 ps'_77 := (k128 76 (by decide)).trans h82
          refine G_loc (lv' := [(0, .ref (eA E 61)), (1, .int (zI 0)), (2, .int (zI (wnE P num a))), (3, .int (zI ((num * w) + w)))]) [2, 3, 1, 0] rfl ?_
          refine G_cast (ih22 (num + 1) (wnE P num a) (k - 1) (L ++ wnL P w s gF (sz 1) num a 0) nd'_121 dr'_122 nr'_74 sm'_75 pt'_76 ps'_77 F120 f117 (by rw [hnx]; omega) (by rw [hnx]; omega) (by omega) (by rw [hnx, hsw]; by_cases q9 : w ≤ sz 1 - num * w; exact Or.inl (by rw [hnn, if_pos q9]); exact Or.inr (by omega)) (by rw [List.append_assoc]; exact hst) (by unfold wnL; rw [← hnn]; exact p127) (by rw [hnx, List.length_append, Int.natCast_add]; have q8 : n = (if num * w + w ≤ sz 1 then num * w + w else sz 1) - num * w := (by rw [hnn]; split <;> split <;> omega); omega) h124 (FrF.tr (FrF.tr (FrF.tr FrF.rf k17 (by decide)) k79 (by decide)) k125 (by decide)) h126 h130 h131 h132 h133 h123 (Fr.tr (Fr.tr (Fr.tr Fr.rf k20 (by decide)) k86 (by decide)) k128 (by decide))) rfl (by rw [hnx]) rfl rfl
  have h134 : f3 78 = iz E 8 nr := (k14 78 (by decide)).trans hc78
  have h135 : f3 79 = iz E 1024 sm := (k14 79 (by decide)).trans hc79
  have h136 : f3 77 = iz E 3000 pt := (k14 77 (by decide)).trans hc77
  have h137 : f3 76 = iz E 3 ps := (k14 76 (by decide)).trans hc76
  refine G_loc (lv' := [(0, .ref (eA E 61)), (1, .int (zI 0)), (2, .int (zI 0)), (3, .int (zI 0))]) [2, 3, 1, 0] rfl ?_
  refine G_cast (loop18 (_ + 1) 0 0 ((sz 1).toNat) ([214, 195, 196, 0, 0]) nd'_7 dr'_8 nr sm pt ps F6 f3 (Nat.lt_succ_self _) (by omega) (by omega) (Or.inl (by rw [Int.zero_mul]; rfl)) rfl p13 (by rw [Int.zero_mul, if_pos (by omega)]; decide) h10 FrF.rf h12 h134 h135 h136 h137 h9 Fr.rf) rfl (by rw [Int.zero_mul]) rfl rfl
theorem c_Mo_encode0_large (E : EV) (f : Nat → va_E) (F : Nat → Value) (P : PS) (w : Int) (s : Int) (b : Int → Int) (sz : Int → Int) (gF : Int → Int) (mt : Int → Int) (ms : Int → Int) (ma : Int → Int) (mn : Int → Int) (nr : Int → Int) (sm : Int → Int) (pt : Int → Int) (ps : Int → Int) (dr : Int → Int) (hMo : f 61 = mob F) (hmk : moK E F) (hF11 : F 11 = .int (zI (pC P))) (hF12 : F 12 = .int (zI s)) (hF13 : F 13 = .int (zI w)) (hc63 : f 63 = iz E 1600 b) (hc64 : f 64 = iz E 4 sz) (hc69 : f 69 = iz E 700 mt) (hc70 : f 70 = iz E 700 ms) (hc71 : f 71 = iz E 700 ma) (hc72 : f 72 = iz E 700 mn) (hc78 : f 78 = iz E 8 nr) (hc79 : f 79 = iz E 1024 sm) (hc76 : f 76 = iz E 3 ps) (hc77 : f 77 = iz E 3000 pt) (hc75 : f 75 = iz E 3000 dr) (hsz : ∀ k, 0 ≤ k → k ≤ 3 → 0 ≤ sz k ∧ sz k ≤ (if k = 2 then 700 else 300)) (hpe : plE mt ms ma mn P) (hPB : plB P) (hW : plW P w (sz 1)) (hw : 16 ≤ w ∧ w ≤ 256) (hs : 0 ≤ s ∧ s ≤ 300) (hG : isB gF) (hag : ∀ j, 0 ≤ j → j < sz 1 → b (300 + j) = gF j) (hlg : 700 < ((enF P w s gF (sz 1) 0).length : Int)) : CF yn_Mo_encode cd_Mo_encode 4 (some (.int)) 5 E [.ref (eA E 61), .int (zI 0)] f (fun r f' => r = some (.int (zI (-4))) ∧ ∃ (F' : Nat → Value) (nr' : Int → Int) (sm' : Int → Int) (pt' : Int → Int) (ps' : Int → Int) (dr' : Int → Int), f' 61 = mob F' ∧ FrF [21, 25, 26, 27] F F' ∧ f' 78 = iz E 8 nr' ∧ f' 79 = iz E 1024 sm' ∧ f' 76 = iz E 3 ps' ∧ f' 77 = iz E 3000 pt' ∧ f' 75 = iz E 3000 dr' ∧ Fr [78, 79, 76, 77, 75, 61] f f') := by
  refine CF.of (by decide +kernel) (Nat.le_of_ble_eq_true rfl) fun X hX hE => ?_
  have hX : Ok E X "DeltaFerryModel" "encode" cd_Mo_encode 4 (some (.int)) (rl 5) := hX
  refine G_cast (lv' := [(0, .ref (eA E 61)), (1, .int (zI 0))]) ?_ rfl rfl rfl rfl
  have hsz1 := hsz 1 (by decide) (by decide)
  rw [if_neg (by decide)] at hsz1
  have hWc := hW.1
  refine G_aload_n hX 0 rfl rfl d_Mo_encode_0 ?_
  refine M_get hX fg_Mo_100 d_Mo_encode_1 hMo (by decide) hF11 ?_
  refine G_if_ge_z hX (tgt := 9) d_Mo_encode_4 rfl (by omega) (fun c1 => ?_) (fun c2 => by exfalso; omega)
  refine G_aload_n hX 0 rfl rfl d_Mo_encode_9 ?_
  refine F_callV hX (st := []) (c_Mo_writeHead E f F dr hMo hmk hc75) cm_Mo_writeHead im_Mo_writeHead se_Mo_writeHead rfl ml_Mo_335 d_Mo_encode_10 (by decide) hMo rfl rfl (Nat.le_of_ble_eq_true rfl) (by decide) ?_
  rintro _ f3 ⟨rfl, F6, nd'_7, dr'_8, h9, h10, k11, h12, p13, k14⟩
  refine G_cast (st' := []) ?_ rfl rfl rfl rfl
  refine G_iconst hX d_Mo_encode_13 ?_
  refine G_istore_n hX (lv' := [(2, .int (zI 0)), (0, .ref (eA E 61)), (1, .int (zI 0))]) rfl (by decide) rfl d_Mo_encode_14 ?_
  refine G_iconst hX d_Mo_encode_15 ?_
  refine G_istore_n hX (lv' := [(3, .int (zI 0)), (2, .int (zI 0)), (0, .ref (eA E 61)), (1, .int (zI 0))]) rfl (by decide) rfl d_Mo_encode_16 ?_
  have loop18 : ∀ (q : Nat) (num : Int) (a : Int) (k : Nat) (L : List Int) (nd1 : Int) (dr1 : Int → Int) (nr1 : Int → Int) (sm1 : Int → Int) (pt1 : Int → Int) (ps1 : Int → Int) (F15 : Nat → Value) (f19 : Nat → va_E), (sz 1 - num * w).toNat < q → (0 ≤ num ∧ sz 1 - num * w ≤ k ∧ num * w ≤ 600) → (0 ≤ a ∧ a ≤ pC P) → (num * w = psI P a ∨ sz 1 ≤ num * w) → (enF P w s gF (sz 1) 0 = L ++ enL P w s gF (sz 1) 0 k num a) → (rep dr1 nd1 L) → ((L.length : Int) ≤ 6 * (if num * w ≤ sz 1 then num * w else sz 1) + 30 * num + 5) → (F15 21 = .int (zI nd1)) → (FrF [21, 25, 26, 27] F6 F15) → f19 75 = iz E 3000 dr1 → f19 78 = iz E 8 nr1 → f19 79 = iz E 1024 sm1 → f19 77 = iz E 3000 pt1 → f19 76 = iz E 3 ps1 → f19 61 = mob F15 → Fr [75, 76, 77, 78, 79, 61] f3 f19 → G E X 0 0 17 [(0, .ref (eA E 61)), (1, .int (zI 0)), (2, .int (zI a)), (3, .int (zI (num * w)))] [] (wl E f19) := by
    intro q
    induction q with
    | zero => intro num a k L nd1 dr1 nr1 sm1 pt1 ps1 F15 f19 hms21; exact absurd hms21 (Nat.not_lt_zero _)
    | succ q ih22 =>
      intro num a k L nd1 dr1 nr1 sm1 pt1 ps1 F15 f19 hms21 hn ha hx hL hr1 hln h16 k17 h23 h24 h25 h26 h27 h28 k20
      have hn0 : 0 ≤ num * w := Int.mul_nonneg hn.1 (by omega)
      have hn16 : num * 16 ≤ num * w := Int.mul_le_mul_of_nonneg_left (by omega) hn.1
      have hnx : (num + 1) * w = num * w + w := by rw [Int.add_mul, Int.one_mul]
      refine G_iload_n hX 3 rfl rfl d_Mo_encode_17 ?_
      refine G_aload_n hX 0 rfl rfl d_Mo_encode_18 ?_
      have h29 : F15 2 = .ref (eA E 64) := (k17 2 (by decide)).trans ((k11 2 (by decide)).trans (hmk 2 64 (by decide)))
      refine M_get hX fg_Mo_81 d_Mo_encode_19 h28 (by decide) h29 ?_
      refine G_iconst hX d_Mo_encode_22 ?_
      have h30 : f19 64 = iz E 4 sz := (k20 64 (by decide)).trans ((k14 64 (by decide)).trans hc64)
      refine F_iald hX d_Mo_encode_23 64 (by decide) h30 (by omega) ?_
      refine G_icmp_ge_z hX (tgt := 80) d_Mo_encode_24 rfl (by omega) (fun c31 => ?_) (fun c32 => ?_)
      · skip
        rw [enL_e (by omega), List.append_nil] at hL
        have hnd : nd1 = ((enF P w s gF (sz 1) 0).length : Int) := by rw [hL]; exact hr1.1
        have hnd2 : nd1 = (L.length : Int) := hr1.1
        have hnum : num ≤ 37 := by omega
        have hln2 : (L.length : Int) ≤ 6 * sz 1 + 30 * num + 5 := by split at hln <;> omega
        refine G_aload_n hX 0 rfl rfl d_Mo_encode_80 ?_
        refine M_get hX fg_Mo_292 d_Mo_encode_81 h28 (by decide) h16 ?_
        refine G_sipush hX (by decide) d_Mo_encode_84 ?_
        refine G_icmp_le_z hX (tgt := 93) d_Mo_encode_87 rfl (by omega) (fun c33 => by exfalso; omega) (fun c34 => ?_)
        refine G_bipush hX (by decide) d_Mo_encode_90 ?_
        exact F_iret hX hE d_Mo_encode_92 ⟨rfl, F15, _, _, _, _, _, h28, (FrF.tr (FrF.tr FrF.rf k11 (by decide)) k17 (by decide)), h24, h25, h27, h26, h23, (Fr.tr (Fr.tr Fr.rf k14 (by decide)) k20 (by decide))⟩
      · skip
        have hxe : num * w = psI P a := by rcases hx with h9 | h9; exact h9; omega
        have hok := wnOK_of hW hw hsz1.2 ha hxe hn0
        have hsw := wnOK_sz hW hw hsz1.2 ha hxe (by omega)
        have hwb := wnE_b (P := P) (num := num) ha.2
        have hst := hL.trans (congrArg (fun q => L ++ q) (enL_s (by omega) hn.2.1))
        obtain ⟨n, hnn⟩ : ∃ n, n = (if w ≤ sz 1 - num * w then w else sz 1 - num * w) := ⟨_, rfl⟩
        have hnb : 0 < n ∧ n ≤ w ∧ n ≤ sz 1 - num * w := by rw [hnn]; split <;> omega
        rw [← hnn] at hsw
        rw [if_pos (by omega)] at hln
        refine G_aload_n hX 0 rfl rfl d_Mo_encode_27 ?_
        refine G_iload_n hX 2 rfl rfl d_Mo_encode_28 ?_
        refine G_iload_n hX 3 rfl rfl d_Mo_encode_29 ?_
        have h35 : F15 12 = .int (zI s) := (k17 12 (by decide)).trans ((k11 12 (by decide)).trans hF12)
        have h36 : F15 13 = .int (zI w) := (k17 13 (by decide)).trans ((k11 13 (by decide)).trans hF13)
        have h37 : F15 11 = .int (zI (pC P)) := (k17 11 (by decide)).trans ((k11 11 (by decide)).trans hF11)
        have h38 : f19 63 = iz E 1600 b := (k20 63 (by decide)).trans ((k14 63 (by decide)).trans hc63)
        have h39 : f19 69 = iz E 700 mt := (k20 69 (by decide)).trans ((k14 69 (by decide)).trans hc69)
        have h40 : f19 70 = iz E 700 ms := (k20 70 (by decide)).trans ((k14 70 (by decide)).trans hc70)
        have h41 : f19 71 = iz E 700 ma := (k20 71 (by decide)).trans ((k14 71 (by decide)).trans hc71)
        have h42 : f19 72 = iz E 700 mn := (k20 72 (by decide)).trans ((k14 72 (by decide)).trans hc72)
        refine F_callV hX (st := []) (c_Mo_layWindow E f19 F15 a (num * w) P num w s (sz 1) b gF mt ms ma mn nr1 sm1 pt1 ps1 h28 (moK_fr hmk (FrF.tr (FrF.tr (FrF.rf (S := [21, 25, 26, 27])) k11 (by decide)) k17 (by decide)) (by decide)) h37 h35 h36 h38 h39 h40 h41 h42 h24 h25 h27 h26 hpe hPB hok (by omega) (by omega) ⟨rfl, by omega⟩ (by omega) hag) cm_Mo_layWindow im_Mo_layWindow se_Mo_layWindow rfl ml_Mo_338 d_Mo_encode_30 (by decide) h28 rfl rfl (Nat.le_of_ble_eq_true rfl) (by decide) ?_
        rintro _ f43 ⟨rfl, F46, nr'_47, sm'_48, pt'_49, ps'_50, h51, k52, h53, h54, h55, h56, p57, p58, k59⟩
        refine G_cast (st' := [.int (zI (wnE P num a))]) ?_ rfl rfl rfl rfl
        refine G_istore_n hX (lv' := [(2, .int (zI (wnE P num a))), (0, .ref (eA E 61)), (1, .int (zI 0)), (3, .int (zI (num * w)))]) rfl (by decide) rfl d_Mo_encode_33 ?_
        refine G_aload_n hX 1 rfl rfl d_Mo_encode_34 ?_
        refine G_iload_n hX 3 rfl rfl d_Mo_encode_35 ?_
        refine G_aload_n hX 1 rfl rfl d_Mo_encode_36 ?_
        have h60 : F46 13 = .int (zI w) := (k52 13 (by decide)).trans h36
        refine M_get hX fg_Mo_246 d_Mo_encode_37 h51 (by decide) h60 ?_
        refine G_iadd_z hX d_Mo_encode_40 ?_
        refine G_aload_n hX 1 rfl rfl d_Mo_encode_41 ?_
        have h61 : F46 2 = .ref (eA E 64) := (k52 2 (by decide)).trans h29
        refine M_get hX fg_Mo_81 d_Mo_encode_42 h51 (by decide) h61 ?_
        refine G_iconst hX d_Mo_encode_45 ?_
        have h62 : f43 64 = iz E 4 sz := (k59 64 (by decide)).trans h30
        refine F_iald hX d_Mo_encode_46 64 (by decide) h62 (by omega) ?_
        refine G_icmp_ge_z hX (tgt := 57) d_Mo_encode_47 rfl (by omega) (fun c63 => ?_) (fun c64 => ?_)
        · skip
          refine G_aload_n hX 1 rfl rfl d_Mo_encode_57 ?_
          refine M_get hX fg_Mo_81 d_Mo_encode_58 h51 (by decide) h61 ?_
          refine G_iconst hX d_Mo_encode_61 ?_
          refine F_iald hX d_Mo_encode_62 64 (by decide) h62 (by omega) ?_
          refine G_iload_n hX 3 rfl rfl d_Mo_encode_63 ?_
          refine G_isub_z hX d_Mo_encode_64 ?_
          refine G_top (show zI ((sz 1) - (num * w)) = zI n from congrArg zI (by rw [hnn]; split <;> omega)) ?_
          have hl3 := p58
          rw [hsw] at hl3
          refine G_iload_n hX 3 rfl rfl d_Mo_encode_65 ?_
          refine G_iload_n hX 2 rfl rfl d_Mo_encode_66 ?_
          have h65 : F46 12 = .int (zI s) := (k52 12 (by decide)).trans h35
          have h66 : F46 21 = .int (zI nd1) := (k52 21 (by decide)).trans h16
          have h67 : f43 63 = iz E 1600 b := (k59 63 (by decide)).trans h38
          have h68 : f43 75 = iz E 3000 dr1 := (k59 75 (by decide)).trans h23
          refine F_callV hX (st := []) (c_Mo_writeWindow0 E f43 F46 n (num * w) s b gF pt'_49 ps'_50 (gdL P gF (wnE P num a - a).toNat a) (cdL P (mdI P a s) (wnE P num a) (wnE P num a - a).toNat a) (adL P a s (wnE P num a - a).toNat a) nd1 dr1 L h51 (moK_fr hmk (FrF.tr (FrF.tr (FrF.tr (FrF.rf (S := [21, 25, 26, 27])) k11 (by decide)) k17 (by decide)) k52 (by decide)) (by decide)) h65 h66 h67 h55 h56 h68 p57 (by omega) (by omega) hr1 (by omega) (by omega) hG (fun j h1 h2 => hag j h1 (by omega))) cm_Mo_writeWindow im_Mo_writeWindow se_Mo_writeWindow rfl ml_Mo_341 d_Mo_encode_67 (by decide) h51 rfl rfl (Nat.le_of_ble_eq_true rfl) (by decide) ?_
          rintro _ f69 ⟨rfl, F72, nd'_73, dr'_74, h75, h76, k77, h78, p79, k80⟩
          refine G_cast (st' := []) ?_ rfl rfl rfl rfl
          refine G_iload_n hX 3 rfl rfl d_Mo_encode_70 ?_
          refine G_aload_n hX 1 rfl rfl d_Mo_encode_71 ?_
          have h81 : F72 13 = .int (zI w) := (k77 13 (by decide)).trans h60
          refine M_get hX fg_Mo_246 d_Mo_encode_72 h75 (by decide) h81 ?_
          refine G_iadd_z hX d_Mo_encode_75 ?_
          refine G_istore_n hX (lv' := [(3, .int (zI ((num * w) + w))), (2, .int (zI (wnE P num a))), (0, .ref (eA E 61)), (1, .int (zI 0))]) rfl (by decide) rfl d_Mo_encode_76 ?_
          refine G_goto hX (tgt := 17) d_Mo_encode_77 rfl ?_
          have hwl := wnL_len (ck := 0) hnn hl3 hs.2 (by omega) (by omega)
          have h82 : f69 78 = iz E 8 nr'_47 := (k80 78 (by decide)).trans h53
          have h83 : f69 79 = iz E 1024 sm'_48 := (k80 79 (by decide)).trans h54
          have h84 : f69 77 = iz E 3000 pt'_49 := (k80 77 (by decide)).trans h56
          have h85 : f69 76 = iz E 3 ps'_50 := (k80 76 (by decide)).trans h55
          refine G_loc (lv' := [(0, .ref (eA E 61)), (1, .int (zI 0)), (2, .int (zI (wnE P num a))), (3, .int (zI ((num * w) + w)))]) [2, 3, 1, 0] rfl ?_
          refine G_cast (ih22 (num + 1) (wnE P num a) (k - 1) (L ++ wnL P w s gF (sz 1) num a 0) nd'_73 dr'_74 nr'_47 sm'_48 pt'_49 ps'_50 F72 f69 (by rw [hnx]; omega) (by rw [hnx]; omega) (by omega) (by rw [hnx, hsw]; by_cases q9 : w ≤ sz 1 - num * w; exact Or.inl (by rw [hnn, if_pos q9]); exact Or.inr (by omega)) (by rw [List.append_assoc]; exact hst) (by unfold wnL; rw [← hnn]; exact p79) (by rw [hnx, List.length_append, Int.natCast_add]; have q8 : n = (if num * w + w ≤ sz 1 then num * w + w else sz 1) - num * w := (by rw [hnn]; split <;> split <;> omega); omega) h76 (FrF.tr (FrF.tr (FrF.tr FrF.rf k17 (by decide)) k52 (by decide)) k77 (by decide)) h78 h82 h83 h84 h85 h75 (Fr.tr (Fr.tr (Fr.tr Fr.rf k20 (by decide)) k59 (by decide)) k80 (by decide))) rfl (by rw [hnx]) rfl rfl
        · skip
          refine G_aload_n hX 1 rfl rfl d_Mo_encode_50 ?_
          refine M_get hX fg_Mo_246 d_Mo_encode_51 h51 (by decide) h60 ?_
          refine G_goto hX (tgt := 65) d_Mo_encode_54 rfl ?_
          refine G_top (show zI w = zI n from congrArg zI (by rw [hnn]; split <;> omega)) ?_
          have hl3 := p58
          rw [hsw] at hl3
          refine G_iload_n hX 3 rfl rfl d_Mo_encode_65 ?_
          refine G_iload_n hX 2 rfl rfl d_Mo_encode_66 ?_
          have h86 : F46 12 = .int (zI s) := (k52 12 (by decide)).trans h35
          have h87 : F46 21 = .int (zI nd1) := (k52 21 (by decide)).trans h16
          have h88 : f43 63 = iz E 1600 b := (k59 63 (by decide)).trans h38
          have h89 : f43 75 = iz E 3000 dr1 := (k59 75 (by decide)).trans h23
          refine F_callV hX (st := []) (c_Mo_writeWindow0 E f43 F46 n (num * w) s b gF pt'_49 ps'_50 (gdL P gF (wnE P num a - a).toNat a) (cdL P (mdI P a s) (wnE P num a) (wnE P num a - a).toNat a) (adL P a s (wnE P num a - a).toNat a) nd1 dr1 L h51 (moK_fr hmk (FrF.tr (FrF.tr (FrF.tr (FrF.rf (S := [21, 25, 26, 27])) k11 (by decide)) k17 (by decide)) k52 (by decide)) (by decide)) h86 h87 h88 h55 h56 h89 p57 (by omega) (by omega) hr1 (by omega) (by omega) hG (fun j h1 h2 => hag j h1 (by omega))) cm_Mo_writeWindow im_Mo_writeWindow se_Mo_writeWindow rfl ml_Mo_341 d_Mo_encode_67 (by decide) h51 rfl rfl (Nat.le_of_ble_eq_true rfl) (by decide) ?_
          rintro _ f90 ⟨rfl, F93, nd'_94, dr'_95, h96, h97, k98, h99, p100, k101⟩
          refine G_cast (st' := []) ?_ rfl rfl rfl rfl
          refine G_iload_n hX 3 rfl rfl d_Mo_encode_70 ?_
          refine G_aload_n hX 1 rfl rfl d_Mo_encode_71 ?_
          have h102 : F93 13 = .int (zI w) := (k98 13 (by decide)).trans h60
          refine M_get hX fg_Mo_246 d_Mo_encode_72 h96 (by decide) h102 ?_
          refine G_iadd_z hX d_Mo_encode_75 ?_
          refine G_istore_n hX (lv' := [(3, .int (zI ((num * w) + w))), (2, .int (zI (wnE P num a))), (0, .ref (eA E 61)), (1, .int (zI 0))]) rfl (by decide) rfl d_Mo_encode_76 ?_
          refine G_goto hX (tgt := 17) d_Mo_encode_77 rfl ?_
          have hwl := wnL_len (ck := 0) hnn hl3 hs.2 (by omega) (by omega)
          have h103 : f90 78 = iz E 8 nr'_47 := (k101 78 (by decide)).trans h53
          have h104 : f90 79 = iz E 1024 sm'_48 := (k101 79 (by decide)).trans h54
          have h105 : f90 77 = iz E 3000 pt'_49 := (k101 77 (by decide)).trans h56
          have h106 : f90 76 = iz E 3 ps'_50 := (k101 76 (by decide)).trans h55
          refine G_loc (lv' := [(0, .ref (eA E 61)), (1, .int (zI 0)), (2, .int (zI (wnE P num a))), (3, .int (zI ((num * w) + w)))]) [2, 3, 1, 0] rfl ?_
          refine G_cast (ih22 (num + 1) (wnE P num a) (k - 1) (L ++ wnL P w s gF (sz 1) num a 0) nd'_94 dr'_95 nr'_47 sm'_48 pt'_49 ps'_50 F93 f90 (by rw [hnx]; omega) (by rw [hnx]; omega) (by omega) (by rw [hnx, hsw]; by_cases q9 : w ≤ sz 1 - num * w; exact Or.inl (by rw [hnn, if_pos q9]); exact Or.inr (by omega)) (by rw [List.append_assoc]; exact hst) (by unfold wnL; rw [← hnn]; exact p100) (by rw [hnx, List.length_append, Int.natCast_add]; have q8 : n = (if num * w + w ≤ sz 1 then num * w + w else sz 1) - num * w := (by rw [hnn]; split <;> split <;> omega); omega) h97 (FrF.tr (FrF.tr (FrF.tr FrF.rf k17 (by decide)) k52 (by decide)) k98 (by decide)) h99 h103 h104 h105 h106 h96 (Fr.tr (Fr.tr (Fr.tr Fr.rf k20 (by decide)) k59 (by decide)) k101 (by decide))) rfl (by rw [hnx]) rfl rfl
  have h107 : f3 78 = iz E 8 nr := (k14 78 (by decide)).trans hc78
  have h108 : f3 79 = iz E 1024 sm := (k14 79 (by decide)).trans hc79
  have h109 : f3 77 = iz E 3000 pt := (k14 77 (by decide)).trans hc77
  have h110 : f3 76 = iz E 3 ps := (k14 76 (by decide)).trans hc76
  refine G_loc (lv' := [(0, .ref (eA E 61)), (1, .int (zI 0)), (2, .int (zI 0)), (3, .int (zI 0))]) [2, 3, 1, 0] rfl ?_
  refine G_cast (loop18 (_ + 1) 0 0 ((sz 1).toNat) ([214, 195, 196, 0, 0]) nd'_7 dr'_8 nr sm pt ps F6 f3 (Nat.lt_succ_self _) (by omega) (by omega) (Or.inl (by rw [Int.zero_mul]; rfl)) rfl p13 (by rw [Int.zero_mul, if_pos (by omega)]; decide) h10 FrF.rf h12 h107 h108 h109 h110 h9 Fr.rf) rfl (by rw [Int.zero_mul]) rfl rfl
theorem c_Mo_encode1 (E : EV) (f : Nat → va_E) (F : Nat → Value) (P : PS) (w : Int) (s : Int) (b : Int → Int) (sz : Int → Int) (gF : Int → Int) (mt : Int → Int) (ms : Int → Int) (ma : Int → Int) (mn : Int → Int) (nr : Int → Int) (sm : Int → Int) (pt : Int → Int) (ps : Int → Int) (dr : Int → Int) (hMo : f 61 = mob F) (hmk : moK E F) (hF11 : F 11 = .int (zI (pC P))) (hF12 : F 12 = .int (zI s)) (hF13 : F 13 = .int (zI w)) (hc63 : f 63 = iz E 1600 b) (hc64 : f 64 = iz E 4 sz) (hc69 : f 69 = iz E 700 mt) (hc70 : f 70 = iz E 700 ms) (hc71 : f 71 = iz E 700 ma) (hc72 : f 72 = iz E 700 mn) (hc78 : f 78 = iz E 8 nr) (hc79 : f 79 = iz E 1024 sm) (hc76 : f 76 = iz E 3 ps) (hc77 : f 77 = iz E 3000 pt) (hc75 : f 75 = iz E 3000 dr) (hsz : ∀ k, 0 ≤ k → k ≤ 3 → 0 ≤ sz k ∧ sz k ≤ (if k = 2 then 700 else 300)) (hpe : plE mt ms ma mn P) (hPB : plB P) (hW : plW P w (sz 1)) (hw : 16 ≤ w ∧ w ≤ 256) (hs : 0 ≤ s ∧ s ≤ 300) (hG : isB gF) (hag : ∀ j, 0 ≤ j → j < sz 1 → b (300 + j) = gF j) (hlg : ((enF P w s gF (sz 1) 1).length : Int) ≤ 700) : CF yn_Mo_encode cd_Mo_encode 4 (some (.int)) 5 E [.ref (eA E 61), .int (zI 1)] f (fun r f' => r = some (.int (zI ((enF P w s gF (sz 1) 1).length : Int))) ∧ ∃ (F' : Nat → Value) (nr' : Int → Int) (sm' : Int → Int) (pt' : Int → Int) (ps' : Int → Int) (dr' : Int → Int) (b' : Int → Int), f' 61 = mob F' ∧ FrF [21, 25, 26, 27] F F' ∧ f' 78 = iz E 8 nr' ∧ f' 79 = iz E 1024 sm' ∧ f' 76 = iz E 3 ps' ∧ f' 77 = iz E 3000 pt' ∧ f' 75 = iz E 3000 dr' ∧ f' 63 = iz E 1600 b' ∧ f' 64 = iz E 4 (uz sz 2 ((enF P w s gF (sz 1) 1).length : Int)) ∧ (rep (fun k => b' (600 + k)) ((enF P w s gF (sz 1) 1).length : Int) (enF P w s gF (sz 1) 1)) ∧ (∀ j, j < 600 ∨ 600 + ((enF P w s gF (sz 1) 1).length : Int) ≤ j → b' j = b j) ∧ Fr [78, 79, 76, 77, 75, 63, 64, 61] f f') := by
  refine CF.of (by decide +kernel) (Nat.le_of_ble_eq_true rfl) fun X hX hE => ?_
  have hX : Ok E X "DeltaFerryModel" "encode" cd_Mo_encode 4 (some (.int)) (rl 5) := hX
  refine G_cast (lv' := [(0, .ref (eA E 61)), (1, .int (zI 1))]) ?_ rfl rfl rfl rfl
  have hsz1 := hsz 1 (by decide) (by decide)
  rw [if_neg (by decide)] at hsz1
  have hWc := hW.1
  refine G_aload_n hX 0 rfl rfl d_Mo_encode_0 ?_
  refine M_get hX fg_Mo_100 d_Mo_encode_1 hMo (by decide) hF11 ?_
  refine G_if_ge_z hX (tgt := 9) d_Mo_encode_4 rfl (by omega) (fun c1 => ?_) (fun c2 => by exfalso; omega)
  refine G_aload_n hX 0 rfl rfl d_Mo_encode_9 ?_
  refine F_callV hX (st := []) (c_Mo_writeHead E f F dr hMo hmk hc75) cm_Mo_writeHead im_Mo_writeHead se_Mo_writeHead rfl ml_Mo_335 d_Mo_encode_10 (by decide) hMo rfl rfl (Nat.le_of_ble_eq_true rfl) (by decide) ?_
  rintro _ f3 ⟨rfl, F6, nd'_7, dr'_8, h9, h10, k11, h12, p13, k14⟩
  refine G_cast (st' := []) ?_ rfl rfl rfl rfl
  refine G_iconst hX d_Mo_encode_13 ?_
  refine G_istore_n hX (lv' := [(2, .int (zI 0)), (0, .ref (eA E 61)), (1, .int (zI 1))]) rfl (by decide) rfl d_Mo_encode_14 ?_
  refine G_iconst hX d_Mo_encode_15 ?_
  refine G_istore_n hX (lv' := [(3, .int (zI 0)), (2, .int (zI 0)), (0, .ref (eA E 61)), (1, .int (zI 1))]) rfl (by decide) rfl d_Mo_encode_16 ?_
  have loop18 : ∀ (q : Nat) (num : Int) (a : Int) (k : Nat) (L : List Int) (nd1 : Int) (dr1 : Int → Int) (nr1 : Int → Int) (sm1 : Int → Int) (pt1 : Int → Int) (ps1 : Int → Int) (F15 : Nat → Value) (f19 : Nat → va_E), (sz 1 - num * w).toNat < q → (0 ≤ num ∧ sz 1 - num * w ≤ k ∧ num * w ≤ 600) → (0 ≤ a ∧ a ≤ pC P) → (num * w = psI P a ∨ sz 1 ≤ num * w) → (enF P w s gF (sz 1) 1 = L ++ enL P w s gF (sz 1) 1 k num a) → (rep dr1 nd1 L) → ((L.length : Int) ≤ 6 * (if num * w ≤ sz 1 then num * w else sz 1) + 30 * num + 5) → (F15 21 = .int (zI nd1)) → (FrF [21, 25, 26, 27] F6 F15) → f19 75 = iz E 3000 dr1 → f19 78 = iz E 8 nr1 → f19 79 = iz E 1024 sm1 → f19 77 = iz E 3000 pt1 → f19 76 = iz E 3 ps1 → f19 61 = mob F15 → Fr [75, 76, 77, 78, 79, 61] f3 f19 → G E X 0 0 17 [(0, .ref (eA E 61)), (1, .int (zI 1)), (2, .int (zI a)), (3, .int (zI (num * w)))] [] (wl E f19) := by
    intro q
    induction q with
    | zero => intro num a k L nd1 dr1 nr1 sm1 pt1 ps1 F15 f19 hms21; exact absurd hms21 (Nat.not_lt_zero _)
    | succ q ih22 =>
      intro num a k L nd1 dr1 nr1 sm1 pt1 ps1 F15 f19 hms21 hn ha hx hL hr1 hln h16 k17 h23 h24 h25 h26 h27 h28 k20
      have hn0 : 0 ≤ num * w := Int.mul_nonneg hn.1 (by omega)
      have hn16 : num * 16 ≤ num * w := Int.mul_le_mul_of_nonneg_left (by omega) hn.1
      have hnx : (num + 1) * w = num * w + w := by rw [Int.add_mul, Int.one_mul]
      refine G_iload_n hX 3 rfl rfl d_Mo_encode_17 ?_
      refine G_aload_n hX 0 rfl rfl d_Mo_encode_18 ?_
      have h29 : F15 2 = .ref (eA E 64) := (k17 2 (by decide)).trans ((k11 2 (by decide)).trans (hmk 2 64 (by decide)))
      refine M_get hX fg_Mo_81 d_Mo_encode_19 h28 (by decide) h29 ?_
      refine G_iconst hX d_Mo_encode_22 ?_
      have h30 : f19 64 = iz E 4 sz := (k20 64 (by decide)).trans ((k14 64 (by decide)).trans hc64)
      refine F_iald hX d_Mo_encode_23 64 (by decide) h30 (by omega) ?_
      refine G_icmp_ge_z hX (tgt := 80) d_Mo_encode_24 rfl (by omega) (fun c31 => ?_) (fun c32 => ?_)
      · skip
        rw [enL_e (by omega), List.append_nil] at hL
        have hnd : nd1 = ((enF P w s gF (sz 1) 1).length : Int) := by rw [hL]; exact hr1.1
        have hnd2 : nd1 = (L.length : Int) := hr1.1
        have hnum : num ≤ 37 := by omega
        have hln2 : (L.length : Int) ≤ 6 * sz 1 + 30 * num + 5 := by split at hln <;> omega
        refine G_aload_n hX 0 rfl rfl d_Mo_encode_80 ?_
        refine M_get hX fg_Mo_292 d_Mo_encode_81 h28 (by decide) h16 ?_
        refine G_sipush hX (by decide) d_Mo_encode_84 ?_
        refine G_icmp_le_z hX (tgt := 93) d_Mo_encode_87 rfl (by omega) (fun c33 => ?_) (fun c34 => by exfalso; omega)
        refine G_iconst hX d_Mo_encode_93 ?_
        refine G_istore_n hX (lv' := [(3, .int (zI 0)), (0, .ref (eA E 61)), (1, .int (zI 1)), (2, .int (zI a))]) rfl (by decide) rfl d_Mo_encode_94 ?_
        have loop35 : ∀ (q : Nat) (j : Int) (b1 : Int → Int) (f36 : Nat → va_E), (nd1 - j).toNat < q → (0 ≤ j ∧ j ≤ nd1) → ((∀ i, 0 ≤ i → i < j → b1 (600 + i) = dr1 i) ∧ ∀ i, i < 600 ∨ 600 + j ≤ i → b1 i = b i) → f36 63 = iz E 1600 b1 → Fr [63] f19 f36 → G E X 0 0 95 [(0, .ref (eA E 61)), (3, .int (zI j))] [] (wl E f36) := by
          intro q
          induction q with
          | zero => intro j b1 f36 hms38; exact absurd hms38 (Nat.not_lt_zero _)
          | succ q ih39 =>
            intro j b1 f36 hms38 hj hb1 h40 k37
            refine G_iload_n hX 1 rfl rfl d_Mo_encode_95 ?_
            refine G_aload_n hX 0 rfl rfl d_Mo_encode_96 ?_
            have h41 : f36 61 = mob F15 := (k37 61 (by decide)).trans h28
            refine M_get hX fg_Mo_292 d_Mo_encode_97 h41 (by decide) h16 ?_
            refine G_icmp_ge_z hX (tgt := 125) d_Mo_encode_100 rfl (by omega) (fun c42 => ?_) (fun c43 => ?_)
            · skip
              refine G_aload_n hX 0 rfl rfl d_Mo_encode_125 ?_
              refine M_get hX fg_Mo_81 d_Mo_encode_126 h41 (by decide) h29 ?_
              refine G_iconst hX d_Mo_encode_129 ?_
              refine G_aload_n hX 0 rfl rfl d_Mo_encode_130 ?_
              refine M_get hX fg_Mo_292 d_Mo_encode_131 h41 (by decide) h16 ?_
              have h44 : f36 64 = iz E 4 sz := (k37 64 (by decide)).trans h30
              refine F_iast hX d_Mo_encode_134 64 (by decide) h44 (by omega) (fun f45 h46 k47 => ?_)
              refine G_aload_n hX 0 rfl rfl d_Mo_encode_135 ?_
              have h48 : f45 61 = mob F15 := (k47 61 (by decide)).trans h41
              refine M_get hX fg_Mo_292 d_Mo_encode_136 h48 (by decide) h16 ?_
              obtain rfl : j = nd1 := by omega
              rw [← hL] at hr1
              have h49 : f45 78 = iz E 8 nr1 := (k47 78 (by decide)).trans ((k37 78 (by decide)).trans h24)
              have h50 : f45 79 = iz E 1024 sm1 := (k47 79 (by decide)).trans ((k37 79 (by decide)).trans h25)
              have h51 : f45 76 = iz E 3 ps1 := (k47 76 (by decide)).trans ((k37 76 (by decide)).trans h27)
              have h52 : f45 77 = iz E 3000 pt1 := (k47 77 (by decide)).trans ((k37 77 (by decide)).trans h26)
              have h53 : f45 75 = iz E 3000 dr1 := (k47 75 (by decide)).trans ((k37 75 (by decide)).trans h23)
              have h54 : f45 63 = iz E 1600 b1 := (k47 63 (by decide)).trans h40
              exact F_iret hX hE d_Mo_encode_139 ⟨by rw [← hnd], F15, _, _, _, _, _, _, h48, (FrF.tr (FrF.tr FrF.rf k11 (by decide)) k17 (by decide)), h49, h50, h51, h52, h53, h54, (by rw [← hnd]; exact h46), ⟨rfl, fun k hk => by rw [← hr1.2 k hk]; exact hb1.1 k (by omega) (by have := hr1.1; omega)⟩, (fun i h1 => hb1.2 i (by omega)), (Fr.tr (Fr.tr (Fr.tr (Fr.tr Fr.rf k14 (by decide)) k20 (by decide)) k37 (by decide)) k47 (by decide))⟩
            · skip
              refine G_aload_n hX 0 rfl rfl d_Mo_encode_103 ?_
              have h55 : F15 1 = .ref (eA E 63) := (k17 1 (by decide)).trans ((k11 1 (by decide)).trans (hmk 1 63 (by decide)))
              refine M_get hX fg_Mo_77 d_Mo_encode_104 h41 (by decide) h55 ?_
              refine G_sipush hX (by decide) d_Mo_encode_107 ?_
              refine G_iload_n hX 1 rfl rfl d_Mo_encode_110 ?_
              refine G_iadd_z hX d_Mo_encode_111 ?_
              refine G_aload_n hX 0 rfl rfl d_Mo_encode_112 ?_
              have h56 : F15 22 = .ref (eA E 75) := (k17 22 (by decide)).trans ((k11 22 (by decide)).trans (hmk 22 75 (by decide)))
              refine M_get hX fg_Mo_121 d_Mo_encode_113 h41 (by decide) h56 ?_
              refine G_iload_n hX 1 rfl rfl d_Mo_encode_116 ?_
              have h57 : f36 75 = iz E 3000 dr1 := (k37 75 (by decide)).trans h23
              refine F_iald hX d_Mo_encode_117 75 (by decide) h57 (by omega) ?_
              refine F_iast hX d_Mo_encode_118 63 (by decide) h40 (by omega) (fun f58 h59 k60 => ?_)
              refine G_iinc_z hX (lv' := [(3, .int (zI (j + 1))), (0, .ref (eA E 61))]) 1 rfl (by decide) rfl d_Mo_encode_119 ?_
              refine G_goto hX (tgt := 95) d_Mo_encode_122 rfl ?_
              refine G_loc (lv' := [(0, .ref (eA E 61)), (3, .int (zI (j + 1)))]) [1, 0] rfl ?_
              exact ih39 (j + 1) (uz b1 (600 + j) (dr1 j)) f58 (by omega) (by omega) (by refine ⟨fun i h1 h2 => ?_, fun i h1 => ?_⟩; (by_cases q9 : i = j; (rw [q9]; exact if_pos rfl); exact (if_neg (by omega)).trans (hb1.1 i h1 (by omega))); exact (if_neg (by omega)).trans (hb1.2 i (by omega))) h59 (Fr.tr (Fr.tr Fr.rf k37 (by decide)) k60 (by decide))
        have h61 : f19 63 = iz E 1600 b := (k20 63 (by decide)).trans ((k14 63 (by decide)).trans hc63)
        refine G_loc (lv' := [(0, .ref (eA E 61)), (3, .int (zI 0))]) [1, 0] rfl ?_
        exact loop35 (_ + 1) 0 b f19 (Nat.lt_succ_self _) (by omega) ⟨fun i h1 h2 => by omega, fun i _ => rfl⟩ h61 Fr.rf
      · skip
        have hxe : num * w = psI P a := by rcases hx with h9 | h9; exact h9; omega
        have hok := wnOK_of hW hw hsz1.2 ha hxe hn0
        have hsw := wnOK_sz hW hw hsz1.2 ha hxe (by omega)
        have hwb := wnE_b (P := P) (num := num) ha.2
        have hst := hL.trans (congrArg (fun q => L ++ q) (enL_s (by omega) hn.2.1))
        obtain ⟨n, hnn⟩ : ∃ n, n = (if w ≤ sz 1 - num * w then w else sz 1 - num * w) := ⟨_, rfl⟩
        have hnb : 0 < n ∧ n ≤ w ∧ n ≤ sz 1 - num * w := by rw [hnn]; split <;> omega
        rw [← hnn] at hsw
        rw [if_pos (by omega)] at hln
        refine G_aload_n hX 0 rfl rfl d_Mo_encode_27 ?_
        refine G_iload_n hX 2 rfl rfl d_Mo_encode_28 ?_
        refine G_iload_n hX 3 rfl rfl d_Mo_encode_29 ?_
        have h62 : F15 12 = .int (zI s) := (k17 12 (by decide)).trans ((k11 12 (by decide)).trans hF12)
        have h63 : F15 13 = .int (zI w) := (k17 13 (by decide)).trans ((k11 13 (by decide)).trans hF13)
        have h64 : F15 11 = .int (zI (pC P)) := (k17 11 (by decide)).trans ((k11 11 (by decide)).trans hF11)
        have h65 : f19 63 = iz E 1600 b := (k20 63 (by decide)).trans ((k14 63 (by decide)).trans hc63)
        have h66 : f19 69 = iz E 700 mt := (k20 69 (by decide)).trans ((k14 69 (by decide)).trans hc69)
        have h67 : f19 70 = iz E 700 ms := (k20 70 (by decide)).trans ((k14 70 (by decide)).trans hc70)
        have h68 : f19 71 = iz E 700 ma := (k20 71 (by decide)).trans ((k14 71 (by decide)).trans hc71)
        have h69 : f19 72 = iz E 700 mn := (k20 72 (by decide)).trans ((k14 72 (by decide)).trans hc72)
        refine F_callV hX (st := []) (c_Mo_layWindow E f19 F15 a (num * w) P num w s (sz 1) b gF mt ms ma mn nr1 sm1 pt1 ps1 h28 (moK_fr hmk (FrF.tr (FrF.tr (FrF.rf (S := [21, 25, 26, 27])) k11 (by decide)) k17 (by decide)) (by decide)) h64 h62 h63 h65 h66 h67 h68 h69 h24 h25 h27 h26 hpe hPB hok (by omega) (by omega) ⟨rfl, by omega⟩ (by omega) hag) cm_Mo_layWindow im_Mo_layWindow se_Mo_layWindow rfl ml_Mo_338 d_Mo_encode_30 (by decide) h28 rfl rfl (Nat.le_of_ble_eq_true rfl) (by decide) ?_
        rintro _ f70 ⟨rfl, F73, nr'_74, sm'_75, pt'_76, ps'_77, h78, k79, h80, h81, h82, h83, p84, p85, k86⟩
        refine G_cast (st' := [.int (zI (wnE P num a))]) ?_ rfl rfl rfl rfl
        refine G_istore_n hX (lv' := [(2, .int (zI (wnE P num a))), (0, .ref (eA E 61)), (1, .int (zI 1)), (3, .int (zI (num * w)))]) rfl (by decide) rfl d_Mo_encode_33 ?_
        refine G_aload_n hX 1 rfl rfl d_Mo_encode_34 ?_
        refine G_iload_n hX 3 rfl rfl d_Mo_encode_35 ?_
        refine G_aload_n hX 1 rfl rfl d_Mo_encode_36 ?_
        have h87 : F73 13 = .int (zI w) := (k79 13 (by decide)).trans h63
        refine M_get hX fg_Mo_246 d_Mo_encode_37 h78 (by decide) h87 ?_
        refine G_iadd_z hX d_Mo_encode_40 ?_
        refine G_aload_n hX 1 rfl rfl d_Mo_encode_41 ?_
        have h88 : F73 2 = .ref (eA E 64) := (k79 2 (by decide)).trans h29
        refine M_get hX fg_Mo_81 d_Mo_encode_42 h78 (by decide) h88 ?_
        refine G_iconst hX d_Mo_encode_45 ?_
        have h89 : f70 64 = iz E 4 sz := (k86 64 (by decide)).trans h30
        refine F_iald hX d_Mo_encode_46 64 (by decide) h89 (by omega) ?_
        refine G_icmp_ge_z hX (tgt := 57) d_Mo_encode_47 rfl (by omega) (fun c90 => ?_) (fun c91 => ?_)
        · skip
          refine G_aload_n hX 1 rfl rfl d_Mo_encode_57 ?_
          refine M_get hX fg_Mo_81 d_Mo_encode_58 h78 (by decide) h88 ?_
          refine G_iconst hX d_Mo_encode_61 ?_
          refine F_iald hX d_Mo_encode_62 64 (by decide) h89 (by omega) ?_
          refine G_iload_n hX 3 rfl rfl d_Mo_encode_63 ?_
          refine G_isub_z hX d_Mo_encode_64 ?_
          refine G_top (show zI ((sz 1) - (num * w)) = zI n from congrArg zI (by rw [hnn]; split <;> omega)) ?_
          have hl3 := p85
          rw [hsw] at hl3
          refine G_iload_n hX 3 rfl rfl d_Mo_encode_65 ?_
          refine G_iload_n hX 2 rfl rfl d_Mo_encode_66 ?_
          have h92 : F73 12 = .int (zI s) := (k79 12 (by decide)).trans h62
          have h93 : F73 21 = .int (zI nd1) := (k79 21 (by decide)).trans h16
          have h94 : f70 63 = iz E 1600 b := (k86 63 (by decide)).trans h65
          have h95 : f70 75 = iz E 3000 dr1 := (k86 75 (by decide)).trans h23
          refine F_callV hX (st := []) (c_Mo_writeWindow1 E f70 F73 n (num * w) s b gF pt'_76 ps'_77 (gdL P gF (wnE P num a - a).toNat a) (cdL P (mdI P a s) (wnE P num a) (wnE P num a - a).toNat a) (adL P a s (wnE P num a - a).toNat a) nd1 dr1 L h78 (moK_fr hmk (FrF.tr (FrF.tr (FrF.tr (FrF.rf (S := [21, 25, 26, 27])) k11 (by decide)) k17 (by decide)) k79 (by decide)) (by decide)) h92 h93 h94 h82 h83 h95 p84 (by omega) (by omega) hr1 (by omega) (by omega) hG (fun j h1 h2 => hag j h1 (by omega))) cm_Mo_writeWindow im_Mo_writeWindow se_Mo_writeWindow rfl ml_Mo_341 d_Mo_encode_67 (by decide) h78 rfl rfl (Nat.le_of_ble_eq_true rfl) (by decide) ?_
          rintro _ f96 ⟨rfl, F99, nd'_100, dr'_101, h102, h103, k104, h105, p106, k107⟩
          refine G_cast (st' := []) ?_ rfl rfl rfl rfl
          refine G_iload_n hX 3 rfl rfl d_Mo_encode_70 ?_
          refine G_aload_n hX 1 rfl rfl d_Mo_encode_71 ?_
          have h108 : F99 13 = .int (zI w) := (k104 13 (by decide)).trans h87
          refine M_get hX fg_Mo_246 d_Mo_encode_72 h102 (by decide) h108 ?_
          refine G_iadd_z hX d_Mo_encode_75 ?_
          refine G_istore_n hX (lv' := [(3, .int (zI ((num * w) + w))), (2, .int (zI (wnE P num a))), (0, .ref (eA E 61)), (1, .int (zI 1))]) rfl (by decide) rfl d_Mo_encode_76 ?_
          refine G_goto hX (tgt := 17) d_Mo_encode_77 rfl ?_
          have hwl := wnL_len (ck := 1) hnn hl3 hs.2 (by omega) (by omega)
          have h109 : f96 78 = iz E 8 nr'_74 := (k107 78 (by decide)).trans h80
          have h110 : f96 79 = iz E 1024 sm'_75 := (k107 79 (by decide)).trans h81
          have h111 : f96 77 = iz E 3000 pt'_76 := (k107 77 (by decide)).trans h83
          have h112 : f96 76 = iz E 3 ps'_77 := (k107 76 (by decide)).trans h82
          refine G_loc (lv' := [(0, .ref (eA E 61)), (1, .int (zI 1)), (2, .int (zI (wnE P num a))), (3, .int (zI ((num * w) + w)))]) [2, 3, 1, 0] rfl ?_
          refine G_cast (ih22 (num + 1) (wnE P num a) (k - 1) (L ++ wnL P w s gF (sz 1) num a 1) nd'_100 dr'_101 nr'_74 sm'_75 pt'_76 ps'_77 F99 f96 (by rw [hnx]; omega) (by rw [hnx]; omega) (by omega) (by rw [hnx, hsw]; by_cases q9 : w ≤ sz 1 - num * w; exact Or.inl (by rw [hnn, if_pos q9]); exact Or.inr (by omega)) (by rw [List.append_assoc]; exact hst) (by unfold wnL; rw [← hnn]; exact p106) (by rw [hnx, List.length_append, Int.natCast_add]; have q8 : n = (if num * w + w ≤ sz 1 then num * w + w else sz 1) - num * w := (by rw [hnn]; split <;> split <;> omega); omega) h103 (FrF.tr (FrF.tr (FrF.tr FrF.rf k17 (by decide)) k79 (by decide)) k104 (by decide)) h105 h109 h110 h111 h112 h102 (Fr.tr (Fr.tr (Fr.tr Fr.rf k20 (by decide)) k86 (by decide)) k107 (by decide))) rfl (by rw [hnx]) rfl rfl
        · skip
          refine G_aload_n hX 1 rfl rfl d_Mo_encode_50 ?_
          refine M_get hX fg_Mo_246 d_Mo_encode_51 h78 (by decide) h87 ?_
          refine G_goto hX (tgt := 65) d_Mo_encode_54 rfl ?_
          refine G_top (show zI w = zI n from congrArg zI (by rw [hnn]; split <;> omega)) ?_
          have hl3 := p85
          rw [hsw] at hl3
          refine G_iload_n hX 3 rfl rfl d_Mo_encode_65 ?_
          refine G_iload_n hX 2 rfl rfl d_Mo_encode_66 ?_
          have h113 : F73 12 = .int (zI s) := (k79 12 (by decide)).trans h62
          have h114 : F73 21 = .int (zI nd1) := (k79 21 (by decide)).trans h16
          have h115 : f70 63 = iz E 1600 b := (k86 63 (by decide)).trans h65
          have h116 : f70 75 = iz E 3000 dr1 := (k86 75 (by decide)).trans h23
          refine F_callV hX (st := []) (c_Mo_writeWindow1 E f70 F73 n (num * w) s b gF pt'_76 ps'_77 (gdL P gF (wnE P num a - a).toNat a) (cdL P (mdI P a s) (wnE P num a) (wnE P num a - a).toNat a) (adL P a s (wnE P num a - a).toNat a) nd1 dr1 L h78 (moK_fr hmk (FrF.tr (FrF.tr (FrF.tr (FrF.rf (S := [21, 25, 26, 27])) k11 (by decide)) k17 (by decide)) k79 (by decide)) (by decide)) h113 h114 h115 h82 h83 h116 p84 (by omega) (by omega) hr1 (by omega) (by omega) hG (fun j h1 h2 => hag j h1 (by omega))) cm_Mo_writeWindow im_Mo_writeWindow se_Mo_writeWindow rfl ml_Mo_341 d_Mo_encode_67 (by decide) h78 rfl rfl (Nat.le_of_ble_eq_true rfl) (by decide) ?_
          rintro _ f117 ⟨rfl, F120, nd'_121, dr'_122, h123, h124, k125, h126, p127, k128⟩
          refine G_cast (st' := []) ?_ rfl rfl rfl rfl
          refine G_iload_n hX 3 rfl rfl d_Mo_encode_70 ?_
          refine G_aload_n hX 1 rfl rfl d_Mo_encode_71 ?_
          have h129 : F120 13 = .int (zI w) := (k125 13 (by decide)).trans h87
          refine M_get hX fg_Mo_246 d_Mo_encode_72 h123 (by decide) h129 ?_
          refine G_iadd_z hX d_Mo_encode_75 ?_
          refine G_istore_n hX (lv' := [(3, .int (zI ((num * w) + w))), (2, .int (zI (wnE P num a))), (0, .ref (eA E 61)), (1, .int (zI 1))]) rfl (by decide) rfl d_Mo_encode_76 ?_
          refine G_goto hX (tgt := 17) d_Mo_encode_77 rfl ?_
          have hwl := wnL_len (ck := 1) hnn hl3 hs.2 (by omega) (by omega)
          have h130 : f117 78 = iz E 8 nr'_74 := (k128 78 (by decide)).trans h80
          have h131 : f117 79 = iz E 1024 sm'_75 := (k128 79 (by decide)).trans h81
          have h132 : f117 77 = iz E 3000 pt'_76 := (k128 77 (by decide)).trans h83
          have h133 : f117 76 = iz E 3 ps'_77 := (k128 76 (by decide)).trans h82
          refine G_loc (lv' := [(0, .ref (eA E 61)), (1, .int (zI 1)), (2, .int (zI (wnE P num a))), (3, .int (zI ((num * w) + w)))]) [2, 3, 1, 0] rfl ?_
          refine G_cast (ih22 (num + 1) (wnE P num a) (k - 1) (L ++ wnL P w s gF (sz 1) num a 1) nd'_121 dr'_122 nr'_74 sm'_75 pt'_76 ps'_77 F120 f117 (by rw [hnx]; omega) (by rw [hnx]; omega) (by omega) (by rw [hnx, hsw]; by_cases q9 : w ≤ sz 1 - num * w; exact Or.inl (by rw [hnn, if_pos q9]); exact Or.inr (by omega)) (by rw [List.append_assoc]; exact hst) (by unfold wnL; rw [← hnn]; exact p127) (by rw [hnx, List.length_append, Int.natCast_add]; have q8 : n = (if num * w + w ≤ sz 1 then num * w + w else sz 1) - num * w := (by rw [hnn]; split <;> split <;> omega); omega) h124 (FrF.tr (FrF.tr (FrF.tr FrF.rf k17 (by decide)) k79 (by decide)) k125 (by decide)) h126 h130 h131 h132 h133 h123 (Fr.tr (Fr.tr (Fr.tr Fr.rf k20 (by decide)) k86 (by decide)) k128 (by decide))) rfl (by rw [hnx]) rfl rfl
  have h134 : f3 78 = iz E 8 nr := (k14 78 (by decide)).trans hc78
  have h135 : f3 79 = iz E 1024 sm := (k14 79 (by decide)).trans hc79
  have h136 : f3 77 = iz E 3000 pt := (k14 77 (by decide)).trans hc77
  have h137 : f3 76 = iz E 3 ps := (k14 76 (by decide)).trans hc76
  refine G_loc (lv' := [(0, .ref (eA E 61)), (1, .int (zI 1)), (2, .int (zI 0)), (3, .int (zI 0))]) [2, 3, 1, 0] rfl ?_
  refine G_cast (loop18 (_ + 1) 0 0 ((sz 1).toNat) ([214, 195, 196, 0, 0]) nd'_7 dr'_8 nr sm pt ps F6 f3 (Nat.lt_succ_self _) (by omega) (by omega) (Or.inl (by rw [Int.zero_mul]; rfl)) rfl p13 (by rw [Int.zero_mul, if_pos (by omega)]; decide) h10 FrF.rf h12 h134 h135 h136 h137 h9 Fr.rf) rfl (by rw [Int.zero_mul]) rfl rfl
theorem c_Mo_encode1_large (E : EV) (f : Nat → va_E) (F : Nat → Value) (P : PS) (w : Int) (s : Int) (b : Int → Int) (sz : Int → Int) (gF : Int → Int) (mt : Int → Int) (ms : Int → Int) (ma : Int → Int) (mn : Int → Int) (nr : Int → Int) (sm : Int → Int) (pt : Int → Int) (ps : Int → Int) (dr : Int → Int) (hMo : f 61 = mob F) (hmk : moK E F) (hF11 : F 11 = .int (zI (pC P))) (hF12 : F 12 = .int (zI s)) (hF13 : F 13 = .int (zI w)) (hc63 : f 63 = iz E 1600 b) (hc64 : f 64 = iz E 4 sz) (hc69 : f 69 = iz E 700 mt) (hc70 : f 70 = iz E 700 ms) (hc71 : f 71 = iz E 700 ma) (hc72 : f 72 = iz E 700 mn) (hc78 : f 78 = iz E 8 nr) (hc79 : f 79 = iz E 1024 sm) (hc76 : f 76 = iz E 3 ps) (hc77 : f 77 = iz E 3000 pt) (hc75 : f 75 = iz E 3000 dr) (hsz : ∀ k, 0 ≤ k → k ≤ 3 → 0 ≤ sz k ∧ sz k ≤ (if k = 2 then 700 else 300)) (hpe : plE mt ms ma mn P) (hPB : plB P) (hW : plW P w (sz 1)) (hw : 16 ≤ w ∧ w ≤ 256) (hs : 0 ≤ s ∧ s ≤ 300) (hG : isB gF) (hag : ∀ j, 0 ≤ j → j < sz 1 → b (300 + j) = gF j) (hlg : 700 < ((enF P w s gF (sz 1) 1).length : Int)) : CF yn_Mo_encode cd_Mo_encode 4 (some (.int)) 5 E [.ref (eA E 61), .int (zI 1)] f (fun r f' => r = some (.int (zI (-4))) ∧ ∃ (F' : Nat → Value) (nr' : Int → Int) (sm' : Int → Int) (pt' : Int → Int) (ps' : Int → Int) (dr' : Int → Int), f' 61 = mob F' ∧ FrF [21, 25, 26, 27] F F' ∧ f' 78 = iz E 8 nr' ∧ f' 79 = iz E 1024 sm' ∧ f' 76 = iz E 3 ps' ∧ f' 77 = iz E 3000 pt' ∧ f' 75 = iz E 3000 dr' ∧ Fr [78, 79, 76, 77, 75, 61] f f') := by
  refine CF.of (by decide +kernel) (Nat.le_of_ble_eq_true rfl) fun X hX hE => ?_
  have hX : Ok E X "DeltaFerryModel" "encode" cd_Mo_encode 4 (some (.int)) (rl 5) := hX
  refine G_cast (lv' := [(0, .ref (eA E 61)), (1, .int (zI 1))]) ?_ rfl rfl rfl rfl
  have hsz1 := hsz 1 (by decide) (by decide)
  rw [if_neg (by decide)] at hsz1
  have hWc := hW.1
  refine G_aload_n hX 0 rfl rfl d_Mo_encode_0 ?_
  refine M_get hX fg_Mo_100 d_Mo_encode_1 hMo (by decide) hF11 ?_
  refine G_if_ge_z hX (tgt := 9) d_Mo_encode_4 rfl (by omega) (fun c1 => ?_) (fun c2 => by exfalso; omega)
  refine G_aload_n hX 0 rfl rfl d_Mo_encode_9 ?_
  refine F_callV hX (st := []) (c_Mo_writeHead E f F dr hMo hmk hc75) cm_Mo_writeHead im_Mo_writeHead se_Mo_writeHead rfl ml_Mo_335 d_Mo_encode_10 (by decide) hMo rfl rfl (Nat.le_of_ble_eq_true rfl) (by decide) ?_
  rintro _ f3 ⟨rfl, F6, nd'_7, dr'_8, h9, h10, k11, h12, p13, k14⟩
  refine G_cast (st' := []) ?_ rfl rfl rfl rfl
  refine G_iconst hX d_Mo_encode_13 ?_
  refine G_istore_n hX (lv' := [(2, .int (zI 0)), (0, .ref (eA E 61)), (1, .int (zI 1))]) rfl (by decide) rfl d_Mo_encode_14 ?_
  refine G_iconst hX d_Mo_encode_15 ?_
  refine G_istore_n hX (lv' := [(3, .int (zI 0)), (2, .int (zI 0)), (0, .ref (eA E 61)), (1, .int (zI 1))]) rfl (by decide) rfl d_Mo_encode_16 ?_
  have loop18 : ∀ (q : Nat) (num : Int) (a : Int) (k : Nat) (L : List Int) (nd1 : Int) (dr1 : Int → Int) (nr1 : Int → Int) (sm1 : Int → Int) (pt1 : Int → Int) (ps1 : Int → Int) (F15 : Nat → Value) (f19 : Nat → va_E), (sz 1 - num * w).toNat < q → (0 ≤ num ∧ sz 1 - num * w ≤ k ∧ num * w ≤ 600) → (0 ≤ a ∧ a ≤ pC P) → (num * w = psI P a ∨ sz 1 ≤ num * w) → (enF P w s gF (sz 1) 1 = L ++ enL P w s gF (sz 1) 1 k num a) → (rep dr1 nd1 L) → ((L.length : Int) ≤ 6 * (if num * w ≤ sz 1 then num * w else sz 1) + 30 * num + 5) → (F15 21 = .int (zI nd1)) → (FrF [21, 25, 26, 27] F6 F15) → f19 75 = iz E 3000 dr1 → f19 78 = iz E 8 nr1 → f19 79 = iz E 1024 sm1 → f19 77 = iz E 3000 pt1 → f19 76 = iz E 3 ps1 → f19 61 = mob F15 → Fr [75, 76, 77, 78, 79, 61] f3 f19 → G E X 0 0 17 [(0, .ref (eA E 61)), (1, .int (zI 1)), (2, .int (zI a)), (3, .int (zI (num * w)))] [] (wl E f19) := by
    intro q
    induction q with
    | zero => intro num a k L nd1 dr1 nr1 sm1 pt1 ps1 F15 f19 hms21; exact absurd hms21 (Nat.not_lt_zero _)
    | succ q ih22 =>
      intro num a k L nd1 dr1 nr1 sm1 pt1 ps1 F15 f19 hms21 hn ha hx hL hr1 hln h16 k17 h23 h24 h25 h26 h27 h28 k20
      have hn0 : 0 ≤ num * w := Int.mul_nonneg hn.1 (by omega)
      have hn16 : num * 16 ≤ num * w := Int.mul_le_mul_of_nonneg_left (by omega) hn.1
      have hnx : (num + 1) * w = num * w + w := by rw [Int.add_mul, Int.one_mul]
      refine G_iload_n hX 3 rfl rfl d_Mo_encode_17 ?_
      refine G_aload_n hX 0 rfl rfl d_Mo_encode_18 ?_
      have h29 : F15 2 = .ref (eA E 64) := (k17 2 (by decide)).trans ((k11 2 (by decide)).trans (hmk 2 64 (by decide)))
      refine M_get hX fg_Mo_81 d_Mo_encode_19 h28 (by decide) h29 ?_
      refine G_iconst hX d_Mo_encode_22 ?_
      have h30 : f19 64 = iz E 4 sz := (k20 64 (by decide)).trans ((k14 64 (by decide)).trans hc64)
      refine F_iald hX d_Mo_encode_23 64 (by decide) h30 (by omega) ?_
      refine G_icmp_ge_z hX (tgt := 80) d_Mo_encode_24 rfl (by omega) (fun c31 => ?_) (fun c32 => ?_)
      · skip
        rw [enL_e (by omega), List.append_nil] at hL
        have hnd : nd1 = ((enF P w s gF (sz 1) 1).length : Int) := by rw [hL]; exact hr1.1
        have hnd2 : nd1 = (L.length : Int) := hr1.1
        have hnum : num ≤ 37 := by omega
        have hln2 : (L.length : Int) ≤ 6 * sz 1 + 30 * num + 5 := by split at hln <;> omega
        refine G_aload_n hX 0 rfl rfl d_Mo_encode_80 ?_
        refine M_get hX fg_Mo_292 d_Mo_encode_81 h28 (by decide) h16 ?_
        refine G_sipush hX (by decide) d_Mo_encode_84 ?_
        refine G_icmp_le_z hX (tgt := 93) d_Mo_encode_87 rfl (by omega) (fun c33 => by exfalso; omega) (fun c34 => ?_)
        refine G_bipush hX (by decide) d_Mo_encode_90 ?_
        exact F_iret hX hE d_Mo_encode_92 ⟨rfl, F15, _, _, _, _, _, h28, (FrF.tr (FrF.tr FrF.rf k11 (by decide)) k17 (by decide)), h24, h25, h27, h26, h23, (Fr.tr (Fr.tr Fr.rf k14 (by decide)) k20 (by decide))⟩
      · skip
        have hxe : num * w = psI P a := by rcases hx with h9 | h9; exact h9; omega
        have hok := wnOK_of hW hw hsz1.2 ha hxe hn0
        have hsw := wnOK_sz hW hw hsz1.2 ha hxe (by omega)
        have hwb := wnE_b (P := P) (num := num) ha.2
        have hst := hL.trans (congrArg (fun q => L ++ q) (enL_s (by omega) hn.2.1))
        obtain ⟨n, hnn⟩ : ∃ n, n = (if w ≤ sz 1 - num * w then w else sz 1 - num * w) := ⟨_, rfl⟩
        have hnb : 0 < n ∧ n ≤ w ∧ n ≤ sz 1 - num * w := by rw [hnn]; split <;> omega
        rw [← hnn] at hsw
        rw [if_pos (by omega)] at hln
        refine G_aload_n hX 0 rfl rfl d_Mo_encode_27 ?_
        refine G_iload_n hX 2 rfl rfl d_Mo_encode_28 ?_
        refine G_iload_n hX 3 rfl rfl d_Mo_encode_29 ?_
        have h35 : F15 12 = .int (zI s) := (k17 12 (by decide)).trans ((k11 12 (by decide)).trans hF12)
        have h36 : F15 13 = .int (zI w) := (k17 13 (by decide)).trans ((k11 13 (by decide)).trans hF13)
        have h37 : F15 11 = .int (zI (pC P)) := (k17 11 (by decide)).trans ((k11 11 (by decide)).trans hF11)
        have h38 : f19 63 = iz E 1600 b := (k20 63 (by decide)).trans ((k14 63 (by decide)).trans hc63)
        have h39 : f19 69 = iz E 700 mt := (k20 69 (by decide)).trans ((k14 69 (by decide)).trans hc69)
        have h40 : f19 70 = iz E 700 ms := (k20 70 (by decide)).trans ((k14 70 (by decide)).trans hc70)
        have h41 : f19 71 = iz E 700 ma := (k20 71 (by decide)).trans ((k14 71 (by decide)).trans hc71)
        have h42 : f19 72 = iz E 700 mn := (k20 72 (by decide)).trans ((k14 72 (by decide)).trans hc72)
        refine F_callV hX (st := []) (c_Mo_layWindow E f19 F15 a (num * w) P num w s (sz 1) b gF mt ms ma mn nr1 sm1 pt1 ps1 h28 (moK_fr hmk (FrF.tr (FrF.tr (FrF.rf (S := [21, 25, 26, 27])) k11 (by decide)) k17 (by decide)) (by decide)) h37 h35 h36 h38 h39 h40 h41 h42 h24 h25 h27 h26 hpe hPB hok (by omega) (by omega) ⟨rfl, by omega⟩ (by omega) hag) cm_Mo_layWindow im_Mo_layWindow se_Mo_layWindow rfl ml_Mo_338 d_Mo_encode_30 (by decide) h28 rfl rfl (Nat.le_of_ble_eq_true rfl) (by decide) ?_
        rintro _ f43 ⟨rfl, F46, nr'_47, sm'_48, pt'_49, ps'_50, h51, k52, h53, h54, h55, h56, p57, p58, k59⟩
        refine G_cast (st' := [.int (zI (wnE P num a))]) ?_ rfl rfl rfl rfl
        refine G_istore_n hX (lv' := [(2, .int (zI (wnE P num a))), (0, .ref (eA E 61)), (1, .int (zI 1)), (3, .int (zI (num * w)))]) rfl (by decide) rfl d_Mo_encode_33 ?_
        refine G_aload_n hX 1 rfl rfl d_Mo_encode_34 ?_
        refine G_iload_n hX 3 rfl rfl d_Mo_encode_35 ?_
        refine G_aload_n hX 1 rfl rfl d_Mo_encode_36 ?_
        have h60 : F46 13 = .int (zI w) := (k52 13 (by decide)).trans h36
        refine M_get hX fg_Mo_246 d_Mo_encode_37 h51 (by decide) h60 ?_
        refine G_iadd_z hX d_Mo_encode_40 ?_
        refine G_aload_n hX 1 rfl rfl d_Mo_encode_41 ?_
        have h61 : F46 2 = .ref (eA E 64) := (k52 2 (by decide)).trans h29
        refine M_get hX fg_Mo_81 d_Mo_encode_42 h51 (by decide) h61 ?_
        refine G_iconst hX d_Mo_encode_45 ?_
        have h62 : f43 64 = iz E 4 sz := (k59 64 (by decide)).trans h30
        refine F_iald hX d_Mo_encode_46 64 (by decide) h62 (by omega) ?_
        refine G_icmp_ge_z hX (tgt := 57) d_Mo_encode_47 rfl (by omega) (fun c63 => ?_) (fun c64 => ?_)
        · skip
          refine G_aload_n hX 1 rfl rfl d_Mo_encode_57 ?_
          refine M_get hX fg_Mo_81 d_Mo_encode_58 h51 (by decide) h61 ?_
          refine G_iconst hX d_Mo_encode_61 ?_
          refine F_iald hX d_Mo_encode_62 64 (by decide) h62 (by omega) ?_
          refine G_iload_n hX 3 rfl rfl d_Mo_encode_63 ?_
          refine G_isub_z hX d_Mo_encode_64 ?_
          refine G_top (show zI ((sz 1) - (num * w)) = zI n from congrArg zI (by rw [hnn]; split <;> omega)) ?_
          have hl3 := p58
          rw [hsw] at hl3
          refine G_iload_n hX 3 rfl rfl d_Mo_encode_65 ?_
          refine G_iload_n hX 2 rfl rfl d_Mo_encode_66 ?_
          have h65 : F46 12 = .int (zI s) := (k52 12 (by decide)).trans h35
          have h66 : F46 21 = .int (zI nd1) := (k52 21 (by decide)).trans h16
          have h67 : f43 63 = iz E 1600 b := (k59 63 (by decide)).trans h38
          have h68 : f43 75 = iz E 3000 dr1 := (k59 75 (by decide)).trans h23
          refine F_callV hX (st := []) (c_Mo_writeWindow1 E f43 F46 n (num * w) s b gF pt'_49 ps'_50 (gdL P gF (wnE P num a - a).toNat a) (cdL P (mdI P a s) (wnE P num a) (wnE P num a - a).toNat a) (adL P a s (wnE P num a - a).toNat a) nd1 dr1 L h51 (moK_fr hmk (FrF.tr (FrF.tr (FrF.tr (FrF.rf (S := [21, 25, 26, 27])) k11 (by decide)) k17 (by decide)) k52 (by decide)) (by decide)) h65 h66 h67 h55 h56 h68 p57 (by omega) (by omega) hr1 (by omega) (by omega) hG (fun j h1 h2 => hag j h1 (by omega))) cm_Mo_writeWindow im_Mo_writeWindow se_Mo_writeWindow rfl ml_Mo_341 d_Mo_encode_67 (by decide) h51 rfl rfl (Nat.le_of_ble_eq_true rfl) (by decide) ?_
          rintro _ f69 ⟨rfl, F72, nd'_73, dr'_74, h75, h76, k77, h78, p79, k80⟩
          refine G_cast (st' := []) ?_ rfl rfl rfl rfl
          refine G_iload_n hX 3 rfl rfl d_Mo_encode_70 ?_
          refine G_aload_n hX 1 rfl rfl d_Mo_encode_71 ?_
          have h81 : F72 13 = .int (zI w) := (k77 13 (by decide)).trans h60
          refine M_get hX fg_Mo_246 d_Mo_encode_72 h75 (by decide) h81 ?_
          refine G_iadd_z hX d_Mo_encode_75 ?_
          refine G_istore_n hX (lv' := [(3, .int (zI ((num * w) + w))), (2, .int (zI (wnE P num a))), (0, .ref (eA E 61)), (1, .int (zI 1))]) rfl (by decide) rfl d_Mo_encode_76 ?_
          refine G_goto hX (tgt := 17) d_Mo_encode_77 rfl ?_
          have hwl := wnL_len (ck := 1) hnn hl3 hs.2 (by omega) (by omega)
          have h82 : f69 78 = iz E 8 nr'_47 := (k80 78 (by decide)).trans h53
          have h83 : f69 79 = iz E 1024 sm'_48 := (k80 79 (by decide)).trans h54
          have h84 : f69 77 = iz E 3000 pt'_49 := (k80 77 (by decide)).trans h56
          have h85 : f69 76 = iz E 3 ps'_50 := (k80 76 (by decide)).trans h55
          refine G_loc (lv' := [(0, .ref (eA E 61)), (1, .int (zI 1)), (2, .int (zI (wnE P num a))), (3, .int (zI ((num * w) + w)))]) [2, 3, 1, 0] rfl ?_
          refine G_cast (ih22 (num + 1) (wnE P num a) (k - 1) (L ++ wnL P w s gF (sz 1) num a 1) nd'_73 dr'_74 nr'_47 sm'_48 pt'_49 ps'_50 F72 f69 (by rw [hnx]; omega) (by rw [hnx]; omega) (by omega) (by rw [hnx, hsw]; by_cases q9 : w ≤ sz 1 - num * w; exact Or.inl (by rw [hnn, if_pos q9]); exact Or.inr (by omega)) (by rw [List.append_assoc]; exact hst) (by unfold wnL; rw [← hnn]; exact p79) (by rw [hnx, List.length_append, Int.natCast_add]; have q8 : n = (if num * w + w ≤ sz 1 then num * w + w else sz 1) - num * w := (by rw [hnn]; split <;> split <;> omega); omega) h76 (FrF.tr (FrF.tr (FrF.tr FrF.rf k17 (by decide)) k52 (by decide)) k77 (by decide)) h78 h82 h83 h84 h85 h75 (Fr.tr (Fr.tr (Fr.tr Fr.rf k20 (by decide)) k59 (by decide)) k80 (by decide))) rfl (by rw [hnx]) rfl rfl
        · skip
          refine G_aload_n hX 1 rfl rfl d_Mo_encode_50 ?_
          refine M_get hX fg_Mo_246 d_Mo_encode_51 h51 (by decide) h60 ?_
          refine G_goto hX (tgt := 65) d_Mo_encode_54 rfl ?_
          refine G_top (show zI w = zI n from congrArg zI (by rw [hnn]; split <;> omega)) ?_
          have hl3 := p58
          rw [hsw] at hl3
          refine G_iload_n hX 3 rfl rfl d_Mo_encode_65 ?_
          refine G_iload_n hX 2 rfl rfl d_Mo_encode_66 ?_
          have h86 : F46 12 = .int (zI s) := (k52 12 (by decide)).trans h35
          have h87 : F46 21 = .int (zI nd1) := (k52 21 (by decide)).trans h16
          have h88 : f43 63 = iz E 1600 b := (k59 63 (by decide)).trans h38
          have h89 : f43 75 = iz E 3000 dr1 := (k59 75 (by decide)).trans h23
          refine F_callV hX (st := []) (c_Mo_writeWindow1 E f43 F46 n (num * w) s b gF pt'_49 ps'_50 (gdL P gF (wnE P num a - a).toNat a) (cdL P (mdI P a s) (wnE P num a) (wnE P num a - a).toNat a) (adL P a s (wnE P num a - a).toNat a) nd1 dr1 L h51 (moK_fr hmk (FrF.tr (FrF.tr (FrF.tr (FrF.rf (S := [21, 25, 26, 27])) k11 (by decide)) k17 (by decide)) k52 (by decide)) (by decide)) h86 h87 h88 h55 h56 h89 p57 (by omega) (by omega) hr1 (by omega) (by omega) hG (fun j h1 h2 => hag j h1 (by omega))) cm_Mo_writeWindow im_Mo_writeWindow se_Mo_writeWindow rfl ml_Mo_341 d_Mo_encode_67 (by decide) h51 rfl rfl (Nat.le_of_ble_eq_true rfl) (by decide) ?_
          rintro _ f90 ⟨rfl, F93, nd'_94, dr'_95, h96, h97, k98, h99, p100, k101⟩
          refine G_cast (st' := []) ?_ rfl rfl rfl rfl
          refine G_iload_n hX 3 rfl rfl d_Mo_encode_70 ?_
          refine G_aload_n hX 1 rfl rfl d_Mo_encode_71 ?_
          have h102 : F93 13 = .int (zI w) := (k98 13 (by decide)).trans h60
          refine M_get hX fg_Mo_246 d_Mo_encode_72 h96 (by decide) h102 ?_
          refine G_iadd_z hX d_Mo_encode_75 ?_
          refine G_istore_n hX (lv' := [(3, .int (zI ((num * w) + w))), (2, .int (zI (wnE P num a))), (0, .ref (eA E 61)), (1, .int (zI 1))]) rfl (by decide) rfl d_Mo_encode_76 ?_
          refine G_goto hX (tgt := 17) d_Mo_encode_77 rfl ?_
          have hwl := wnL_len (ck := 1) hnn hl3 hs.2 (by omega) (by omega)
          have h103 : f90 78 = iz E 8 nr'_47 := (k101 78 (by decide)).trans h53
          have h104 : f90 79 = iz E 1024 sm'_48 := (k101 79 (by decide)).trans h54
          have h105 : f90 77 = iz E 3000 pt'_49 := (k101 77 (by decide)).trans h56
          have h106 : f90 76 = iz E 3 ps'_50 := (k101 76 (by decide)).trans h55
          refine G_loc (lv' := [(0, .ref (eA E 61)), (1, .int (zI 1)), (2, .int (zI (wnE P num a))), (3, .int (zI ((num * w) + w)))]) [2, 3, 1, 0] rfl ?_
          refine G_cast (ih22 (num + 1) (wnE P num a) (k - 1) (L ++ wnL P w s gF (sz 1) num a 1) nd'_94 dr'_95 nr'_47 sm'_48 pt'_49 ps'_50 F93 f90 (by rw [hnx]; omega) (by rw [hnx]; omega) (by omega) (by rw [hnx, hsw]; by_cases q9 : w ≤ sz 1 - num * w; exact Or.inl (by rw [hnn, if_pos q9]); exact Or.inr (by omega)) (by rw [List.append_assoc]; exact hst) (by unfold wnL; rw [← hnn]; exact p100) (by rw [hnx, List.length_append, Int.natCast_add]; have q8 : n = (if num * w + w ≤ sz 1 then num * w + w else sz 1) - num * w := (by rw [hnn]; split <;> split <;> omega); omega) h97 (FrF.tr (FrF.tr (FrF.tr FrF.rf k17 (by decide)) k52 (by decide)) k98 (by decide)) h99 h103 h104 h105 h106 h96 (Fr.tr (Fr.tr (Fr.tr Fr.rf k20 (by decide)) k59 (by decide)) k101 (by decide))) rfl (by rw [hnx]) rfl rfl
  have h107 : f3 78 = iz E 8 nr := (k14 78 (by decide)).trans hc78
  have h108 : f3 79 = iz E 1024 sm := (k14 79 (by decide)).trans hc79
  have h109 : f3 77 = iz E 3000 pt := (k14 77 (by decide)).trans hc77
  have h110 : f3 76 = iz E 3 ps := (k14 76 (by decide)).trans hc76
  refine G_loc (lv' := [(0, .ref (eA E 61)), (1, .int (zI 1)), (2, .int (zI 0)), (3, .int (zI 0))]) [2, 3, 1, 0] rfl ?_
  refine G_cast (loop18 (_ + 1) 0 0 ((sz 1).toNat) ([214, 195, 196, 0, 0]) nd'_7 dr'_8 nr sm pt ps F6 f3 (Nat.lt_succ_self _) (by omega) (by omega) (Or.inl (by rw [Int.zero_mul]; rfl)) rfl p13 (by rw [Int.zero_mul, if_pos (by omega)]; decide) h10 FrF.rf h12 h107 h108 h109 h110 h9 Fr.rf) rfl (by rw [Int.zero_mul]) rfl rfl
theorem c_Mo_encode_no (E : EV) (f : Nat → va_E) (F : Nat → Value) (ck : Int) (hMo : f 61 = mob F) (hmk : moK E F) (hF11 : F 11 = .int (zI (-1))) : CF yn_Mo_encode cd_Mo_encode 4 (some (.int)) 5 E [.ref (eA E 61), .int (zI ck)] f (fun r f' => r = some (.int (zI (-1))) ∧ f' = f) := by
  refine CF.of (by decide +kernel) (Nat.le_of_ble_eq_true rfl) fun X hX hE => ?_
  have hX : Ok E X "DeltaFerryModel" "encode" cd_Mo_encode 4 (some (.int)) (rl 5) := hX
  refine G_cast (lv' := [(0, .ref (eA E 61)), (1, .int (zI ck))]) ?_ rfl rfl rfl rfl
  refine G_aload_n hX 0 rfl rfl d_Mo_encode_0 ?_
  refine M_get hX fg_Mo_100 d_Mo_encode_1 hMo (by decide) hF11 ?_
  refine G_if_ge_z hX (tgt := 9) d_Mo_encode_4 rfl (by omega) (fun c1 => by exfalso; omega) (fun c2 => ?_)
  refine G_iconst hX d_Mo_encode_7 ?_
  exact F_iret hX hE d_Mo_encode_8 ⟨rfl, rfl⟩
