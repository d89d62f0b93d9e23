/-! DeltaFerryModel: readTable, decode; printed by wip/tools/m_mo17.py -/
theorem rdW_B {g t old : Int → Int} {N S oc nm e : Int} (hg : isB g) (ho : isB old) : ∀ (k : Nat) (p : Int) (m : Int → Int) (c : Int), isB m → isB (rdW g t old N S oc nm e k p m c).2.1 := by
  intro k
  induction k with
  | zero => intro p m c hm; exact hm
  | succ k ih =>
    intro p m c hm
    unfold rdW
    split
    · split
      · exact hm
      · split
        · exact hm
        · exact ih _ _ _ (mkM_B hg ho hm)
    · exact hm
theorem rb_y {g : Int → Int} {p e : Int} (h : p + 4 ≤ e ∧ g p = 214 ∧ g (p + 1) = 195 ∧ g (p + 2) = 196 ∧ g (p + 3) = 0) : rbV g p e = nxV g (p + 4) e := if_pos h
theorem rb_n {g : Int → Int} {p e : Int} (h : ¬ (p + 4 ≤ e ∧ g p = 214 ∧ g (p + 1) = 195 ∧ g (p + 2) = 196 ∧ g (p + 3) = 0)) : rbV g p e = -1 := if_neg h
theorem c_Mo_readTable (E : EV) (f : Nat → va_E) (F : Nat → Value) (e : Int) (st : Int → Int) (mT : Int → Int) (tb : Int → Int) (ob : Int → Int) (o : Int → Int) (nr : Int → Int) (sm : Int → Int) (av : Int → Int) (ev : Int → Int) (b : Int → Int) (g : Int → Int) (sE : Int) (hMo : f 61 = mob F) (hmk : moK E F) (hF30 : F 30 = .int (zI 5)) (hF31 : F 31 = .int (zI e)) (hF32 : F 32 = .int (zI 0)) (hF34 : F 34 = .int (zI 1536)) (hc81 : f 81 = iz E 1536 ob) (hc82 : f 82 = iz E 1536 o) (hc78 : f 78 = iz E 8 nr) (hc79 : f 79 = iz E 1024 sm) (hc83 : f 83 = iz E 3 av) (hc84 : f 84 = iz E 3 ev) (hc63 : f 63 = iz E 1600 b) (hc80 : f 80 = iz E 1536 tb) (hp : 5 ≤ e ∧ e ≤ sE ∧ sE ≤ 700) (hold : agB ob st 1536) (htb : ∀ i, 0 ≤ i → i < 1536 → tb i = st i) (hsB : isB st) (hs3 : ∀ k, 0 ≤ k → k < 512 → st k ≤ 3) (hmT : isB mT) (hG : isB g) (hgb : ∀ i, 0 ≤ i → i < sE → b (600 + i) = g i) : CF yn_Mo_readTable cd_Mo_readTable 7 (some (.int)) 8 E [.ref (eA E 61)] f (fun r f' => ∃ (F' : Nat → Value) (r' : Int) (pl' : Int) (st' : Int) (fl' : Int) (tb' : Int → Int) (o' : Int → Int) (nr' : Int → Int) (sm' : Int → Int) (av' : Int → Int) (ev' : Int → Int), r = some (.int (zI r')) ∧ f' 61 = mob F' ∧ F' 30 = .int (zI pl') ∧ F' 31 = .int (zI st') ∧ F' 32 = .int (zI fl') ∧ FrF [25, 26, 27, 30, 31, 32, 36, 37, 39, 40, 41, 42, 43] F F' ∧ f' 82 = iz E 1536 o' ∧ f' 78 = iz E 8 nr' ∧ f' 79 = iz E 1024 sm' ∧ f' 83 = iz E 3 av' ∧ f' 84 = iz E 3 ev' ∧ f' 80 = iz E 1536 tb' ∧ (fl' = tA g e st mT) ∧ (fl' = 0 → r' = g (tN g e).2 + 16 * g ((tN g e).2 + 1) ∧ pl' = tE g e ∧ st' = e ∧ (∀ x, 0 ≤ x → x < 1536 → tb' x = (tR g e st mT).2.1 x)) ∧ ((-1000000000 ≤ pl' ∧ pl' ≤ 1000000000) ∧ -1000000000 ≤ st' ∧ st' ≤ 1000000000) ∧ (0 ≤ r' ∧ r' ≤ 1000) ∧ Fr [82, 78, 79, 83, 84, 80, 61] f f') := by
  refine CF.of (by decide +kernel) (Nat.le_of_ble_eq_true rfl) fun X hX hE => ?_
  have hX : Ok E X "DeltaFerryModel" "readTable" cd_Mo_readTable 7 (some (.int)) (rl 8) := hX
  refine G_cast (lv' := [(0, .ref (eA E 61))]) ?_ rfl rfl rfl rfl
  have hnb : -1 ≤ (tN g e).1 ∧ (tN g e).1 < 268435456 ∧ 5 ≤ (tN g e).2 ∧ (tN g e).2 ≤ e := numL_4 hG hp.1
  have hte : tE g e = (tN g e).2 + (tN g e).1 := rfl
  have join4 : ∀ (gd : Int) (pp : Int) (ss : Int) (nn : Int) (ns : Int) (o9 : Int → Int) (nr9 : Int → Int) (sm9 : Int → Int) (av9 : Int → Int) (ev9 : Int → Int) (F1 : Nat → Value) (f5 : Nat → va_E), ((gd = 1 ∧ tA g e st mT = 0 ∧ pp = tE g e ∧ agB o9 (tR g e st mT).2.1 1536 ∧ nn = g (tN g e).2 ∧ ns = g ((tN g e).2 + 1)) ∨ (gd = 0 ∧ tA g e st mT = -5)) → (-1000000000 ≤ pp ∧ pp ≤ 1000000000) → (0 ≤ nn ∧ nn ≤ 8 ∧ 0 ≤ ns ∧ ns ≤ 4) → (F1 30 = .int (zI pp)) → (FrF [25, 26, 27, 30, 31, 32, 36, 37, 39, 40, 41, 42, 43] F F1) → f5 82 = iz E 1536 o9 → f5 78 = iz E 8 nr9 → f5 79 = iz E 1024 sm9 → f5 83 = iz E 3 av9 → f5 84 = iz E 3 ev9 → f5 61 = mob F1 → Fr [82, 78, 79, 83, 84, 61] f f5 → G E X 0 0 200 [(0, .ref (eA E 61)), (2, .int (zI e)), (3, .int (zI nn)), (4, .int (zI ns)), (5, .int (zI gd))] [] (wl E f5) := by
    intro gd pp ss nn ns o9 nr9 sm9 av9 ev9 F1 f5 hgd hps hnn h2 k3 h7 h8 h9 h10 h11 h12 k6
    rcases hgd with hg1 | hg1
    · skip
      refine G_aload_n hX 0 rfl rfl d_Mo_readTable_200 ?_
      refine G_iload hX 4 rfl d_Mo_readTable_201 ?_
      refine G_if_eq_z hX (tgt := 210) d_Mo_readTable_203 rfl (by omega) (fun c13 => by exfalso; omega) (fun c14 => ?_)
      refine G_iconst hX d_Mo_readTable_206 ?_
      refine G_goto hX (tgt := 212) d_Mo_readTable_207 rfl ?_
      refine M_put hX fg_Mo_345 fp_Mo_32 d_Mo_readTable_212 h12 rfl rfl (by decide) (fun f15 F16 h17 h18 k19 k20 => ?_)
      refine G_aload_n hX 0 rfl rfl d_Mo_readTable_215 ?_
      refine G_iconst hX d_Mo_readTable_216 ?_
      have h21 : f15 82 = iz E 1536 o9 := (k20 82 (by decide)).trans h7
      have h22 : f15 80 = iz E 1536 tb := (k20 80 (by decide)).trans ((k6 80 (by decide)).trans hc80)
      refine F_callV hX (st := []) (c_Mo_useTable1 E f15 F16 o9 tb h17 (moK_fr hmk (FrF.tr (FrF.tr (FrF.rf (S := [25, 26, 27, 30, 31, 32, 36, 37, 39, 40, 41, 42, 43])) k3 (by decide)) k19 (by decide)) (by decide)) h21 h22) cm_Mo_useTable im_Mo_useTable se_Mo_useTable rfl ml_Mo_422 d_Mo_readTable_217 (by decide) h17 rfl rfl (Nat.le_of_ble_eq_true rfl) (by decide) ?_
      rintro _ f23 ⟨rfl, tb'_26, h27, p28, k29⟩
      refine G_cast (st' := []) ?_ rfl rfl rfl rfl
      refine G_aload_n hX 0 rfl rfl d_Mo_readTable_220 ?_
      refine G_iload_n hX 1 rfl rfl d_Mo_readTable_221 ?_
      have h30 : f23 61 = mob F16 := (k29 61 (by decide)).trans h17
      refine M_put hX fg_Mo_351 fp_Mo_31 d_Mo_readTable_222 h30 rfl rfl (by decide) (fun f31 F32 h33 h34 k35 k36 => ?_)
      refine G_iload_n hX 2 rfl rfl d_Mo_readTable_225 ?_
      refine G_bipush hX (by decide) d_Mo_readTable_226 ?_
      refine G_iload hX 3 rfl d_Mo_readTable_228 ?_
      refine G_imul_z hX d_Mo_readTable_230 ?_
      refine G_iadd_z hX d_Mo_readTable_231 ?_
      have h37 : F32 30 = .int (zI pp) := (k35 30 (by decide)).trans ((k19 30 (by decide)).trans h2)
      have h38 : F32 32 = .int (zI 0) := (k35 32 (by decide)).trans h18
      have h39 : f31 82 = iz E 1536 o9 := (k36 82 (by decide)).trans ((k29 82 (by decide)).trans h21)
      have h40 : f31 78 = iz E 8 nr9 := (k36 78 (by decide)).trans ((k29 78 (by decide)).trans ((k20 78 (by decide)).trans h8))
      have h41 : f31 79 = iz E 1024 sm9 := (k36 79 (by decide)).trans ((k29 79 (by decide)).trans ((k20 79 (by decide)).trans h9))
      have h42 : f31 83 = iz E 3 av9 := (k36 83 (by decide)).trans ((k29 83 (by decide)).trans ((k20 83 (by decide)).trans h10))
      have h43 : f31 84 = iz E 3 ev9 := (k36 84 (by decide)).trans ((k29 84 (by decide)).trans ((k20 84 (by decide)).trans h11))
      have h44 : f31 80 = iz E 1536 tb'_26 := (k36 80 (by decide)).trans h27
      exact F_iret hX hE d_Mo_readTable_232 ⟨F32, _, _, _, _, _, _, _, _, _, _, rfl, h33, h37, h34, h38, (FrF.tr (FrF.tr (FrF.tr FrF.rf k3 (by decide)) k19 (by decide)) k35 (by decide)), h39, h40, h41, h42, h43, h44, hg1.2.1.symm, (fun _ => ⟨by rw [hg1.2.2.2.2.1, hg1.2.2.2.2.2], hg1.2.2.1, rfl, fun x h1 h2 => (p28 x h1 h2).trans (hg1.2.2.2.1 x h1 h2)⟩), (by omega), (by omega), (Fr.tr (Fr.tr (Fr.tr (Fr.tr Fr.rf k6 (by decide)) k20 (by decide)) k29 (by decide)) k36 (by decide))⟩
    · skip
      refine G_aload_n hX 0 rfl rfl d_Mo_readTable_200 ?_
      refine G_iload hX 4 rfl d_Mo_readTable_201 ?_
      refine G_if_eq_z hX (tgt := 210) d_Mo_readTable_203 rfl (by omega) (fun c45 => ?_) (fun c46 => by exfalso; omega)
      refine G_bipush hX (by decide) d_Mo_readTable_210 ?_
      refine M_put hX fg_Mo_345 fp_Mo_32 d_Mo_readTable_212 h12 rfl rfl (by decide) (fun f47 F48 h49 h50 k51 k52 => ?_)
      refine G_aload_n hX 0 rfl rfl d_Mo_readTable_215 ?_
      refine G_iconst hX d_Mo_readTable_216 ?_
      have h53 : f47 82 = iz E 1536 o9 := (k52 82 (by decide)).trans h7
      have h54 : f47 80 = iz E 1536 tb := (k52 80 (by decide)).trans ((k6 80 (by decide)).trans hc80)
      refine F_callV hX (st := []) (c_Mo_useTable1 E f47 F48 o9 tb h49 (moK_fr hmk (FrF.tr (FrF.tr (FrF.rf (S := [25, 26, 27, 30, 31, 32, 36, 37, 39, 40, 41, 42, 43])) k3 (by decide)) k51 (by decide)) (by decide)) h53 h54) cm_Mo_useTable im_Mo_useTable se_Mo_useTable rfl ml_Mo_422 d_Mo_readTable_217 (by decide) h49 rfl rfl (Nat.le_of_ble_eq_true rfl) (by decide) ?_
      rintro _ f55 ⟨rfl, tb'_58, h59, p60, k61⟩
      refine G_cast (st' := []) ?_ rfl rfl rfl rfl
      refine G_aload_n hX 0 rfl rfl d_Mo_readTable_220 ?_
      refine G_iload_n hX 1 rfl rfl d_Mo_readTable_221 ?_
      have h62 : f55 61 = mob F48 := (k61 61 (by decide)).trans h49
      refine M_put hX fg_Mo_351 fp_Mo_31 d_Mo_readTable_222 h62 rfl rfl (by decide) (fun f63 F64 h65 h66 k67 k68 => ?_)
      refine G_iload_n hX 2 rfl rfl d_Mo_readTable_225 ?_
      refine G_bipush hX (by decide) d_Mo_readTable_226 ?_
      refine G_iload hX 3 rfl d_Mo_readTable_228 ?_
      refine G_imul_z hX d_Mo_readTable_230 ?_
      refine G_iadd_z hX d_Mo_readTable_231 ?_
      have h69 : F64 30 = .int (zI pp) := (k67 30 (by decide)).trans ((k51 30 (by decide)).trans h2)
      have h70 : F64 32 = .int (zI (-5)) := (k67 32 (by decide)).trans h50
      have h71 : f63 82 = iz E 1536 o9 := (k68 82 (by decide)).trans ((k61 82 (by decide)).trans h53)
      have h72 : f63 78 = iz E 8 nr9 := (k68 78 (by decide)).trans ((k61 78 (by decide)).trans ((k52 78 (by decide)).trans h8))
      have h73 : f63 79 = iz E 1024 sm9 := (k68 79 (by decide)).trans ((k61 79 (by decide)).trans ((k52 79 (by decide)).trans h9))
      have h74 : f63 83 = iz E 3 av9 := (k68 83 (by decide)).trans ((k61 83 (by decide)).trans ((k52 83 (by decide)).trans h10))
      have h75 : f63 84 = iz E 3 ev9 := (k68 84 (by decide)).trans ((k61 84 (by decide)).trans ((k52 84 (by decide)).trans h11))
      have h76 : f63 80 = iz E 1536 tb'_58 := (k68 80 (by decide)).trans h59
      exact F_iret hX hE d_Mo_readTable_232 ⟨F64, _, _, _, _, _, _, _, _, _, _, rfl, h65, h69, h66, h70, (FrF.tr (FrF.tr (FrF.tr FrF.rf k3 (by decide)) k51 (by decide)) k67 (by decide)), h71, h72, h73, h74, h75, h76, hg1.2.symm, (fun q8 => absurd q8 (by decide)), (by omega), (by omega), (Fr.tr (Fr.tr (Fr.tr (Fr.tr Fr.rf k6 (by decide)) k52 (by decide)) k61 (by decide)) k68 (by decide))⟩
  have join82 : ∀ (fl : Int) (pp : Int) (ss : Int) (nn : Int) (ns : Int) (F77 : Nat → Value) (f83 : Nat → va_E), (fl ≠ 0 ∧ -10 ≤ fl ∧ fl ≤ 0) → (tA g e st mT = -5) → ((-100000000 ≤ pp ∧ pp ≤ 500000000) ∧ -100000000 ≤ ss ∧ ss ≤ 500000000) → (0 ≤ nn ∧ nn ≤ 8) → (0 ≤ ns ∧ ns ≤ 4) → (F77 32 = .int (zI fl)) → (F77 30 = .int (zI pp)) → (F77 31 = .int (zI ss)) → (FrF [25, 26, 27, 30, 31, 32, 36, 37, 39, 40, 41, 42, 43] F F77) → f83 61 = mob F77 → Fr [61] f f83 → G E X 0 0 123 [(0, .ref (eA E 61)), (2, .int (zI e)), (3, .int (zI nn)), (4, .int (zI ns))] [] (wl E f83) := by
    intro fl pp ss nn ns F77 f83 hfl hdd hps h_nn h_ns h78 h79 h80 k81 h85 k84
    refine G_aload_n hX 0 rfl rfl d_Mo_readTable_123 ?_
    refine G_sipush hX (by decide) d_Mo_readTable_124 ?_
    refine M_put hX fg_Mo_407 fp_Mo_37 d_Mo_readTable_127 h85 rfl rfl (by decide) (fun f86 F87 h88 h89 k90 k91 => ?_)
    refine G_aload_n hX 0 rfl rfl d_Mo_readTable_130 ?_
    refine G_iconst hX d_Mo_readTable_131 ?_
    refine G_iconst hX d_Mo_readTable_132 ?_
    have h92 : F87 30 = .int (zI pp) := (k90 30 (by decide)).trans h79
    have h93 : F87 31 = .int (zI ss) := (k90 31 (by decide)).trans h80
    have h94 : F87 32 = .int (zI fl) := (k90 32 (by decide)).trans h78
    refine F_callV hX (st := []) (c_Mo_readWindows_f E f86 F87 4 3 pp ss fl h88 (moK_fr hmk (FrF.tr (FrF.tr (FrF.rf (S := [25, 26, 27, 30, 31, 32, 36, 37, 39, 40, 41, 42, 43])) k81 (by decide)) k90 (by decide)) (by decide)) h92 h93 h94 hfl (by omega)) cm_Mo_readWindows im_Mo_readWindows se_Mo_readWindows rfl ml_Mo_419 d_Mo_readTable_133 (by decide) h88 rfl rfl (Nat.le_of_ble_eq_true rfl) (by decide) ?_
    rintro _ f95 ⟨rfl, F98, h99, h100, k101, k102⟩
    refine G_cast (st' := []) ?_ rfl rfl rfl rfl
    refine G_aload_n hX 0 rfl rfl d_Mo_readTable_136 ?_
    have h103 : F98 32 = .int (zI fl) := (k101 32 (by decide)).trans h94
    refine M_get hX fg_Mo_345 d_Mo_readTable_137 h99 (by decide) h103 ?_
    refine G_if_ne_z hX (tgt := 157) d_Mo_readTable_140 rfl (by omega) (fun c104 => ?_) (fun c105 => by exfalso; omega)
    refine G_iconst hX d_Mo_readTable_157 ?_
    refine G_istore hX (lv' := [(5, .int (zI 0)), (0, .ref (eA E 61)), (2, .int (zI e)), (3, .int (zI nn)), (4, .int (zI ns))]) (by decide) rfl d_Mo_readTable_158 ?_
    refine G_iconst hX d_Mo_readTable_160 ?_
    refine G_istore hX (lv' := [(6, .int (zI 0)), (5, .int (zI 0)), (0, .ref (eA E 61)), (2, .int (zI e)), (3, .int (zI nn)), (4, .int (zI ns))]) (by decide) rfl d_Mo_readTable_161 ?_
    refine G_iload hX 0 rfl d_Mo_readTable_163 ?_
    refine G_sipush hX (by decide) d_Mo_readTable_165 ?_
    refine G_icmp_ge_z hX (tgt := 200) d_Mo_readTable_168 rfl (by omega) (fun c106 => by exfalso; omega) (fun c107 => ?_)
    refine G_iload hX 1 rfl d_Mo_readTable_171 ?_
    refine G_if_eq_z hX (tgt := 200) d_Mo_readTable_173 rfl (by omega) (fun c108 => ?_) (fun c109 => by exfalso; omega)
    have h110 : f95 82 = iz E 1536 o := (k102 82 (by decide)).trans ((k91 82 (by decide)).trans ((k84 82 (by decide)).trans hc82))
    have h111 : f95 78 = iz E 8 nr := (k102 78 (by decide)).trans ((k91 78 (by decide)).trans ((k84 78 (by decide)).trans hc78))
    have h112 : f95 79 = iz E 1024 sm := (k102 79 (by decide)).trans ((k91 79 (by decide)).trans ((k84 79 (by decide)).trans hc79))
    have h113 : f95 83 = iz E 3 av := (k102 83 (by decide)).trans ((k91 83 (by decide)).trans ((k84 83 (by decide)).trans hc83))
    have h114 : f95 84 = iz E 3 ev := (k102 84 (by decide)).trans ((k91 84 (by decide)).trans ((k84 84 (by decide)).trans hc84))
    have h115 : F98 30 = .int (zI pp) := (k101 30 (by decide)).trans h92
    refine G_loc (lv' := [(0, .ref (eA E 61)), (2, .int (zI e)), (3, .int (zI nn)), (4, .int (zI ns)), (5, .int (zI 0))]) [2, 3, 4, 5, 1] rfl ?_
    exact join4 0 pp 0 nn ns o nr sm av ev F98 f95  (Or.inr ⟨rfl, hdd⟩) (by omega) (by omega) h115 (FrF.tr (FrF.tr (FrF.tr FrF.rf k81 (by decide)) k90 (by decide)) k101 (by decide)) h110 h111 h112 h113 h114 h99 (Fr.tr (Fr.tr (Fr.tr Fr.rf k84 (by decide)) k91 (by decide)) k102 (by decide))
  have join121 : ∀ (fl : Int) (pp : Int) (ss : Int) (al : Int) (F116 : Nat → Value) (f122 : Nat → va_E), (fl ≠ 0 ∧ -10 ≤ fl ∧ fl ≤ 0) → (tA g e st mT = fl) → ((-100000000 ≤ pp ∧ pp ≤ 500000000) ∧ -100000000 ≤ ss ∧ ss ≤ 500000000) → (0 ≤ al ∧ al < 268435456) → (F116 32 = .int (zI fl)) → (F116 30 = .int (zI pp)) → (F116 31 = .int (zI ss)) → (FrF [25, 26, 27, 30, 31, 32, 36, 37, 39, 40, 41, 42, 43] F F116) → f122 61 = mob F116 → Fr [61] f f122 → G E X 0 0 29 [(0, .ref (eA E 61)), (1, .int (zI al))] [] (wl E f122) := by
    intro fl pp ss al F116 f122 hfl hdd hps h_al h117 h118 h119 k120 h124 k123
    refine G_aload_n hX 0 rfl rfl d_Mo_readTable_29 ?_
    refine M_get hX fg_Mo_351 d_Mo_readTable_30 h124 (by decide) h119 ?_
    refine G_istore_n hX (lv' := [(2, .int (zI ss)), (0, .ref (eA E 61)), (1, .int (zI al))]) rfl (by decide) rfl d_Mo_readTable_33 ?_
    refine G_aload_n hX 1 rfl rfl d_Mo_readTable_34 ?_
    refine G_aload_n hX 1 rfl rfl d_Mo_readTable_35 ?_
    refine M_get hX fg_Mo_345 d_Mo_readTable_36 h124 (by decide) h117 ?_
    refine G_if_ne_z hX (tgt := 51) d_Mo_readTable_39 rfl (by omega) (fun c125 => ?_) (fun c126 => by exfalso; omega)
    refine G_aload_n hX 1 rfl rfl d_Mo_readTable_51 ?_
    refine M_get hX fg_Mo_351 d_Mo_readTable_52 h124 (by decide) h119 ?_
    refine M_put hX fg_Mo_351 fp_Mo_31 d_Mo_readTable_55 h124 rfl rfl (by decide) (fun f127 F128 h129 h130 k131 k132 => ?_)
    refine G_aload_n hX 1 rfl rfl d_Mo_readTable_58 ?_
    have h133 : F128 32 = .int (zI fl) := (k131 32 (by decide)).trans h117
    refine F_callV hX (st := []) (c_Mo_readByte_f E f127 F128 fl h129 (moK_fr hmk (FrF.tr (FrF.tr (FrF.rf (S := [25, 26, 27, 30, 31, 32, 36, 37, 39, 40, 41, 42, 43])) k120 (by decide)) k131 (by decide)) (by decide)) h133 (by omega)) cm_Mo_readByte im_Mo_readByte se_Mo_readByte rfl ml_Mo_357 d_Mo_readTable_59 (by decide) h129 rfl rfl (Nat.le_of_ble_eq_true rfl) (by decide) ?_
    rintro _ f134 ⟨rfl, F137, h138, h139, k140, k141⟩
    refine G_cast (st' := [.int (zI 0)]) ?_ rfl rfl rfl rfl
    refine G_istore_n hX (lv' := [(3, .int (zI 0)), (2, .int (zI ss)), (0, .ref (eA E 61)), (1, .int (zI al))]) rfl (by decide) rfl d_Mo_readTable_62 ?_
    refine G_iload_n hX 0 rfl rfl d_Mo_readTable_63 ?_
    refine G_bipush hX (by decide) d_Mo_readTable_64 ?_
    refine G_icmp_le_z hX (tgt := 73) d_Mo_readTable_66 rfl (by omega) (fun c142 => ?_) (fun c143 => by exfalso; omega)
    refine G_aload_n hX 2 rfl rfl d_Mo_readTable_73 ?_
    refine F_callV hX (st := []) (c_Mo_readByte_f E f134 F137 fl h138 (moK_fr hmk (FrF.tr (FrF.tr (FrF.tr (FrF.rf (S := [25, 26, 27, 30, 31, 32, 36, 37, 39, 40, 41, 42, 43])) k120 (by decide)) k131 (by decide)) k140 (by decide)) (by decide)) h139 (by omega)) cm_Mo_readByte im_Mo_readByte se_Mo_readByte rfl ml_Mo_357 d_Mo_readTable_74 (by decide) h138 rfl rfl (Nat.le_of_ble_eq_true rfl) (by decide) ?_
    rintro _ f144 ⟨rfl, F147, h148, h149, k150, k151⟩
    refine G_cast (st' := [.int (zI 0)]) ?_ rfl rfl rfl rfl
    refine G_istore hX (lv' := [(4, .int (zI 0)), (3, .int (zI 0)), (2, .int (zI ss)), (0, .ref (eA E 61)), (1, .int (zI al))]) (by decide) rfl d_Mo_readTable_77 ?_
    refine G_iload_n hX 1 rfl rfl d_Mo_readTable_79 ?_
    refine G_bipush hX (by decide) d_Mo_readTable_80 ?_
    refine G_icmp_gt_z hX (tgt := 91) d_Mo_readTable_82 rfl (by omega) (fun c152 => by exfalso; omega) (fun c153 => ?_)
    refine G_iload hX 0 rfl d_Mo_readTable_85 ?_
    refine G_iconst hX d_Mo_readTable_87 ?_
    refine G_icmp_le_z hX (tgt := 97) d_Mo_readTable_88 rfl (by omega) (fun c154 => ?_) (fun c155 => by exfalso; omega)
    refine G_aload_n hX 3 rfl rfl d_Mo_readTable_97 ?_
    refine M_get hX fg_Mo_345 d_Mo_readTable_98 h148 (by decide) h149 ?_
    refine G_if_eq_z hX (tgt := 106) d_Mo_readTable_101 rfl (by omega) (fun c156 => by exfalso; omega) (fun c157 => ?_)
    refine G_iconst hX d_Mo_readTable_104 ?_
    have h158 : F147 30 = .int (zI pp) := (k150 30 (by decide)).trans ((k140 30 (by decide)).trans ((k131 30 (by decide)).trans h118))
    have h159 : F147 31 = .int (zI ss) := (k150 31 (by decide)).trans ((k140 31 (by decide)).trans h130)
    have h160 : f144 82 = iz E 1536 o := (k151 82 (by decide)).trans ((k141 82 (by decide)).trans ((k132 82 (by decide)).trans ((k123 82 (by decide)).trans hc82)))
    have h161 : f144 78 = iz E 8 nr := (k151 78 (by decide)).trans ((k141 78 (by decide)).trans ((k132 78 (by decide)).trans ((k123 78 (by decide)).trans hc78)))
    have h162 : f144 79 = iz E 1024 sm := (k151 79 (by decide)).trans ((k141 79 (by decide)).trans ((k132 79 (by decide)).trans ((k123 79 (by decide)).trans hc79)))
    have h163 : f144 83 = iz E 3 av := (k151 83 (by decide)).trans ((k141 83 (by decide)).trans ((k132 83 (by decide)).trans ((k123 83 (by decide)).trans hc83)))
    have h164 : f144 84 = iz E 3 ev := (k151 84 (by decide)).trans ((k141 84 (by decide)).trans ((k132 84 (by decide)).trans ((k123 84 (by decide)).trans hc84)))
    have h165 : f144 80 = iz E 1536 tb := (k151 80 (by decide)).trans ((k141 80 (by decide)).trans ((k132 80 (by decide)).trans ((k123 80 (by decide)).trans hc80)))
    exact F_iret hX hE d_Mo_readTable_105 ⟨F147, _, _, _, _, _, _, _, _, _, _, rfl, h148, h158, h159, h149, (FrF.tr (FrF.tr (FrF.tr (FrF.tr FrF.rf k120 (by decide)) k131 (by decide)) k140 (by decide)) k150 (by decide)), h160, h161, h162, h163, h164, h165, hdd.symm, (fun q8 => absurd q8 hfl.1), (by omega), (by decide), (Fr.tr (Fr.tr (Fr.tr (Fr.tr Fr.rf k123 (by decide)) k132 (by decide)) k141 (by decide)) k151 (by decide))⟩
  by_cases qn : (tN g e).1 < 0
  · skip
    have hdd : tA g e st mT = -2 := by unfold tA; rw [if_pos (Or.inl (by omega))]
    refine G_aload_n hX 0 rfl rfl d_Mo_readTable_0 ?_
    refine F_callV hX (st := []) (c_Mo_readNumber_no E f F 5 e b g sE hMo hmk hF30 hF31 hF32 hc63 hG hgb (by omega) qn) cm_Mo_readNumber im_Mo_readNumber se_Mo_readNumber rfl ml_Mo_401 d_Mo_readTable_1 (by decide) hMo rfl rfl (Nat.le_of_ble_eq_true rfl) (by decide) ?_
    rintro _ f166 ⟨F169, r'_170, p'_171, rfl, h172, h173, h174, k175, p176, k177⟩
    refine G_cast (st' := [.int (zI r'_170)]) ?_ rfl rfl rfl rfl
    refine G_istore_n hX (lv' := [(1, .int (zI r'_170)), (0, .ref (eA E 61))]) rfl (by decide) rfl d_Mo_readTable_4 ?_
    refine G_iload_n hX 0 rfl rfl d_Mo_readTable_5 ?_
    refine G_iconst hX d_Mo_readTable_6 ?_
    refine G_icmp_lt_z hX (tgt := 23) d_Mo_readTable_7 rfl (by omega) (fun c178 => ?_) (fun c179 => ?_)
    · skip
      refine G_aload_n hX 1 rfl rfl d_Mo_readTable_23 ?_
      refine G_bipush hX (by decide) d_Mo_readTable_24 ?_
      refine F_callV hX (st := []) (c_Mo_refuse_f E f166 F169 (-2) (-2) h172 (moK_fr hmk (FrF.tr (FrF.rf (S := [30, 32])) k175 (by decide)) (by decide)) h174 (by omega)) cm_Mo_refuse im_Mo_refuse se_Mo_refuse rfl ml_Mo_354 d_Mo_readTable_26 (by decide) h172 rfl rfl (Nat.le_of_ble_eq_true rfl) (by decide) ?_
      rintro _ f180 ⟨rfl, F183, h184, h185, k186, k187⟩
      refine G_cast (st' := []) ?_ rfl rfl rfl rfl
      have h188 : F183 30 = .int (zI p'_171) := (k186 30 (by decide)).trans h173
      have h189 : F183 31 = .int (zI e) := (k186 31 (by decide)).trans ((k175 31 (by decide)).trans hF31)
      refine G_loc (lv' := [(0, .ref (eA E 61)), (1, .int (zI r'_170))]) [1, 0] rfl ?_
      exact join121 (-2) p'_171 e r'_170 F183 f180  (by decide) hdd (by omega) (by omega) h185 h188 h189 (FrF.tr (FrF.tr FrF.rf k175 (by decide)) k186 (by decide)) h184 (Fr.tr (Fr.tr Fr.rf k177 (by decide)) k187 (by decide))
    · skip
      refine G_iload_n hX 0 rfl rfl d_Mo_readTable_10 ?_
      refine G_aload_n hX 1 rfl rfl d_Mo_readTable_11 ?_
      have h190 : F169 31 = .int (zI e) := (k175 31 (by decide)).trans hF31
      refine M_get hX fg_Mo_351 d_Mo_readTable_12 h172 (by decide) h190 ?_
      refine G_aload_n hX 1 rfl rfl d_Mo_readTable_15 ?_
      refine M_get hX fg_Mo_348 d_Mo_readTable_16 h172 (by decide) h173 ?_
      refine G_isub_z hX d_Mo_readTable_19 ?_
      refine G_icmp_le_z hX (tgt := 29) d_Mo_readTable_20 rfl (by omega) (fun c191 => ?_) (fun c192 => ?_)
      · skip
        refine G_loc (lv' := [(0, .ref (eA E 61)), (1, .int (zI r'_170))]) [1, 0] rfl ?_
        exact join121 (-2) p'_171 e r'_170 F169 f166  (by decide) hdd (by omega) (by omega) h174 h173 h190 (FrF.tr FrF.rf k175 (by decide)) h172 (Fr.tr Fr.rf k177 (by decide))
      · skip
        refine G_aload_n hX 1 rfl rfl d_Mo_readTable_23 ?_
        refine G_bipush hX (by decide) d_Mo_readTable_24 ?_
        refine F_callV hX (st := []) (c_Mo_refuse_f E f166 F169 (-2) (-2) h172 (moK_fr hmk (FrF.tr (FrF.rf (S := [30, 32])) k175 (by decide)) (by decide)) h174 (by omega)) cm_Mo_refuse im_Mo_refuse se_Mo_refuse rfl ml_Mo_354 d_Mo_readTable_26 (by decide) h172 rfl rfl (Nat.le_of_ble_eq_true rfl) (by decide) ?_
        rintro _ f193 ⟨rfl, F196, h197, h198, k199, k200⟩
        refine G_cast (st' := []) ?_ rfl rfl rfl rfl
        have h201 : F196 30 = .int (zI p'_171) := (k199 30 (by decide)).trans h173
        have h202 : F196 31 = .int (zI e) := (k199 31 (by decide)).trans h190
        refine G_loc (lv' := [(0, .ref (eA E 61)), (1, .int (zI r'_170))]) [1, 0] rfl ?_
        exact join121 (-2) p'_171 e r'_170 F196 f193  (by decide) hdd (by omega) (by omega) h198 h201 h202 (FrF.tr (FrF.tr FrF.rf k175 (by decide)) k199 (by decide)) h197 (Fr.tr (Fr.tr Fr.rf k177 (by decide)) k200 (by decide))
  · skip
    refine G_aload_n hX 0 rfl rfl d_Mo_readTable_0 ?_
    refine F_callV hX (st := []) (c_Mo_readNumber_ok E f F 5 e b g sE hMo hmk hF30 hF31 hF32 hc63 hG hgb (by omega) (show 0 ≤ (tN g e).1 by omega)) cm_Mo_readNumber im_Mo_readNumber se_Mo_readNumber rfl ml_Mo_401 d_Mo_readTable_1 (by decide) hMo rfl rfl (Nat.le_of_ble_eq_true rfl) (by decide) ?_
    rintro _ f203 ⟨rfl, F206, h207, h208, k209, k210⟩
    refine G_cast (st' := [.int (zI ((numL g e 4 5 0).1))]) ?_ rfl rfl rfl rfl
    refine G_top (show zI ((numL g e 4 5 0).1) = zI ((tN g e).1) from rfl) ?_
    have h211 : F206 30 = .int (zI ((tN g e).2)) := h208.trans (congrArg (fun z => Value.int (zI z)) (rfl))
    by_cases q1 : (tN g e).1 < 2 ∨ e - (tN g e).2 < (tN g e).1
    · skip
      have hdd : tA g e st mT = -2 := by unfold tA; rw [if_pos q1]
      refine G_istore_n hX (lv' := [(1, .int (zI ((tN g e).1))), (0, .ref (eA E 61))]) rfl (by decide) rfl d_Mo_readTable_4 ?_
      refine G_iload_n hX 0 rfl rfl d_Mo_readTable_5 ?_
      refine G_iconst hX d_Mo_readTable_6 ?_
      refine G_icmp_lt_z hX (tgt := 23) d_Mo_readTable_7 rfl (by omega) (fun c212 => ?_) (fun c213 => ?_)
      · skip
        refine G_aload_n hX 1 rfl rfl d_Mo_readTable_23 ?_
        refine G_bipush hX (by decide) d_Mo_readTable_24 ?_
        have h214 : F206 32 = .int (zI 0) := (k209 32 (by decide)).trans hF32
        refine F_callV hX (st := []) (c_Mo_refuse E f203 F206 (-2) h207 (moK_fr hmk (FrF.tr (FrF.rf (S := [30])) k209 (by decide)) (by decide)) h214) cm_Mo_refuse im_Mo_refuse se_Mo_refuse rfl ml_Mo_354 d_Mo_readTable_26 (by decide) h207 rfl rfl (Nat.le_of_ble_eq_true rfl) (by decide) ?_
        rintro _ f215 ⟨rfl, F218, h219, h220, k221, k222⟩
        refine G_cast (st' := []) ?_ rfl rfl rfl rfl
        have h223 : F218 30 = .int (zI ((tN g e).2)) := (k221 30 (by decide)).trans h211
        have h224 : F218 31 = .int (zI e) := (k221 31 (by decide)).trans ((k209 31 (by decide)).trans hF31)
        refine G_loc (lv' := [(0, .ref (eA E 61)), (1, .int (zI ((tN g e).1)))]) [1, 0] rfl ?_
        exact join121 (-2) ((tN g e).2) e ((tN g e).1) F218 f215  (by decide) hdd (by omega) (by omega) h220 h223 h224 (FrF.tr (FrF.tr FrF.rf k209 (by decide)) k221 (by decide)) h219 (Fr.tr (Fr.tr Fr.rf k210 (by decide)) k222 (by decide))
      · skip
        refine G_iload_n hX 0 rfl rfl d_Mo_readTable_10 ?_
        refine G_aload_n hX 1 rfl rfl d_Mo_readTable_11 ?_
        have h225 : F206 31 = .int (zI e) := (k209 31 (by decide)).trans hF31
        refine M_get hX fg_Mo_351 d_Mo_readTable_12 h207 (by decide) h225 ?_
        refine G_aload_n hX 1 rfl rfl d_Mo_readTable_15 ?_
        refine M_get hX fg_Mo_348 d_Mo_readTable_16 h207 (by decide) h211 ?_
        refine G_isub_z hX d_Mo_readTable_19 ?_
        refine G_icmp_le_z hX (tgt := 29) d_Mo_readTable_20 rfl (by omega) (fun c226 => ?_) (fun c227 => ?_)
        · skip
          have h228 : F206 32 = .int (zI 0) := (k209 32 (by decide)).trans hF32
          exfalso; omega
        · skip
          refine G_aload_n hX 1 rfl rfl d_Mo_readTable_23 ?_
          refine G_bipush hX (by decide) d_Mo_readTable_24 ?_
          have h229 : F206 32 = .int (zI 0) := (k209 32 (by decide)).trans hF32
          refine F_callV hX (st := []) (c_Mo_refuse E f203 F206 (-2) h207 (moK_fr hmk (FrF.tr (FrF.rf (S := [30])) k209 (by decide)) (by decide)) h229) cm_Mo_refuse im_Mo_refuse se_Mo_refuse rfl ml_Mo_354 d_Mo_readTable_26 (by decide) h207 rfl rfl (Nat.le_of_ble_eq_true rfl) (by decide) ?_
          rintro _ f230 ⟨rfl, F233, h234, h235, k236, k237⟩
          refine G_cast (st' := []) ?_ rfl rfl rfl rfl
          have h238 : F233 30 = .int (zI ((tN g e).2)) := (k236 30 (by decide)).trans h211
          have h239 : F233 31 = .int (zI e) := (k236 31 (by decide)).trans h225
          refine G_loc (lv' := [(0, .ref (eA E 61)), (1, .int (zI ((tN g e).1)))]) [1, 0] rfl ?_
          exact join121 (-2) ((tN g e).2) e ((tN g e).1) F233 f230  (by decide) hdd (by omega) (by omega) h235 h238 h239 (FrF.tr (FrF.tr FrF.rf k209 (by decide)) k236 (by decide)) h234 (Fr.tr (Fr.tr Fr.rf k210 (by decide)) k237 (by decide))
    · skip
      refine G_istore_n hX (lv' := [(1, .int (zI ((tN g e).1))), (0, .ref (eA E 61))]) rfl (by decide) rfl d_Mo_readTable_4 ?_
      refine G_iload_n hX 0 rfl rfl d_Mo_readTable_5 ?_
      refine G_iconst hX d_Mo_readTable_6 ?_
      refine G_icmp_lt_z hX (tgt := 23) d_Mo_readTable_7 rfl (by omega) (fun c240 => by exfalso; omega) (fun c241 => ?_)
      refine G_iload_n hX 0 rfl rfl d_Mo_readTable_10 ?_
      refine G_aload_n hX 1 rfl rfl d_Mo_readTable_11 ?_
      have h242 : F206 31 = .int (zI e) := (k209 31 (by decide)).trans hF31
      refine M_get hX fg_Mo_351 d_Mo_readTable_12 h207 (by decide) h242 ?_
      refine G_aload_n hX 1 rfl rfl d_Mo_readTable_15 ?_
      refine M_get hX fg_Mo_348 d_Mo_readTable_16 h207 (by decide) h211 ?_
      refine G_isub_z hX d_Mo_readTable_19 ?_
      refine G_icmp_le_z hX (tgt := 29) d_Mo_readTable_20 rfl (by omega) (fun c243 => ?_) (fun c244 => by exfalso; omega)
      refine G_aload_n hX 1 rfl rfl d_Mo_readTable_29 ?_
      refine M_get hX fg_Mo_351 d_Mo_readTable_30 h207 (by decide) h242 ?_
      refine G_istore_n hX (lv' := [(2, .int (zI e)), (1, .int (zI ((tN g e).1))), (0, .ref (eA E 61))]) rfl (by decide) rfl d_Mo_readTable_33 ?_
      refine G_aload_n hX 2 rfl rfl d_Mo_readTable_34 ?_
      refine G_aload_n hX 2 rfl rfl d_Mo_readTable_35 ?_
      have h245 : F206 32 = .int (zI 0) := (k209 32 (by decide)).trans hF32
      refine M_get hX fg_Mo_345 d_Mo_readTable_36 h207 (by decide) h245 ?_
      refine G_if_ne_z hX (tgt := 51) d_Mo_readTable_39 rfl (by omega) (fun c246 => by exfalso; omega) (fun c247 => ?_)
      refine G_aload_n hX 2 rfl rfl d_Mo_readTable_42 ?_
      refine M_get hX fg_Mo_348 d_Mo_readTable_43 h207 (by decide) h211 ?_
      refine G_iload_n hX 1 rfl rfl d_Mo_readTable_46 ?_
      refine G_iadd_z hX d_Mo_readTable_47 ?_
      refine G_goto hX (tgt := 55) d_Mo_readTable_48 rfl ?_
      refine M_put hX fg_Mo_351 fp_Mo_31 d_Mo_readTable_55 h207 rfl rfl (by decide) (fun f248 F249 h250 h251 k252 k253 => ?_)
      have h254 : F249 31 = .int (zI (tE g e)) := h251.trans (congrArg (fun z => Value.int (zI z)) (rfl))
      have hg1 := hG (tN g e).2
      have hg2 := hG ((tN g e).2 + 1)
      refine G_aload_n hX 2 rfl rfl d_Mo_readTable_58 ?_
      have h255 : F249 30 = .int (zI ((tN g e).2)) := (k252 30 (by decide)).trans h211
      have h256 : F249 32 = .int (zI 0) := (k252 32 (by decide)).trans h245
      have h257 : f248 63 = iz E 1600 b := (k253 63 (by decide)).trans ((k210 63 (by decide)).trans hc63)
      refine F_callV hX (st := []) (c_Mo_readByte_ok E f248 F249 ((tN g e).2) (tE g e) b g sE h250 (moK_fr hmk (FrF.tr (FrF.tr (FrF.rf (S := [30, 31])) k209 (by decide)) k252 (by decide)) (by decide)) h255 h254 h256 h257 hG hgb (by omega)) cm_Mo_readByte im_Mo_readByte se_Mo_readByte rfl ml_Mo_357 d_Mo_readTable_59 (by decide) h250 rfl rfl (Nat.le_of_ble_eq_true rfl) (by decide) ?_
      rintro _ f258 ⟨rfl, F261, h262, h263, k264, k265⟩
      refine G_cast (st' := [.int (zI (g ((tN g e).2)))]) ?_ rfl rfl rfl rfl
      by_cases q8 : 8 < g (tN g e).2
      · skip
        have hdd : tA g e st mT = -5 := by unfold tA; rw [if_neg q1, if_pos (Or.inl q8)]
        refine G_istore_n hX (lv' := [(3, .int (zI (g ((tN g e).2)))), (2, .int (zI e)), (1, .int (zI ((tN g e).1))), (0, .ref (eA E 61))]) rfl (by decide) rfl d_Mo_readTable_62 ?_
        refine G_iload_n hX 0 rfl rfl d_Mo_readTable_63 ?_
        refine G_bipush hX (by decide) d_Mo_readTable_64 ?_
        refine G_icmp_le_z hX (tgt := 73) d_Mo_readTable_66 rfl (by omega) (fun c266 => by exfalso; omega) (fun c267 => ?_)
        refine G_iconst hX d_Mo_readTable_69 ?_
        refine G_goto hX (tgt := 77) d_Mo_readTable_70 rfl ?_
        refine G_istore hX (lv' := [(4, .int (zI 0)), (3, .int (zI (g ((tN g e).2)))), (2, .int (zI e)), (1, .int (zI ((tN g e).1))), (0, .ref (eA E 61))]) (by decide) rfl d_Mo_readTable_77 ?_
        refine G_iload_n hX 1 rfl rfl d_Mo_readTable_79 ?_
        refine G_bipush hX (by decide) d_Mo_readTable_80 ?_
        refine G_icmp_gt_z hX (tgt := 91) d_Mo_readTable_82 rfl (by omega) (fun c268 => ?_) (fun c269 => by exfalso; omega)
        refine G_aload_n hX 4 rfl rfl d_Mo_readTable_91 ?_
        refine G_bipush hX (by decide) d_Mo_readTable_92 ?_
        have h270 : F261 32 = .int (zI 0) := (k264 32 (by decide)).trans h256
        refine F_callV hX (st := []) (c_Mo_refuse E f258 F261 (-5) h262 (moK_fr hmk (FrF.tr (FrF.tr (FrF.tr (FrF.rf (S := [30, 31])) k209 (by decide)) k252 (by decide)) k264 (by decide)) (by decide)) h270) cm_Mo_refuse im_Mo_refuse se_Mo_refuse rfl ml_Mo_354 d_Mo_readTable_94 (by decide) h262 rfl rfl (Nat.le_of_ble_eq_true rfl) (by decide) ?_
        rintro _ f271 ⟨rfl, F274, h275, h276, k277, k278⟩
        refine G_cast (st' := []) ?_ rfl rfl rfl rfl
        refine G_aload_n hX 4 rfl rfl d_Mo_readTable_97 ?_
        refine M_get hX fg_Mo_345 d_Mo_readTable_98 h275 (by decide) h276 ?_
        refine G_if_eq_z hX (tgt := 106) d_Mo_readTable_101 rfl (by omega) (fun c279 => by exfalso; omega) (fun c280 => ?_)
        refine G_iconst hX d_Mo_readTable_104 ?_
        have h281 : F274 30 = .int (zI (((tN g e).2) + 1)) := (k277 30 (by decide)).trans h263
        have h282 : F274 31 = .int (zI (tE g e)) := (k277 31 (by decide)).trans ((k264 31 (by decide)).trans h254)
        have h283 : f271 82 = iz E 1536 o := (k278 82 (by decide)).trans ((k265 82 (by decide)).trans ((k253 82 (by decide)).trans ((k210 82 (by decide)).trans hc82)))
        have h284 : f271 78 = iz E 8 nr := (k278 78 (by decide)).trans ((k265 78 (by decide)).trans ((k253 78 (by decide)).trans ((k210 78 (by decide)).trans hc78)))
        have h285 : f271 79 = iz E 1024 sm := (k278 79 (by decide)).trans ((k265 79 (by decide)).trans ((k253 79 (by decide)).trans ((k210 79 (by decide)).trans hc79)))
        have h286 : f271 83 = iz E 3 av := (k278 83 (by decide)).trans ((k265 83 (by decide)).trans ((k253 83 (by decide)).trans ((k210 83 (by decide)).trans hc83)))
        have h287 : f271 84 = iz E 3 ev := (k278 84 (by decide)).trans ((k265 84 (by decide)).trans ((k253 84 (by decide)).trans ((k210 84 (by decide)).trans hc84)))
        have h288 : f271 80 = iz E 1536 tb := (k278 80 (by decide)).trans ((k265 80 (by decide)).trans ((k253 80 (by decide)).trans ((k210 80 (by decide)).trans hc80)))
        exact F_iret hX hE d_Mo_readTable_105 ⟨F274, _, _, _, _, _, _, _, _, _, _, rfl, h275, h281, h282, h276, (FrF.tr (FrF.tr (FrF.tr (FrF.tr FrF.rf k209 (by decide)) k252 (by decide)) k264 (by decide)) k277 (by decide)), h283, h284, h285, h286, h287, h288, hdd.symm, (fun q9 => absurd q9 (by decide)), (by omega), (by decide), (Fr.tr (Fr.tr (Fr.tr (Fr.tr Fr.rf k210 (by decide)) k253 (by decide)) k265 (by decide)) k278 (by decide))⟩
      · skip
        refine G_istore_n hX (lv' := [(3, .int (zI (g ((tN g e).2)))), (2, .int (zI e)), (1, .int (zI ((tN g e).1))), (0, .ref (eA E 61))]) rfl (by decide) rfl d_Mo_readTable_62 ?_
        refine G_iload_n hX 0 rfl rfl d_Mo_readTable_63 ?_
        refine G_bipush hX (by decide) d_Mo_readTable_64 ?_
        refine G_icmp_le_z hX (tgt := 73) d_Mo_readTable_66 rfl (by omega) (fun c289 => ?_) (fun c290 => by exfalso; omega)
        refine G_aload_n hX 3 rfl rfl d_Mo_readTable_73 ?_
        have h291 : F261 31 = .int (zI (tE g e)) := (k264 31 (by decide)).trans h254
        have h292 : F261 32 = .int (zI 0) := (k264 32 (by decide)).trans h256
        have h293 : f258 63 = iz E 1600 b := (k265 63 (by decide)).trans h257
        refine F_callV hX (st := []) (c_Mo_readByte_ok E f258 F261 (((tN g e).2) + 1) (tE g e) b g sE h262 (moK_fr hmk (FrF.tr (FrF.tr (FrF.tr (FrF.rf (S := [30, 31])) k209 (by decide)) k252 (by decide)) k264 (by decide)) (by decide)) h263 h291 h292 h293 hG hgb (by omega)) cm_Mo_readByte im_Mo_readByte se_Mo_readByte rfl ml_Mo_357 d_Mo_readTable_74 (by decide) h262 rfl rfl (Nat.le_of_ble_eq_true rfl) (by decide) ?_
        rintro _ f294 ⟨rfl, F297, h298, h299, k300, k301⟩
        refine G_cast (st' := [.int (zI (g (((tN g e).2) + 1)))]) ?_ rfl rfl rfl rfl
        by_cases q4 : 4 < g ((tN g e).2 + 1)
        · skip
          have hdd : tA g e st mT = -5 := by unfold tA; rw [if_neg q1, if_pos (Or.inr (Or.inl q4))]
          refine G_istore hX (lv' := [(4, .int (zI (g (((tN g e).2) + 1)))), (3, .int (zI (g ((tN g e).2)))), (2, .int (zI e)), (1, .int (zI ((tN g e).1))), (0, .ref (eA E 61))]) (by decide) rfl d_Mo_readTable_77 ?_
          refine G_iload_n hX 1 rfl rfl d_Mo_readTable_79 ?_
          refine G_bipush hX (by decide) d_Mo_readTable_80 ?_
          refine G_icmp_gt_z hX (tgt := 91) d_Mo_readTable_82 rfl (by omega) (fun c302 => by exfalso; omega) (fun c303 => ?_)
          refine G_iload hX 0 rfl d_Mo_readTable_85 ?_
          refine G_iconst hX d_Mo_readTable_87 ?_
          refine G_icmp_le_z hX (tgt := 97) d_Mo_readTable_88 rfl (by omega) (fun c304 => by exfalso; omega) (fun c305 => ?_)
          refine G_aload_n hX 4 rfl rfl d_Mo_readTable_91 ?_
          refine G_bipush hX (by decide) d_Mo_readTable_92 ?_
          have h306 : F297 32 = .int (zI 0) := (k300 32 (by decide)).trans h292
          refine F_callV hX (st := []) (c_Mo_refuse E f294 F297 (-5) h298 (moK_fr hmk (FrF.tr (FrF.tr (FrF.tr (FrF.tr (FrF.rf (S := [30, 31])) k209 (by decide)) k252 (by decide)) k264 (by decide)) k300 (by decide)) (by decide)) h306) cm_Mo_refuse im_Mo_refuse se_Mo_refuse rfl ml_Mo_354 d_Mo_readTable_94 (by decide) h298 rfl rfl (Nat.le_of_ble_eq_true rfl) (by decide) ?_
          rintro _ f307 ⟨rfl, F310, h311, h312, k313, k314⟩
          refine G_cast (st' := []) ?_ rfl rfl rfl rfl
          refine G_aload_n hX 4 rfl rfl d_Mo_readTable_97 ?_
          refine M_get hX fg_Mo_345 d_Mo_readTable_98 h311 (by decide) h312 ?_
          refine G_if_eq_z hX (tgt := 106) d_Mo_readTable_101 rfl (by omega) (fun c315 => by exfalso; omega) (fun c316 => ?_)
          refine G_iconst hX d_Mo_readTable_104 ?_
          have h317 : F310 30 = .int (zI ((((tN g e).2) + 1) + 1)) := (k313 30 (by decide)).trans h299
          have h318 : F310 31 = .int (zI (tE g e)) := (k313 31 (by decide)).trans ((k300 31 (by decide)).trans h291)
          have h319 : f307 82 = iz E 1536 o := (k314 82 (by decide)).trans ((k301 82 (by decide)).trans ((k265 82 (by decide)).trans ((k253 82 (by decide)).trans ((k210 82 (by decide)).trans hc82))))
          have h320 : f307 78 = iz E 8 nr := (k314 78 (by decide)).trans ((k301 78 (by decide)).trans ((k265 78 (by decide)).trans ((k253 78 (by decide)).trans ((k210 78 (by decide)).trans hc78))))
          have h321 : f307 79 = iz E 1024 sm := (k314 79 (by decide)).trans ((k301 79 (by decide)).trans ((k265 79 (by decide)).trans ((k253 79 (by decide)).trans ((k210 79 (by decide)).trans hc79))))
          have h322 : f307 83 = iz E 3 av := (k314 83 (by decide)).trans ((k301 83 (by decide)).trans ((k265 83 (by decide)).trans ((k253 83 (by decide)).trans ((k210 83 (by decide)).trans hc83))))
          have h323 : f307 84 = iz E 3 ev := (k314 84 (by decide)).trans ((k301 84 (by decide)).trans ((k265 84 (by decide)).trans ((k253 84 (by decide)).trans ((k210 84 (by decide)).trans hc84))))
          have h324 : f307 80 = iz E 1536 tb := (k314 80 (by decide)).trans ((k301 80 (by decide)).trans ((k265 80 (by decide)).trans ((k253 80 (by decide)).trans ((k210 80 (by decide)).trans hc80))))
          exact F_iret hX hE d_Mo_readTable_105 ⟨F310, _, _, _, _, _, _, _, _, _, _, rfl, h311, h317, h318, h312, (FrF.tr (FrF.tr (FrF.tr (FrF.tr (FrF.tr FrF.rf k209 (by decide)) k252 (by decide)) k264 (by decide)) k300 (by decide)) k313 (by decide)), h319, h320, h321, h322, h323, h324, hdd.symm, (fun q9 => absurd q9 (by decide)), (by omega), (by decide), (Fr.tr (Fr.tr (Fr.tr (Fr.tr (Fr.tr Fr.rf k210 (by decide)) k253 (by decide)) k265 (by decide)) k301 (by decide)) k314 (by decide))⟩
        · skip
          refine G_istore hX (lv' := [(4, .int (zI (g (((tN g e).2) + 1)))), (3, .int (zI (g ((tN g e).2)))), (2, .int (zI e)), (1, .int (zI ((tN g e).1))), (0, .ref (eA E 61))]) (by decide) rfl d_Mo_readTable_77 ?_
          refine G_iload_n hX 1 rfl rfl d_Mo_readTable_79 ?_
          refine G_bipush hX (by decide) d_Mo_readTable_80 ?_
          refine G_icmp_gt_z hX (tgt := 91) d_Mo_readTable_82 rfl (by omega) (fun c325 => by exfalso; omega) (fun c326 => ?_)
          refine G_iload hX 0 rfl d_Mo_readTable_85 ?_
          refine G_iconst hX d_Mo_readTable_87 ?_
          refine G_icmp_le_z hX (tgt := 97) d_Mo_readTable_88 rfl (by omega) (fun c327 => ?_) (fun c328 => by exfalso; omega)
          refine G_aload_n hX 4 rfl rfl d_Mo_readTable_97 ?_
          have h329 : F297 32 = .int (zI 0) := (k300 32 (by decide)).trans h292
          refine M_get hX fg_Mo_345 d_Mo_readTable_98 h298 (by decide) h329 ?_
          refine G_if_eq_z hX (tgt := 106) d_Mo_readTable_101 rfl (by omega) (fun c330 => ?_) (fun c331 => by exfalso; omega)
          have h332 : F297 30 = .int (zI ((tN g e).2 + 2)) := h299.trans (congrArg (fun z => Value.int (zI z)) ((by omega)))
          by_cases qh : ((tN g e).2 + 2) + 4 ≤ (tE g e) ∧ g (((tN g e).2 + 2)) = 214 ∧ g (((tN g e).2 + 2) + 1) = 195 ∧ g (((tN g e).2 + 2) + 2) = 196 ∧ g (((tN g e).2 + 2) + 3) = 0
          · skip
            refine G_aload_n hX 4 rfl rfl d_Mo_readTable_106 ?_
            have h333 : F297 31 = .int (zI (tE g e)) := (k300 31 (by decide)).trans h291
            have h334 : f294 63 = iz E 1600 b := (k301 63 (by decide)).trans h293
            refine F_callV hX (st := []) (c_Mo_readHead_ok E f294 F297 ((tN g e).2 + 2) (tE g e) b g sE h298 (moK_fr hmk (FrF.tr (FrF.tr (FrF.tr (FrF.tr (FrF.rf (S := [30, 31])) k209 (by decide)) k252 (by decide)) k264 (by decide)) k300 (by decide)) (by decide)) h332 h333 h329 h334 hG hgb (by omega) qh) cm_Mo_readHead im_Mo_readHead se_Mo_readHead rfl ml_Mo_416 d_Mo_readTable_107 (by decide) h298 rfl rfl (Nat.le_of_ble_eq_true rfl) (by decide) ?_
            rintro _ f335 ⟨rfl, F338, h339, h340, k341, k342⟩
            refine G_cast (st' := []) ?_ rfl rfl rfl rfl
            by_cases q6 : (tN g e).2 + 2 + 4 < tE g e
            · skip
              have hg6 := hG ((tN g e).2 + 2 + 4)
              by_cases q7 : g ((tN g e).2 + 2 + 4) = 0
              · skip
                refine G_aload_n hX 4 rfl rfl d_Mo_readTable_110 ?_
                have h343 : F338 31 = .int (zI (tE g e)) := (k341 31 (by decide)).trans h333
                have h344 : F338 32 = .int (zI 0) := (k341 32 (by decide)).trans h329
                have h345 : f335 63 = iz E 1600 b := (k342 63 (by decide)).trans h334
                refine F_callV hX (st := []) (c_Mo_readByte_ok E f335 F338 (((tN g e).2 + 2) + 4) (tE g e) b g sE h339 (moK_fr hmk (FrF.tr (FrF.tr (FrF.tr (FrF.tr (FrF.tr (FrF.rf (S := [30, 31])) k209 (by decide)) k252 (by decide)) k264 (by decide)) k300 (by decide)) k341 (by decide)) (by decide)) h340 h343 h344 h345 hG hgb (by omega)) cm_Mo_readByte im_Mo_readByte se_Mo_readByte rfl ml_Mo_357 d_Mo_readTable_111 (by decide) h339 rfl rfl (Nat.le_of_ble_eq_true rfl) (by decide) ?_
                rintro _ f346 ⟨rfl, F349, h350, h351, k352, k353⟩
                refine G_cast (st' := [.int (zI (g (((tN g e).2 + 2) + 4)))]) ?_ rfl rfl rfl rfl
                refine G_if_eq_z hX (tgt := 123) d_Mo_readTable_114 rfl (by omega) (fun c354 => ?_) (fun c355 => by exfalso; omega)
                have hhr : ¬ (8 < g (tN g e).2 ∨ 4 < g ((tN g e).2 + 1) ∨ ¬ rbV g ((tN g e).2 + 2) (tE g e) = 0) := by rintro (h9 | h9 | h9); exact q8 h9; exact q4 h9; exact h9 (by rw [rb_y qh, nxV_lt q6]; exact q7)
                have h356 : F349 30 = .int (zI ((tN g e).2 + 7)) := h351.trans (congrArg (fun z => Value.int (zI z)) ((by omega)))
                refine G_aload_n hX 4 rfl rfl d_Mo_readTable_123 ?_
                refine G_sipush hX (by decide) d_Mo_readTable_124 ?_
                refine M_put hX fg_Mo_407 fp_Mo_37 d_Mo_readTable_127 h350 rfl rfl (by decide) (fun f357 F358 h359 h360 k361 k362 => ?_)
                refine G_aload_n hX 4 rfl rfl d_Mo_readTable_130 ?_
                refine G_iconst hX d_Mo_readTable_131 ?_
                refine G_iconst hX d_Mo_readTable_132 ?_
                have h363 : F358 30 = .int (zI ((tN g e).2 + 7)) := (k361 30 (by decide)).trans h356
                have h364 : F358 31 = .int (zI (tE g e)) := (k361 31 (by decide)).trans ((k352 31 (by decide)).trans h343)
                have h365 : F358 32 = .int (zI 0) := (k361 32 (by decide)).trans ((k352 32 (by decide)).trans h344)
                have h366 : F358 34 = .int (zI 1536) := (k361 34 (by decide)).trans ((k352 34 (by decide)).trans ((k341 34 (by decide)).trans ((k300 34 (by decide)).trans ((k264 34 (by decide)).trans ((k252 34 (by decide)).trans ((k209 34 (by decide)).trans hF34))))))
                have h367 : f357 81 = iz E 1536 ob := (k362 81 (by decide)).trans ((k353 81 (by decide)).trans ((k342 81 (by decide)).trans ((k301 81 (by decide)).trans ((k265 81 (by decide)).trans ((k253 81 (by decide)).trans ((k210 81 (by decide)).trans hc81))))))
                have h368 : f357 82 = iz E 1536 o := (k362 82 (by decide)).trans ((k353 82 (by decide)).trans ((k342 82 (by decide)).trans ((k301 82 (by decide)).trans ((k265 82 (by decide)).trans ((k253 82 (by decide)).trans ((k210 82 (by decide)).trans hc82))))))
                have h369 : f357 78 = iz E 8 nr := (k362 78 (by decide)).trans ((k353 78 (by decide)).trans ((k342 78 (by decide)).trans ((k301 78 (by decide)).trans ((k265 78 (by decide)).trans ((k253 78 (by decide)).trans ((k210 78 (by decide)).trans hc78))))))
                have h370 : f357 79 = iz E 1024 sm := (k362 79 (by decide)).trans ((k353 79 (by decide)).trans ((k342 79 (by decide)).trans ((k301 79 (by decide)).trans ((k265 79 (by decide)).trans ((k253 79 (by decide)).trans ((k210 79 (by decide)).trans hc79))))))
                have h371 : f357 83 = iz E 3 av := (k362 83 (by decide)).trans ((k353 83 (by decide)).trans ((k342 83 (by decide)).trans ((k301 83 (by decide)).trans ((k265 83 (by decide)).trans ((k253 83 (by decide)).trans ((k210 83 (by decide)).trans hc83))))))
                have h372 : f357 84 = iz E 3 ev := (k362 84 (by decide)).trans ((k353 84 (by decide)).trans ((k342 84 (by decide)).trans ((k301 84 (by decide)).trans ((k265 84 (by decide)).trans ((k253 84 (by decide)).trans ((k210 84 (by decide)).trans hc84))))))
                have h373 : f357 63 = iz E 1600 b := (k362 63 (by decide)).trans ((k353 63 (by decide)).trans h345)
                have h374 : f357 80 = iz E 1536 tb := (k362 80 (by decide)).trans ((k353 80 (by decide)).trans ((k342 80 (by decide)).trans ((k301 80 (by decide)).trans ((k265 80 (by decide)).trans ((k253 80 (by decide)).trans ((k210 80 (by decide)).trans hc80))))))
                refine F_callV hX (st := []) (c_Mo_readWindows E f357 F358 ((tN g e).2 + 7) 4 3 (tE g e) 1536 1536 st tb ob o st mT nr sm av ev b g sE h359 (moK_fr hmk (FrF.tr (FrF.tr (FrF.tr (FrF.tr (FrF.tr (FrF.tr (FrF.tr (FrF.rf (S := [30, 31, 37])) k209 (by decide)) k252 (by decide)) k264 (by decide)) k300 (by decide)) k341 (by decide)) k352 (by decide)) k361 (by decide)) (by decide)) h363 h364 h365 h366 h360 h367 h368 h369 h370 h371 h372 h373 h374 (by omega) (by omega) (by omega) hold hsB hmT htb hsB hs3 hG hgb) cm_Mo_readWindows im_Mo_readWindows se_Mo_readWindows rfl ml_Mo_419 d_Mo_readTable_133 (by decide) h359 rfl rfl (Nat.le_of_ble_eq_true rfl) (by decide) ?_
                rintro _ f375 ⟨rfl, F378, pl'_379, st'_380, fl'_381, md'_382, o'_383, nr'_384, sm'_385, av'_386, ev'_387, h388, h389, h390, h391, h392, k393, h394, h395, h396, h397, h398, p399, p400, p401, k402⟩
                refine G_cast (st' := []) ?_ rfl rfl rfl rfl
                have hr0 : fl'_381 = (tR g e st mT).1 := p399
                have hbb := p401
                have hrb := rdW_b (g := g) (t := st) (old := st) (N := 4) (S := 3) (oc := 1536) (nm := 1536) (e := tE g e) hG (by omega) 700 ((tN g e).2 + 7) mT 0 (by omega) (by omega) (by decide) (by decide)
                have hrb1 : (0 ≤ (tR g e st mT).2.2 ∧ (tR g e st mT).2.2 ≤ 1536) ∧ -6 ≤ (tR g e st mT).1 ∧ (tR g e st mT).1 ≤ 0 := ⟨⟨hrb.1, hrb.2.1⟩, hrb.2.2⟩
                have hna : ¬ ((tR g e st mT).1 = 0 ∧ (tR g e st mT).2.2 = 1536 ∧ tbB (tR g e st mT).2.1 = true) → tA g e st mT = -5 := fun h9 => by unfold tA; rw [if_neg q1, if_neg hhr, if_neg h9]
                by_cases qf : fl'_381 = 0
                · skip
                  have hgd : pl'_379 = tE g e ∧ st'_380 = tE g e ∧ md'_382 = (tR g e st mT).2.2 ∧ agB o'_383 (tR g e st mT).2.1 (tR g e st mT).2.2 := p400 qf
                  have h403 : F378 32 = .int (zI 0) := h391.trans (congrArg (fun z => Value.int (zI z)) (qf))
                  have h404 : F378 36 = .int (zI ((tR g e st mT).2.2)) := h392.trans (congrArg (fun z => Value.int (zI z)) (hgd.2.2.1))
                  have h405 : F378 30 = .int (zI (tE g e)) := h389.trans (congrArg (fun z => Value.int (zI z)) (hgd.1))
                  by_cases q15 : (tR g e st mT).2.2 = 1536
                  · skip
                    refine G_aload_n hX 4 rfl rfl d_Mo_readTable_136 ?_
                    refine M_get hX fg_Mo_345 d_Mo_readTable_137 h388 (by decide) h403 ?_
                    refine G_if_ne_z hX (tgt := 157) d_Mo_readTable_140 rfl (by omega) (fun c406 => by exfalso; omega) (fun c407 => ?_)
                    refine G_aload_n hX 4 rfl rfl d_Mo_readTable_143 ?_
                    refine M_get hX fg_Mo_386 d_Mo_readTable_144 h388 (by decide) h404 ?_
                    refine G_sipush hX (by decide) d_Mo_readTable_147 ?_
                    refine G_icmp_ne_z hX (tgt := 157) d_Mo_readTable_150 rfl (by omega) (fun c408 => by exfalso; omega) (fun c409 => ?_)
                    refine G_iconst hX d_Mo_readTable_153 ?_
                    refine G_goto hX (tgt := 158) d_Mo_readTable_154 rfl ?_
                    refine G_istore hX (lv' := [(5, .int (zI 1)), (4, .int (zI (g (((tN g e).2) + 1)))), (3, .int (zI (g ((tN g e).2)))), (2, .int (zI e)), (1, .int (zI ((tN g e).1))), (0, .ref (eA E 61))]) (by decide) rfl d_Mo_readTable_158 ?_
                    refine G_iconst hX d_Mo_readTable_160 ?_
                    refine G_istore hX (lv' := [(6, .int (zI 0)), (5, .int (zI 1)), (4, .int (zI (g (((tN g e).2) + 1)))), (3, .int (zI (g ((tN g e).2)))), (2, .int (zI e)), (1, .int (zI ((tN g e).1))), (0, .ref (eA E 61))]) (by decide) rfl d_Mo_readTable_161 ?_
                    have loop410 : ∀ (q : Nat) (i : Int) (f411 : Nat → va_E), (512 - i).toNat < q → (0 ≤ i ∧ i ≤ 512) → (∀ j, 0 ≤ j → j < i → (tR g e st mT).2.1 j ≤ 3) → Fr [] f375 f411 → G E X 0 0 163 [(0, .ref (eA E 61)), (2, .int (zI e)), (3, .int (zI (g ((tN g e).2)))), (4, .int (zI (g (((tN g e).2) + 1)))), (5, .int (zI 1)), (6, .int (zI i))] [] (wl E f411) := by
                      intro q
                      induction q with
                      | zero => intro i f411 hms413; exact absurd hms413 (Nat.not_lt_zero _)
                      | succ q ih414 =>
                        intro i f411 hms413 hi hal k412
                        refine G_iload hX 5 rfl d_Mo_readTable_163 ?_
                        refine G_sipush hX (by decide) d_Mo_readTable_165 ?_
                        refine G_icmp_ge_z hX (tgt := 200) d_Mo_readTable_168 rfl (by omega) (fun c415 => ?_) (fun c416 => ?_)
                        · skip
                          obtain rfl : i = 512 := by omega
                          have hta0 : tA g e st mT = 0 := by unfold tA; rw [if_neg q1, if_neg hhr, if_pos ⟨by rw [← hr0]; exact qf, q15, tbB_i hal⟩]
                          have h417 : f411 82 = iz E 1536 o'_383 := (k412 82 (List.not_mem_nil)).trans h394
                          have h418 : f411 78 = iz E 8 nr'_384 := (k412 78 (List.not_mem_nil)).trans h395
                          have h419 : f411 79 = iz E 1024 sm'_385 := (k412 79 (List.not_mem_nil)).trans h396
                          have h420 : f411 83 = iz E 3 av'_386 := (k412 83 (List.not_mem_nil)).trans h397
                          have h421 : f411 84 = iz E 3 ev'_387 := (k412 84 (List.not_mem_nil)).trans h398
                          have h422 : f411 61 = mob F378 := (k412 61 (List.not_mem_nil)).trans h388
                          refine G_loc (lv' := [(0, .ref (eA E 61)), (2, .int (zI e)), (3, .int (zI (g ((tN g e).2)))), (4, .int (zI (g (((tN g e).2) + 1)))), (5, .int (zI 1))]) [0, 1, 2, 3, 4] rfl ?_
                          exact join4 1 (tE g e) 0 (g ((tN g e).2)) (g (((tN g e).2) + 1)) o'_383 nr'_384 sm'_385 av'_386 ev'_387 F378 f411  (Or.inl ⟨rfl, hta0, rfl, by have := hgd.2.2.2; rw [show (tR g e st mT).2.2 = 1536 from q15] at this; exact this, rfl, rfl⟩) (by omega) (by omega) h405 (FrF.tr (FrF.tr (FrF.tr (FrF.tr (FrF.tr (FrF.tr (FrF.tr (FrF.tr FrF.rf k209 (by decide)) k252 (by decide)) k264 (by decide)) k300 (by decide)) k341 (by decide)) k352 (by decide)) k361 (by decide)) k393 (by decide)) h417 h418 h419 h420 h421 h422 (Fr.tr (Fr.tr (Fr.tr (Fr.tr (Fr.tr (Fr.tr (Fr.tr (Fr.tr (Fr.tr Fr.rf k210 (by decide)) k253 (by decide)) k265 (by decide)) k301 (by decide)) k342 (by decide)) k353 (by decide)) k362 (by decide)) k402 (by decide)) k412 (by decide))
                        · skip
                          refine G_iload hX 4 rfl d_Mo_readTable_171 ?_
                          refine G_if_eq_z hX (tgt := 200) d_Mo_readTable_173 rfl (by omega) (fun c423 => by exfalso; omega) (fun c424 => ?_)
                          refine G_aload_n hX 0 rfl rfl d_Mo_readTable_176 ?_
                          have h425 : f411 61 = mob F378 := (k412 61 (List.not_mem_nil)).trans h388
                          have h426 : F378 38 = .ref (eA E 82) := (k393 38 (by decide)).trans ((k361 38 (by decide)).trans ((k352 38 (by decide)).trans ((k341 38 (by decide)).trans ((k300 38 (by decide)).trans ((k264 38 (by decide)).trans ((k252 38 (by decide)).trans ((k209 38 (by decide)).trans (hmk 38 82 (by decide)))))))))
                          refine M_get hX fg_Mo_142 d_Mo_readTable_177 h425 (by decide) h426 ?_
                          refine G_iload hX 5 rfl d_Mo_readTable_180 ?_
                          have h427 : f411 82 = iz E 1536 o'_383 := (k412 82 (List.not_mem_nil)).trans h394
                          refine F_iald hX d_Mo_readTable_182 82 (by decide) h427 (by omega) ?_
                          refine G_top (show zI (o'_383 i) = zI ((tR g e st mT).2.1 i) from congrArg zI (hgd.2.2.2 i (by omega) (by omega))) ?_
                          have b428 := rdW_B (t := st) (N := 4) (S := 3) (oc := 1536) (nm := 1536) (e := tE g e) hG hsB 700 ((tN g e).2 + 7) mT 0 hmT i
                          refine G_iconst hX d_Mo_readTable_183 ?_
                          refine G_icmp_ge_z hX (tgt := 191) d_Mo_readTable_184 rfl (by have hbi : 0 ≤ (tR g e st mT).2.1 i ∧ (tR g e st mT).2.1 i < 256 := rdW_B hG hsB 700 _ mT 0 hmT i; omega) (fun c429 => ?_) (fun c430 => ?_)
                          · skip
                            refine G_iconst hX d_Mo_readTable_191 ?_
                            refine G_istore hX (lv' := [(5, .int (zI 0)), (0, .ref (eA E 61)), (2, .int (zI e)), (3, .int (zI (g ((tN g e).2)))), (4, .int (zI (g (((tN g e).2) + 1)))), (6, .int (zI i))]) (by decide) rfl d_Mo_readTable_192 ?_
                            refine G_iinc_z hX (lv' := [(6, .int (zI (i + 1))), (5, .int (zI 0)), (0, .ref (eA E 61)), (2, .int (zI e)), (3, .int (zI (g ((tN g e).2)))), (4, .int (zI (g (((tN g e).2) + 1))))]) 5 rfl (by decide) rfl d_Mo_readTable_194 ?_
                            refine G_goto hX (tgt := 163) d_Mo_readTable_197 rfl ?_
                            have hdd := hna (fun h9 => absurd (tbB_t h9.2.2 i hi.1 (by omega)) (by omega))
                            refine G_iload hX 0 rfl d_Mo_readTable_163 ?_
                            refine G_sipush hX (by decide) d_Mo_readTable_165 ?_
                            refine G_icmp_ge_z hX (tgt := 200) d_Mo_readTable_168 rfl (by omega) (fun c431 => ?_) (fun c432 => ?_)
                            · skip
                              have h433 : f411 78 = iz E 8 nr'_384 := (k412 78 (List.not_mem_nil)).trans h395
                              have h434 : f411 79 = iz E 1024 sm'_385 := (k412 79 (List.not_mem_nil)).trans h396
                              have h435 : f411 83 = iz E 3 av'_386 := (k412 83 (List.not_mem_nil)).trans h397
                              have h436 : f411 84 = iz E 3 ev'_387 := (k412 84 (List.not_mem_nil)).trans h398
                              refine G_loc (lv' := [(0, .ref (eA E 61)), (2, .int (zI e)), (3, .int (zI (g ((tN g e).2)))), (4, .int (zI (g (((tN g e).2) + 1)))), (5, .int (zI 0))]) [2, 3, 4, 5, 1] rfl ?_
                              exact join4 0 (tE g e) 0 (g ((tN g e).2)) (g (((tN g e).2) + 1)) o'_383 nr'_384 sm'_385 av'_386 ev'_387 F378 f411  (Or.inr ⟨rfl, hdd⟩) (by omega) (by omega) h405 (FrF.tr (FrF.tr (FrF.tr (FrF.tr (FrF.tr (FrF.tr (FrF.tr (FrF.tr FrF.rf k209 (by decide)) k252 (by decide)) k264 (by decide)) k300 (by decide)) k341 (by decide)) k352 (by decide)) k361 (by decide)) k393 (by decide)) h427 h433 h434 h435 h436 h425 (Fr.tr (Fr.tr (Fr.tr (Fr.tr (Fr.tr (Fr.tr (Fr.tr (Fr.tr (Fr.tr Fr.rf k210 (by decide)) k253 (by decide)) k265 (by decide)) k301 (by decide)) k342 (by decide)) k353 (by decide)) k362 (by decide)) k402 (by decide)) k412 (by decide))
                            · skip
                              refine G_iload hX 1 rfl d_Mo_readTable_171 ?_
                              refine G_if_eq_z hX (tgt := 200) d_Mo_readTable_173 rfl (by omega) (fun c437 => ?_) (fun c438 => by exfalso; omega)
                              have h439 : f411 78 = iz E 8 nr'_384 := (k412 78 (List.not_mem_nil)).trans h395
                              have h440 : f411 79 = iz E 1024 sm'_385 := (k412 79 (List.not_mem_nil)).trans h396
                              have h441 : f411 83 = iz E 3 av'_386 := (k412 83 (List.not_mem_nil)).trans h397
                              have h442 : f411 84 = iz E 3 ev'_387 := (k412 84 (List.not_mem_nil)).trans h398
                              refine G_loc (lv' := [(0, .ref (eA E 61)), (2, .int (zI e)), (3, .int (zI (g ((tN g e).2)))), (4, .int (zI (g (((tN g e).2) + 1)))), (5, .int (zI 0))]) [2, 3, 4, 5, 1] rfl ?_
                              exact join4 0 (tE g e) 0 (g ((tN g e).2)) (g (((tN g e).2) + 1)) o'_383 nr'_384 sm'_385 av'_386 ev'_387 F378 f411  (Or.inr ⟨rfl, hdd⟩) (by omega) (by omega) h405 (FrF.tr (FrF.tr (FrF.tr (FrF.tr (FrF.tr (FrF.tr (FrF.tr (FrF.tr FrF.rf k209 (by decide)) k252 (by decide)) k264 (by decide)) k300 (by decide)) k341 (by decide)) k352 (by decide)) k361 (by decide)) k393 (by decide)) h427 h439 h440 h441 h442 h425 (Fr.tr (Fr.tr (Fr.tr (Fr.tr (Fr.tr (Fr.tr (Fr.tr (Fr.tr (Fr.tr Fr.rf k210 (by decide)) k253 (by decide)) k265 (by decide)) k301 (by decide)) k342 (by decide)) k353 (by decide)) k362 (by decide)) k402 (by decide)) k412 (by decide))
                          · skip
                            refine G_iconst hX d_Mo_readTable_187 ?_
                            refine G_goto hX (tgt := 192) d_Mo_readTable_188 rfl ?_
                            refine G_istore hX (lv' := [(5, .int (zI 1)), (0, .ref (eA E 61)), (2, .int (zI e)), (3, .int (zI (g ((tN g e).2)))), (4, .int (zI (g (((tN g e).2) + 1)))), (6, .int (zI i))]) (by decide) rfl d_Mo_readTable_192 ?_
                            refine G_iinc_z hX (lv' := [(6, .int (zI (i + 1))), (5, .int (zI 1)), (0, .ref (eA E 61)), (2, .int (zI e)), (3, .int (zI (g ((tN g e).2)))), (4, .int (zI (g (((tN g e).2) + 1))))]) 5 rfl (by decide) rfl d_Mo_readTable_194 ?_
                            refine G_goto hX (tgt := 163) d_Mo_readTable_197 rfl ?_
                            refine G_loc (lv' := [(0, .ref (eA E 61)), (2, .int (zI e)), (3, .int (zI (g ((tN g e).2)))), (4, .int (zI (g (((tN g e).2) + 1)))), (5, .int (zI 1)), (6, .int (zI (i + 1)))]) [2, 3, 4, 5, 1, 0] rfl ?_
                            exact ih414 (i + 1) f411 (by omega) (by omega) (fun j h1 h2 => by by_cases q9 : j = i; (rw [q9]; omega); exact hal j h1 (by omega))  (Fr.tr Fr.rf k412 (by decide))
                    refine G_loc (lv' := [(0, .ref (eA E 61)), (2, .int (zI e)), (3, .int (zI (g ((tN g e).2)))), (4, .int (zI (g (((tN g e).2) + 1)))), (5, .int (zI 1)), (6, .int (zI 0))]) [6, 4, 3, 2, 1, 0] rfl ?_
                    exact loop410 (_ + 1) 0 f375 (Nat.lt_succ_self _) (by omega) (fun j h1 h2 => by omega)  Fr.rf
                  · skip
                    have hdd := hna (fun h9 => q15 h9.2.1)
                    refine G_aload_n hX 4 rfl rfl d_Mo_readTable_136 ?_
                    refine M_get hX fg_Mo_345 d_Mo_readTable_137 h388 (by decide) h403 ?_
                    refine G_if_ne_z hX (tgt := 157) d_Mo_readTable_140 rfl (by omega) (fun c443 => by exfalso; omega) (fun c444 => ?_)
                    refine G_aload_n hX 4 rfl rfl d_Mo_readTable_143 ?_
                    refine M_get hX fg_Mo_386 d_Mo_readTable_144 h388 (by decide) h404 ?_
                    refine G_sipush hX (by decide) d_Mo_readTable_147 ?_
                    refine G_icmp_ne_z hX (tgt := 157) d_Mo_readTable_150 rfl (by omega) (fun c445 => ?_) (fun c446 => by exfalso; omega)
                    refine G_iconst hX d_Mo_readTable_157 ?_
                    refine G_istore hX (lv' := [(5, .int (zI 0)), (4, .int (zI (g (((tN g e).2) + 1)))), (3, .int (zI (g ((tN g e).2)))), (2, .int (zI e)), (1, .int (zI ((tN g e).1))), (0, .ref (eA E 61))]) (by decide) rfl d_Mo_readTable_158 ?_
                    refine G_iconst hX d_Mo_readTable_160 ?_
                    refine G_istore hX (lv' := [(6, .int (zI 0)), (5, .int (zI 0)), (4, .int (zI (g (((tN g e).2) + 1)))), (3, .int (zI (g ((tN g e).2)))), (2, .int (zI e)), (1, .int (zI ((tN g e).1))), (0, .ref (eA E 61))]) (by decide) rfl d_Mo_readTable_161 ?_
                    refine G_iload hX 0 rfl d_Mo_readTable_163 ?_
                    refine G_sipush hX (by decide) d_Mo_readTable_165 ?_
                    refine G_icmp_ge_z hX (tgt := 200) d_Mo_readTable_168 rfl (by omega) (fun c447 => by exfalso; omega) (fun c448 => ?_)
                    refine G_iload hX 1 rfl d_Mo_readTable_171 ?_
                    refine G_if_eq_z hX (tgt := 200) d_Mo_readTable_173 rfl (by omega) (fun c449 => ?_) (fun c450 => by exfalso; omega)
                    refine G_loc (lv' := [(0, .ref (eA E 61)), (2, .int (zI e)), (3, .int (zI (g ((tN g e).2)))), (4, .int (zI (g (((tN g e).2) + 1)))), (5, .int (zI 0))]) [6, 4, 3, 2, 1] rfl ?_
                    exact join4 0 (tE g e) 0 (g ((tN g e).2)) (g (((tN g e).2) + 1)) o'_383 nr'_384 sm'_385 av'_386 ev'_387 F378 f375  (Or.inr ⟨rfl, hdd⟩) (by omega) (by omega) h405 (FrF.tr (FrF.tr (FrF.tr (FrF.tr (FrF.tr (FrF.tr (FrF.tr (FrF.tr FrF.rf k209 (by decide)) k252 (by decide)) k264 (by decide)) k300 (by decide)) k341 (by decide)) k352 (by decide)) k361 (by decide)) k393 (by decide)) h394 h395 h396 h397 h398 h388 (Fr.tr (Fr.tr (Fr.tr (Fr.tr (Fr.tr (Fr.tr (Fr.tr (Fr.tr Fr.rf k210 (by decide)) k253 (by decide)) k265 (by decide)) k301 (by decide)) k342 (by decide)) k353 (by decide)) k362 (by decide)) k402 (by decide))
                · skip
                  have hdd := hna (fun h9 => qf (hr0.trans h9.1))
                  refine G_aload_n hX 4 rfl rfl d_Mo_readTable_136 ?_
                  refine M_get hX fg_Mo_345 d_Mo_readTable_137 h388 (by decide) h391 ?_
                  refine G_if_ne_z hX (tgt := 157) d_Mo_readTable_140 rfl (by omega) (fun c451 => ?_) (fun c452 => by exfalso; omega)
                  refine G_iconst hX d_Mo_readTable_157 ?_
                  refine G_istore hX (lv' := [(5, .int (zI 0)), (4, .int (zI (g (((tN g e).2) + 1)))), (3, .int (zI (g ((tN g e).2)))), (2, .int (zI e)), (1, .int (zI ((tN g e).1))), (0, .ref (eA E 61))]) (by decide) rfl d_Mo_readTable_158 ?_
                  refine G_iconst hX d_Mo_readTable_160 ?_
                  refine G_istore hX (lv' := [(6, .int (zI 0)), (5, .int (zI 0)), (4, .int (zI (g (((tN g e).2) + 1)))), (3, .int (zI (g ((tN g e).2)))), (2, .int (zI e)), (1, .int (zI ((tN g e).1))), (0, .ref (eA E 61))]) (by decide) rfl d_Mo_readTable_161 ?_
                  refine G_iload hX 0 rfl d_Mo_readTable_163 ?_
                  refine G_sipush hX (by decide) d_Mo_readTable_165 ?_
                  refine G_icmp_ge_z hX (tgt := 200) d_Mo_readTable_168 rfl (by omega) (fun c453 => by exfalso; omega) (fun c454 => ?_)
                  refine G_iload hX 1 rfl d_Mo_readTable_171 ?_
                  refine G_if_eq_z hX (tgt := 200) d_Mo_readTable_173 rfl (by omega) (fun c455 => ?_) (fun c456 => by exfalso; omega)
                  refine G_loc (lv' := [(0, .ref (eA E 61)), (2, .int (zI e)), (3, .int (zI (g ((tN g e).2)))), (4, .int (zI (g (((tN g e).2) + 1)))), (5, .int (zI 0))]) [6, 4, 3, 2, 1] rfl ?_
                  exact join4 0 pl'_379 0 (g ((tN g e).2)) (g (((tN g e).2) + 1)) o'_383 nr'_384 sm'_385 av'_386 ev'_387 F378 f375  (Or.inr ⟨rfl, hdd⟩) (by omega) (by omega) h389 (FrF.tr (FrF.tr (FrF.tr (FrF.tr (FrF.tr (FrF.tr (FrF.tr (FrF.tr FrF.rf k209 (by decide)) k252 (by decide)) k264 (by decide)) k300 (by decide)) k341 (by decide)) k352 (by decide)) k361 (by decide)) k393 (by decide)) h394 h395 h396 h397 h398 h388 (Fr.tr (Fr.tr (Fr.tr (Fr.tr (Fr.tr (Fr.tr (Fr.tr (Fr.tr Fr.rf k210 (by decide)) k253 (by decide)) k265 (by decide)) k301 (by decide)) k342 (by decide)) k353 (by decide)) k362 (by decide)) k402 (by decide))
              · skip
                have hdd : tA g e st mT = -5 := by unfold tA; rw [if_neg q1, if_pos (Or.inr (Or.inr (by rw [rb_y qh, nxV_lt q6]; exact q7)))]
                refine G_aload_n hX 4 rfl rfl d_Mo_readTable_110 ?_
                have h457 : F338 31 = .int (zI (tE g e)) := (k341 31 (by decide)).trans h333
                have h458 : F338 32 = .int (zI 0) := (k341 32 (by decide)).trans h329
                have h459 : f335 63 = iz E 1600 b := (k342 63 (by decide)).trans h334
                refine F_callV hX (st := []) (c_Mo_readByte_ok E f335 F338 (((tN g e).2 + 2) + 4) (tE g e) b g sE h339 (moK_fr hmk (FrF.tr (FrF.tr (FrF.tr (FrF.tr (FrF.tr (FrF.rf (S := [30, 31])) k209 (by decide)) k252 (by decide)) k264 (by decide)) k300 (by decide)) k341 (by decide)) (by decide)) h340 h457 h458 h459 hG hgb (by omega)) cm_Mo_readByte im_Mo_readByte se_Mo_readByte rfl ml_Mo_357 d_Mo_readTable_111 (by decide) h339 rfl rfl (Nat.le_of_ble_eq_true rfl) (by decide) ?_
                rintro _ f460 ⟨rfl, F463, h464, h465, k466, k467⟩
                refine G_cast (st' := [.int (zI (g (((tN g e).2 + 2) + 4)))]) ?_ rfl rfl rfl rfl
                refine G_if_eq_z hX (tgt := 123) d_Mo_readTable_114 rfl (by omega) (fun c468 => by exfalso; omega) (fun c469 => ?_)
                refine G_aload_n hX 4 rfl rfl d_Mo_readTable_117 ?_
                refine G_bipush hX (by decide) d_Mo_readTable_118 ?_
                have h470 : F463 32 = .int (zI 0) := (k466 32 (by decide)).trans h458
                refine F_callV hX (st := []) (c_Mo_refuse E f460 F463 (-5) h464 (moK_fr hmk (FrF.tr (FrF.tr (FrF.tr (FrF.tr (FrF.tr (FrF.tr (FrF.rf (S := [30, 31])) k209 (by decide)) k252 (by decide)) k264 (by decide)) k300 (by decide)) k341 (by decide)) k466 (by decide)) (by decide)) h470) cm_Mo_refuse im_Mo_refuse se_Mo_refuse rfl ml_Mo_354 d_Mo_readTable_120 (by decide) h464 rfl rfl (Nat.le_of_ble_eq_true rfl) (by decide) ?_
                rintro _ f471 ⟨rfl, F474, h475, h476, k477, k478⟩
                refine G_cast (st' := []) ?_ rfl rfl rfl rfl
                have h479 : F474 30 = .int (zI ((((tN g e).2 + 2) + 4) + 1)) := (k477 30 (by decide)).trans h465
                have h480 : F474 31 = .int (zI (tE g e)) := (k477 31 (by decide)).trans ((k466 31 (by decide)).trans h457)
                refine G_loc (lv' := [(0, .ref (eA E 61)), (2, .int (zI e)), (3, .int (zI (g ((tN g e).2)))), (4, .int (zI (g (((tN g e).2) + 1))))]) [4, 2, 1, 0] rfl ?_
                exact join82 (-5) ((((tN g e).2 + 2) + 4) + 1) (tE g e) (g ((tN g e).2)) (g (((tN g e).2) + 1)) F474 f471  (by decide) hdd (by omega) (by omega) (by omega) h476 h479 h480 (FrF.tr (FrF.tr (FrF.tr (FrF.tr (FrF.tr (FrF.tr (FrF.tr FrF.rf k209 (by decide)) k252 (by decide)) k264 (by decide)) k300 (by decide)) k341 (by decide)) k466 (by decide)) k477 (by decide)) h475 (Fr.tr (Fr.tr (Fr.tr (Fr.tr (Fr.tr (Fr.tr (Fr.tr Fr.rf k210 (by decide)) k253 (by decide)) k265 (by decide)) k301 (by decide)) k342 (by decide)) k467 (by decide)) k478 (by decide))
            · skip
              have hdd : tA g e st mT = -5 := by unfold tA; rw [if_neg q1, if_pos (Or.inr (Or.inr (by rw [rb_y qh]; unfold nxV; rw [if_neg q6]; decide)))]
              refine G_aload_n hX 4 rfl rfl d_Mo_readTable_110 ?_
              have h481 : F338 31 = .int (zI (tE g e)) := (k341 31 (by decide)).trans h333
              have h482 : F338 32 = .int (zI 0) := (k341 32 (by decide)).trans h329
              refine F_callV hX (st := []) (c_Mo_readByte_no E f335 F338 (((tN g e).2 + 2) + 4) (tE g e) h339 (moK_fr hmk (FrF.tr (FrF.tr (FrF.tr (FrF.tr (FrF.tr (FrF.rf (S := [30, 31])) k209 (by decide)) k252 (by decide)) k264 (by decide)) k300 (by decide)) k341 (by decide)) (by decide)) h340 h481 h482 (by omega)) cm_Mo_readByte im_Mo_readByte se_Mo_readByte rfl ml_Mo_357 d_Mo_readTable_111 (by decide) h339 rfl rfl (Nat.le_of_ble_eq_true rfl) (by decide) ?_
              rintro _ f483 ⟨rfl, F486, h487, h488, k489, k490⟩
              refine G_cast (st' := [.int (zI 0)]) ?_ rfl rfl rfl rfl
              refine G_if_eq_z hX (tgt := 123) d_Mo_readTable_114 rfl (by omega) (fun c491 => ?_) (fun c492 => by exfalso; omega)
              have h493 : F486 30 = .int (zI (((tN g e).2 + 2) + 4)) := (k489 30 (by decide)).trans h340
              have h494 : F486 31 = .int (zI (tE g e)) := (k489 31 (by decide)).trans h481
              refine G_loc (lv' := [(0, .ref (eA E 61)), (2, .int (zI e)), (3, .int (zI (g ((tN g e).2)))), (4, .int (zI (g (((tN g e).2) + 1))))]) [4, 2, 1, 0] rfl ?_
              exact join82 (-2) (((tN g e).2 + 2) + 4) (tE g e) (g ((tN g e).2)) (g (((tN g e).2) + 1)) F486 f483  (by decide) hdd (by omega) (by omega) (by omega) h488 h493 h494 (FrF.tr (FrF.tr (FrF.tr (FrF.tr (FrF.tr (FrF.tr FrF.rf k209 (by decide)) k252 (by decide)) k264 (by decide)) k300 (by decide)) k341 (by decide)) k489 (by decide)) h487 (Fr.tr (Fr.tr (Fr.tr (Fr.tr (Fr.tr (Fr.tr Fr.rf k210 (by decide)) k253 (by decide)) k265 (by decide)) k301 (by decide)) k342 (by decide)) k490 (by decide))
          · skip
            have hdd : tA g e st mT = -5 := by unfold tA; rw [if_neg q1, if_pos (Or.inr (Or.inr (by rw [rb_n qh]; decide)))]
            refine G_aload_n hX 4 rfl rfl d_Mo_readTable_106 ?_
            have h495 : F297 31 = .int (zI (tE g e)) := (k300 31 (by decide)).trans h291
            have h496 : f294 63 = iz E 1600 b := (k301 63 (by decide)).trans h293
            refine F_callV hX (st := []) (c_Mo_readHead_no E f294 F297 ((tN g e).2 + 2) (tE g e) b g sE h298 (moK_fr hmk (FrF.tr (FrF.tr (FrF.tr (FrF.tr (FrF.rf (S := [30, 31])) k209 (by decide)) k252 (by decide)) k264 (by decide)) k300 (by decide)) (by decide)) h332 h495 h329 h496 hG hgb (by omega) qh) cm_Mo_readHead im_Mo_readHead se_Mo_readHead rfl ml_Mo_416 d_Mo_readTable_107 (by decide) h298 rfl rfl (Nat.le_of_ble_eq_true rfl) (by decide) ?_
            rintro _ f497 ⟨rfl, F500, p'_501, h502, h503, h504, k505, p506, k507⟩
            refine G_cast (st' := []) ?_ rfl rfl rfl rfl
            refine G_aload_n hX 4 rfl rfl d_Mo_readTable_110 ?_
            refine F_callV hX (st := []) (c_Mo_readByte_f E f497 F500 (-2) h502 (moK_fr hmk (FrF.tr (FrF.tr (FrF.tr (FrF.tr (FrF.tr (FrF.rf (S := [30, 31, 32])) k209 (by decide)) k252 (by decide)) k264 (by decide)) k300 (by decide)) k505 (by decide)) (by decide)) h504 (by omega)) cm_Mo_readByte im_Mo_readByte se_Mo_readByte rfl ml_Mo_357 d_Mo_readTable_111 (by decide) h502 rfl rfl (Nat.le_of_ble_eq_true rfl) (by decide) ?_
            rintro _ f508 ⟨rfl, F511, h512, h513, k514, k515⟩
            refine G_cast (st' := [.int (zI 0)]) ?_ rfl rfl rfl rfl
            refine G_if_eq_z hX (tgt := 123) d_Mo_readTable_114 rfl (by omega) (fun c516 => ?_) (fun c517 => by exfalso; omega)
            have h518 : F511 30 = .int (zI p'_501) := (k514 30 (by decide)).trans h503
            have h519 : F511 31 = .int (zI (tE g e)) := (k514 31 (by decide)).trans ((k505 31 (by decide)).trans h495)
            refine G_loc (lv' := [(0, .ref (eA E 61)), (2, .int (zI e)), (3, .int (zI (g ((tN g e).2)))), (4, .int (zI (g (((tN g e).2) + 1))))]) [4, 2, 1, 0] rfl ?_
            exact join82 (-2) p'_501 (tE g e) (g ((tN g e).2)) (g (((tN g e).2) + 1)) F511 f508  (by decide) hdd (by omega) (by omega) (by omega) h513 h518 h519 (FrF.tr (FrF.tr (FrF.tr (FrF.tr (FrF.tr (FrF.tr FrF.rf k209 (by decide)) k252 (by decide)) k264 (by decide)) k300 (by decide)) k505 (by decide)) k514 (by decide)) h512 (Fr.tr (Fr.tr (Fr.tr (Fr.tr (Fr.tr (Fr.tr Fr.rf k210 (by decide)) k253 (by decide)) k265 (by decide)) k301 (by decide)) k507 (by decide)) k515 (by decide))
