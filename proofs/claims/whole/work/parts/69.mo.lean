/-! DeltaFerryModel: decode, begin; printed by wip/tools/m_mo18.py -/
theorem c_Mo_decode (E : EV) (f : Nat → va_E) (F : Nat → Value) (b : Int → Int) (sz : Int → Int) (g : Int → Int) (st : Int → Int) (old : Int → Int) (mR : Int → Int) (mT : Int → Int) (tb : Int → Int) (ob : Int → Int) (o : Int → Int) (nr : Int → Int) (sm : Int → Int) (av : Int → Int) (ev : Int → Int) (hMo : f 61 = mob F) (hmk : moK E F) (hc63 : f 63 = iz E 1600 b) (hc64 : f 64 = iz E 4 sz) (hc80 : f 80 = iz E 1536 tb) (hc81 : f 81 = iz E 1536 ob) (hc82 : f 82 = iz E 1536 o) (hc78 : f 78 = iz E 8 nr) (hc79 : f 79 = iz E 1024 sm) (hc83 : f 83 = iz E 3 av) (hc84 : f 84 = iz E 3 ev) (hsz : ∀ k, 0 ≤ k → k ≤ 3 → 0 ≤ sz k ∧ sz k ≤ (if k = 2 then 700 else 300)) (hG : isB g) (hgb : ∀ i, 0 ≤ i → i < sz 2 → b (600 + i) = g i) (hoB : isB old) (hago : ∀ i, 0 ≤ i → i < sz 0 → b i = old i) (hsF : ∀ x, 0 ≤ x → x < 1536 → st x = stF x) (hsB : isB st) (hs3 : ∀ k, 0 ≤ k → k < 512 → st k ≤ 3) (hmR : isB mR) (hmT : isB mT) : CF yn_Mo_decode cd_Mo_decode 4 (some (.int)) 9 E [.ref (eA E 61)] f (fun r f' => ∃ (F' : Nat → Value) (r' : Int) (b' : Int → Int) (sz' : Int → Int) (tb' : Int → Int) (ob' : Int → Int) (o' : Int → Int) (nr' : Int → Int) (sm' : Int → Int) (av' : Int → Int) (ev' : Int → Int), r = some (.int (zI r')) ∧ f' 61 = mob F' ∧ FrF [25, 26, 27, 30, 31, 32, 34, 36, 37, 39, 40, 41, 42, 43] F F' ∧ f' 63 = iz E 1600 b' ∧ f' 64 = iz E 4 sz' ∧ f' 80 = iz E 1536 tb' ∧ f' 81 = iz E 1536 ob' ∧ f' 82 = iz E 1536 o' ∧ f' 78 = iz E 8 nr' ∧ f' 79 = iz E 1024 sm' ∧ f' 83 = iz E 3 av' ∧ f' 84 = iz E 3 ev' ∧ (r' = if (dcF g (sz 2) st old (sz 0) mR mT).1 = 0 then (dcF g (sz 2) st old (sz 0) mR mT).2.2 else (dcF g (sz 2) st old (sz 0) mR mT).1) ∧ ((dcF g (sz 2) st old (sz 0) mR mT).1 = 0 → sz' = uz sz 3 (dcF g (sz 2) st old (sz 0) mR mT).2.2 ∧ (∀ i, 0 ≤ i → i < (dcF g (sz 2) st old (sz 0) mR mT).2.2 → b' (1300 + i) = (dcF g (sz 2) st old (sz 0) mR mT).2.1 i) ∧ (∀ j, j < 1300 → b' j = b j)) ∧ (¬ (dcF g (sz 2) st old (sz 0) mR mT).1 = 0 → sz' = sz ∧ b' = b) ∧ (-10 ≤ r' ∧ r' ≤ 300) ∧ Fr [63, 64, 80, 81, 82, 78, 79, 83, 84, 61] f f') := by
  refine CF.of (by decide +kernel) (Nat.le_of_ble_eq_true rfl) fun X hX hE => ?_
  have hX : Ok E X "DeltaFerryModel" "decode" cd_Mo_decode 4 (some (.int)) (rl 9) := hX
  refine G_cast (lv' := [(0, .ref (eA E 61))]) ?_ rfl rfl rfl rfl
  have hsz0 := hsz 0 (by decide) (by decide)
  rw [if_neg (by decide)] at hsz0
  have hsz2 := hsz 2 (by decide) (by decide)
  rw [if_pos rfl] at hsz2
  refine G_aload_n hX 0 rfl rfl d_Mo_decode_0 ?_
  refine G_iconst hX d_Mo_decode_1 ?_
  refine M_put hX fg_Mo_348 fp_Mo_30 d_Mo_decode_2 hMo rfl rfl (by decide) (fun f1 F2 h3 h4 k5 k6 => ?_)
  refine G_aload_n hX 0 rfl rfl d_Mo_decode_5 ?_
  refine G_aload_n hX 0 rfl rfl d_Mo_decode_6 ?_
  have h7 : F2 2 = .ref (eA E 64) := (k5 2 (by decide)).trans (hmk 2 64 (by decide))
  refine M_get hX fg_Mo_81 d_Mo_decode_7 h3 (by decide) h7 ?_
  refine G_iconst hX d_Mo_decode_10 ?_
  have h8 : f1 64 = iz E 4 sz := (k6 64 (by decide)).trans hc64
  refine F_iald hX d_Mo_decode_11 64 (by decide) h8 (by omega) ?_
  refine M_put hX fg_Mo_351 fp_Mo_31 d_Mo_decode_12 h3 rfl rfl (by decide) (fun f9 F10 h11 h12 k13 k14 => ?_)
  refine G_aload_n hX 0 rfl rfl d_Mo_decode_15 ?_
  refine G_iconst hX d_Mo_decode_16 ?_
  refine M_put hX fg_Mo_345 fp_Mo_32 d_Mo_decode_17 h11 rfl rfl (by decide) (fun f15 F16 h17 h18 k19 k20 => ?_)
  refine G_aload_n hX 0 rfl rfl d_Mo_decode_20 ?_
  have h21 : f15 81 = iz E 1536 ob := (k20 81 (by decide)).trans ((k14 81 (by decide)).trans ((k6 81 (by decide)).trans hc81))
  refine F_callV hX (st := []) (c_Mo_layTable E f15 F16 ob h17 (moK_fr hmk (FrF.tr (FrF.tr (FrF.tr (FrF.rf (S := [30, 31, 32])) k5 (by decide)) k13 (by decide)) k19 (by decide)) (by decide)) h21) cm_Mo_layTable im_Mo_layTable se_Mo_layTable rfl ml_Mo_426 d_Mo_decode_21 (by decide) h17 rfl rfl (Nat.le_of_ble_eq_true rfl) (by decide) ?_
  rintro _ f22 ⟨rfl, F25, ob'_26, h27, h28, k29, h30, p31, k32⟩
  refine G_cast (st' := []) ?_ rfl rfl rfl rfl
  refine G_aload_n hX 0 rfl rfl d_Mo_decode_24 ?_
  refine G_iconst hX d_Mo_decode_25 ?_
  have h33 : f22 80 = iz E 1536 tb := (k32 80 (by decide)).trans ((k20 80 (by decide)).trans ((k14 80 (by decide)).trans ((k6 80 (by decide)).trans hc80)))
  refine F_callV hX (st := []) (c_Mo_useTable0 E f22 F25 ob'_26 tb h27 (moK_fr hmk (FrF.tr (FrF.tr (FrF.tr (FrF.tr (FrF.rf (S := [30, 31, 32, 34])) k5 (by decide)) k13 (by decide)) k19 (by decide)) k29 (by decide)) (by decide)) h30 h33) cm_Mo_useTable im_Mo_useTable se_Mo_useTable rfl ml_Mo_422 d_Mo_decode_26 (by decide) h27 rfl rfl (Nat.le_of_ble_eq_true rfl) (by decide) ?_
  rintro _ f34 ⟨rfl, tb'_37, h38, p39, k40⟩
  refine G_cast (st' := []) ?_ rfl rfl rfl rfl
  have h41 : f34 81 = iz E 1536 ob'_26 := (k40 81 (by decide)).trans h30
  have hob : agB ob'_26 st 1536 := fun x h1 h2 => (p31 x h1 h2).trans (hsF x h1 h2).symm
  have htb : ∀ x, 0 ≤ x → x < 1536 → tb'_37 x = st x := fun x h1 h2 => (p39 x h1 h2).trans (hob x h1 h2)
  have join47 : ∀ (fl : Int) (rr : Int) (pp : Int) (ss : Int) (tb9 : Int → Int) (o9 : Int → Int) (nr9 : Int → Int) (sm9 : Int → Int) (av9 : Int → Int) (ev9 : Int → Int) (F42 : Nat → Value) (f48 : Nat → va_E), (fl ≠ 0 ∧ -10 ≤ fl ∧ fl ≤ 0) → ((dcF g (sz 2) st old (sz 0) mR mT).1 = fl) → (((-1000000000 ≤ pp ∧ pp ≤ 1000000000) ∧ -1000000000 ≤ ss ∧ ss ≤ 1000000000) ∧ 0 ≤ rr ∧ rr ≤ 1000) → (F42 32 = .int (zI fl)) → (F42 30 = .int (zI pp)) → (F42 31 = .int (zI ss)) → (FrF [25, 26, 27, 30, 31, 32, 34, 36, 37, 39, 40, 41, 42, 43] F25 F42) → f48 80 = iz E 1536 tb9 → f48 82 = iz E 1536 o9 → f48 78 = iz E 8 nr9 → f48 79 = iz E 1024 sm9 → f48 83 = iz E 3 av9 → f48 84 = iz E 3 ev9 → f48 61 = mob F42 → Fr [80, 82, 78, 79, 83, 84, 61] f34 f48 → G E X 0 0 85 [(0, .ref (eA E 61))] [.int (zI rr)] (wl E f48) := by
    intro fl rr pp ss tb9 o9 nr9 sm9 av9 ev9 F42 f48 hfl hdc hps h43 h44 h45 k46 h50 h51 h52 h53 h54 h55 h56 k49
    refine G_istore_n hX (lv' := [(2, .int (zI rr)), (0, .ref (eA E 61))]) rfl (by decide) rfl d_Mo_decode_85 ?_
    refine G_iconst hX d_Mo_decode_86 ?_
    refine G_istore_n hX (lv' := [(3, .int (zI 0)), (2, .int (zI rr)), (0, .ref (eA E 61))]) rfl (by decide) rfl d_Mo_decode_87 ?_
    have h57 : f48 81 = iz E 1536 ob'_26 := (k49 81 (by decide)).trans h41
    have loop58 : ∀ (q : Nat) (i : Int) (ob8 : Int → Int) (f59 : Nat → va_E), (sz 0 - i).toNat < q → (0 ≤ i ∧ i ≤ sz 0) → (agB ob8 old i) → f59 81 = iz E 1536 ob8 → Fr [81] f48 f59 → G E X 0 0 88 [(2, .int (zI rr)), (0, .ref (eA E 61)), (3, .int (zI i))] [] (wl E f59) := by
      intro q
      induction q with
      | zero => intro i ob8 f59 hms61; exact absurd hms61 (Nat.not_lt_zero _)
      | succ q ih62 =>
        intro i ob8 f59 hms61 hi ho8 h63 k60
        refine G_iload_n hX 2 rfl rfl d_Mo_decode_88 ?_
        refine G_aload_n hX 1 rfl rfl d_Mo_decode_89 ?_
        have h64 : f59 61 = mob F42 := (k60 61 (by decide)).trans h56
        have h65 : F42 2 = .ref (eA E 64) := (k46 2 (by decide)).trans ((k29 2 (by decide)).trans ((k19 2 (by decide)).trans ((k13 2 (by decide)).trans h7)))
        refine M_get hX fg_Mo_81 d_Mo_decode_90 h64 (by decide) h65 ?_
        refine G_iconst hX d_Mo_decode_93 ?_
        have h66 : f59 64 = iz E 4 sz := (k60 64 (by decide)).trans ((k49 64 (by decide)).trans ((k40 64 (by decide)).trans ((k32 64 (by decide)).trans ((k20 64 (by decide)).trans ((k14 64 (by decide)).trans h8)))))
        refine F_iald hX d_Mo_decode_94 64 (by decide) h66 (by omega) ?_
        refine G_icmp_ge_z hX (tgt := 116) d_Mo_decode_95 rfl (by omega) (fun c67 => ?_) (fun c68 => ?_)
        · skip
          have hie : i = sz 0 := by omega
          rw [hie] at ho8
          refine G_aload_n hX 1 rfl rfl d_Mo_decode_116 ?_
          refine G_aload_n hX 1 rfl rfl d_Mo_decode_117 ?_
          refine M_get hX fg_Mo_81 d_Mo_decode_118 h64 (by decide) h65 ?_
          refine G_iconst hX d_Mo_decode_121 ?_
          refine F_iald hX d_Mo_decode_122 64 (by decide) h66 (by omega) ?_
          refine M_put hX fg_Mo_364 fp_Mo_34 d_Mo_decode_123 h64 rfl rfl (by decide) (fun f69 F70 h71 h72 k73 k74 => ?_)
          refine G_aload_n hX 1 rfl rfl d_Mo_decode_126 ?_
          refine G_sipush hX (by decide) d_Mo_decode_127 ?_
          refine M_put hX fg_Mo_407 fp_Mo_37 d_Mo_decode_130 h71 rfl rfl (by decide) (fun f75 F76 h77 h78 k79 k80 => ?_)
          refine G_aload_n hX 1 rfl rfl d_Mo_decode_133 ?_
          refine G_iload_n hX 0 rfl rfl d_Mo_decode_134 ?_
          refine G_bipush hX (by decide) d_Mo_decode_135 ?_
          refine G_irem_z hX (by omega) d_Mo_decode_137 ?_
          refine G_iload_n hX 0 rfl rfl d_Mo_decode_138 ?_
          refine G_bipush hX (by decide) d_Mo_decode_139 ?_
          refine G_idiv_z hX (by omega) d_Mo_decode_141 ?_
          have h81 : F76 30 = .int (zI pp) := (k79 30 (by decide)).trans ((k73 30 (by decide)).trans h44)
          have h82 : F76 31 = .int (zI ss) := (k79 31 (by decide)).trans ((k73 31 (by decide)).trans h45)
          have h83 : F76 32 = .int (zI fl) := (k79 32 (by decide)).trans ((k73 32 (by decide)).trans h43)
          refine F_callV hX (st := []) (c_Mo_readWindows_f E f75 F76 (rr % 16) (rr / 16) pp ss fl h77 (moK_fr hmk (FrF.tr (FrF.tr (FrF.tr (FrF.tr (FrF.tr (FrF.tr (FrF.tr (FrF.rf (S := [25, 26, 27, 30, 31, 32, 34, 36, 37, 39, 40, 41, 42, 43])) k5 (by decide)) k13 (by decide)) k19 (by decide)) k29 (by decide)) k46 (by decide)) k73 (by decide)) k79 (by decide)) (by decide)) h81 h82 h83 hfl (by omega)) cm_Mo_readWindows im_Mo_readWindows se_Mo_readWindows rfl ml_Mo_419 d_Mo_decode_142 (by decide) h77 rfl rfl (Nat.le_of_ble_eq_true rfl) (by decide) ?_
          rintro _ f84 ⟨rfl, F87, h88, h89, k90, k91⟩
          refine G_cast (st' := []) ?_ rfl rfl rfl rfl
          refine G_aload_n hX 1 rfl rfl d_Mo_decode_145 ?_
          have h92 : F87 32 = .int (zI fl) := (k90 32 (by decide)).trans h83
          refine M_get hX fg_Mo_345 d_Mo_decode_146 h88 (by decide) h92 ?_
          refine G_if_eq_z hX (tgt := 157) d_Mo_decode_149 rfl (by omega) (fun c93 => by exfalso; omega) (fun c94 => ?_)
          refine G_aload_n hX 1 rfl rfl d_Mo_decode_152 ?_
          refine M_get hX fg_Mo_345 d_Mo_decode_153 h88 (by decide) h92 ?_
          have h95 : f84 63 = iz E 1600 b := (k91 63 (by decide)).trans ((k80 63 (by decide)).trans ((k74 63 (by decide)).trans ((k60 63 (by decide)).trans ((k49 63 (by decide)).trans ((k40 63 (by decide)).trans ((k32 63 (by decide)).trans ((k20 63 (by decide)).trans ((k14 63 (by decide)).trans ((k6 63 (by decide)).trans hc63)))))))))
          have h96 : f84 64 = iz E 4 sz := (k91 64 (by decide)).trans ((k80 64 (by decide)).trans ((k74 64 (by decide)).trans h66))
          have h97 : f84 80 = iz E 1536 tb9 := (k91 80 (by decide)).trans ((k80 80 (by decide)).trans ((k74 80 (by decide)).trans ((k60 80 (by decide)).trans h50)))
          have h98 : f84 81 = iz E 1536 ob8 := (k91 81 (by decide)).trans ((k80 81 (by decide)).trans ((k74 81 (by decide)).trans h63))
          have h99 : f84 82 = iz E 1536 o9 := (k91 82 (by decide)).trans ((k80 82 (by decide)).trans ((k74 82 (by decide)).trans ((k60 82 (by decide)).trans h51)))
          have h100 : f84 78 = iz E 8 nr9 := (k91 78 (by decide)).trans ((k80 78 (by decide)).trans ((k74 78 (by decide)).trans ((k60 78 (by decide)).trans h52)))
          have h101 : f84 79 = iz E 1024 sm9 := (k91 79 (by decide)).trans ((k80 79 (by decide)).trans ((k74 79 (by decide)).trans ((k60 79 (by decide)).trans h53)))
          have h102 : f84 83 = iz E 3 av9 := (k91 83 (by decide)).trans ((k80 83 (by decide)).trans ((k74 83 (by decide)).trans ((k60 83 (by decide)).trans h54)))
          have h103 : f84 84 = iz E 3 ev9 := (k91 84 (by decide)).trans ((k80 84 (by decide)).trans ((k74 84 (by decide)).trans ((k60 84 (by decide)).trans h55)))
          exact F_iret hX hE d_Mo_decode_156 ⟨F87, _, _, _, _, _, _, _, _, _, _, rfl, h88, (FrF.tr (FrF.tr (FrF.tr (FrF.tr (FrF.tr (FrF.tr (FrF.tr (FrF.tr FrF.rf k5 (by decide)) k13 (by decide)) k19 (by decide)) k29 (by decide)) k46 (by decide)) k73 (by decide)) k79 (by decide)) k90 (by decide)), h95, h96, h97, h98, h99, h100, h101, h102, h103, (by rw [hdc, if_neg hfl.1]), (fun q8 => absurd (hdc.symm.trans q8) hfl.1), (fun _ => ⟨rfl, rfl⟩), (by omega), (Fr.tr (Fr.tr (Fr.tr (Fr.tr (Fr.tr (Fr.tr (Fr.tr (Fr.tr (Fr.tr (Fr.tr Fr.rf k6 (by decide)) k14 (by decide)) k20 (by decide)) k32 (by decide)) k40 (by decide)) k49 (by decide)) k60 (by decide)) k74 (by decide)) k80 (by decide)) k91 (by decide))⟩
        · skip
          refine G_aload_n hX 1 rfl rfl d_Mo_decode_98 ?_
          have h104 : F42 35 = .ref (eA E 81) := (k46 35 (by decide)).trans ((k29 35 (by decide)).trans ((k19 35 (by decide)).trans ((k13 35 (by decide)).trans ((k5 35 (by decide)).trans (hmk 35 81 (by decide))))))
          refine M_get hX fg_Mo_139 d_Mo_decode_99 h64 (by decide) h104 ?_
          refine G_iload_n hX 2 rfl rfl d_Mo_decode_102 ?_
          refine G_aload_n hX 1 rfl rfl d_Mo_decode_103 ?_
          have h105 : F42 1 = .ref (eA E 63) := (k46 1 (by decide)).trans ((k29 1 (by decide)).trans ((k19 1 (by decide)).trans ((k13 1 (by decide)).trans ((k5 1 (by decide)).trans (hmk 1 63 (by decide))))))
          refine M_get hX fg_Mo_77 d_Mo_decode_104 h64 (by decide) h105 ?_
          refine G_iload_n hX 2 rfl rfl d_Mo_decode_107 ?_
          have h106 : f59 63 = iz E 1600 b := (k60 63 (by decide)).trans ((k49 63 (by decide)).trans ((k40 63 (by decide)).trans ((k32 63 (by decide)).trans ((k20 63 (by decide)).trans ((k14 63 (by decide)).trans ((k6 63 (by decide)).trans hc63))))))
          refine F_iald hX d_Mo_decode_108 63 (by decide) h106 (by omega) ?_
          refine G_top (show zI (b i) = zI (old i) from congrArg zI (hago i (by omega) (by omega))) ?_
          refine F_iast hX d_Mo_decode_109 81 (by decide) h63 (by omega) (fun f107 h108 k109 => ?_)
          refine G_iinc_z hX (lv' := [(3, .int (zI (i + 1))), (2, .int (zI rr)), (0, .ref (eA E 61))]) 2 rfl (by decide) rfl d_Mo_decode_110 ?_
          refine G_goto hX (tgt := 88) d_Mo_decode_113 rfl ?_
          refine G_loc (lv' := [(2, .int (zI rr)), (0, .ref (eA E 61)), (3, .int (zI (i + 1)))]) [1, 2, 0] rfl ?_
          exact ih62 (i + 1) (uz ob8 i (old i)) f107 (by omega) (by omega) (fun j h1 h2 => by by_cases q9 : j = i; (rw [q9]; exact if_pos rfl); exact (if_neg q9).trans (ho8 j h1 (by omega))) h108 (Fr.tr (Fr.tr Fr.rf k60 (by decide)) k109 (by decide))
    refine G_loc (lv' := [(2, .int (zI rr)), (0, .ref (eA E 61)), (3, .int (zI 0))]) [1, 2, 0] rfl ?_
    exact loop58 (_ + 1) 0 ob'_26 f48 (Nat.lt_succ_self _) (by omega) (fun j h1 h2 => by omega) h57 Fr.rf
  have join115 : ∀ (rr : Int) (pp : Int) (t9 : Int → Int) (tb9 : Int → Int) (o9 : Int → Int) (nr9 : Int → Int) (sm9 : Int → Int) (av9 : Int → Int) (ev9 : Int → Int) (F110 : Nat → Value) (f116 : Nat → va_E), (dcF g (sz 2) st old (sz 0) mR mT = rdW g t9 old (rr % 16) (rr / 16) (sz 0) 300 (sz 2) 700 pp mR 0) → (∀ x, 0 ≤ x → x < 1536 → tb9 x = t9 x) → (isB t9) → (∀ k, 0 ≤ k → k < 512 → t9 k ≤ 3) → ((0 ≤ pp ∧ pp ≤ sz 2) ∧ 0 ≤ rr ∧ rr ≤ 1000 ∧ rr % 16 ≤ 8 ∧ rr / 16 ≤ 4) → (F110 32 = .int (zI 0)) → (F110 30 = .int (zI pp)) → (F110 31 = .int (zI (sz 2))) → (FrF [25, 26, 27, 30, 31, 32, 34, 36, 37, 39, 40, 41, 42, 43] F25 F110) → f116 80 = iz E 1536 tb9 → f116 82 = iz E 1536 o9 → f116 78 = iz E 8 nr9 → f116 79 = iz E 1024 sm9 → f116 83 = iz E 3 av9 → f116 84 = iz E 3 ev9 → f116 61 = mob F110 → Fr [80, 82, 78, 79, 83, 84, 61] f34 f116 → G E X 0 0 85 [(0, .ref (eA E 61))] [.int (zI rr)] (wl E f116) := by
    intro rr pp t9 tb9 o9 nr9 sm9 av9 ev9 F110 f116 hdc ht9 htB ht3 hpp h111 h112 h113 k114 h118 h119 h120 h121 h122 h123 h124 k117
    refine G_istore_n hX (lv' := [(2, .int (zI rr)), (0, .ref (eA E 61))]) rfl (by decide) rfl d_Mo_decode_85 ?_
    refine G_iconst hX d_Mo_decode_86 ?_
    refine G_istore_n hX (lv' := [(3, .int (zI 0)), (2, .int (zI rr)), (0, .ref (eA E 61))]) rfl (by decide) rfl d_Mo_decode_87 ?_
    have h125 : f116 81 = iz E 1536 ob'_26 := (k117 81 (by decide)).trans h41
    have loop126 : ∀ (q : Nat) (i : Int) (ob8 : Int → Int) (f127 : Nat → va_E), (sz 0 - i).toNat < q → (0 ≤ i ∧ i ≤ sz 0) → (agB ob8 old i) → f127 81 = iz E 1536 ob8 → Fr [81] f116 f127 → G E X 0 0 88 [(2, .int (zI rr)), (0, .ref (eA E 61)), (3, .int (zI i))] [] (wl E f127) := by
      intro q
      induction q with
      | zero => intro i ob8 f127 hms129; exact absurd hms129 (Nat.not_lt_zero _)
      | succ q ih130 =>
        intro i ob8 f127 hms129 hi ho8 h131 k128
        refine G_iload_n hX 2 rfl rfl d_Mo_decode_88 ?_
        refine G_aload_n hX 1 rfl rfl d_Mo_decode_89 ?_
        have h132 : f127 61 = mob F110 := (k128 61 (by decide)).trans h124
        have h133 : F110 2 = .ref (eA E 64) := (k114 2 (by decide)).trans ((k29 2 (by decide)).trans ((k19 2 (by decide)).trans ((k13 2 (by decide)).trans h7)))
        refine M_get hX fg_Mo_81 d_Mo_decode_90 h132 (by decide) h133 ?_
        refine G_iconst hX d_Mo_decode_93 ?_
        have h134 : f127 64 = iz E 4 sz := (k128 64 (by decide)).trans ((k117 64 (by decide)).trans ((k40 64 (by decide)).trans ((k32 64 (by decide)).trans ((k20 64 (by decide)).trans ((k14 64 (by decide)).trans h8)))))
        refine F_iald hX d_Mo_decode_94 64 (by decide) h134 (by omega) ?_
        refine G_icmp_ge_z hX (tgt := 116) d_Mo_decode_95 rfl (by omega) (fun c135 => ?_) (fun c136 => ?_)
        · skip
          have hie : i = sz 0 := by omega
          rw [hie] at ho8
          refine G_aload_n hX 1 rfl rfl d_Mo_decode_116 ?_
          refine G_aload_n hX 1 rfl rfl d_Mo_decode_117 ?_
          refine M_get hX fg_Mo_81 d_Mo_decode_118 h132 (by decide) h133 ?_
          refine G_iconst hX d_Mo_decode_121 ?_
          refine F_iald hX d_Mo_decode_122 64 (by decide) h134 (by omega) ?_
          refine M_put hX fg_Mo_364 fp_Mo_34 d_Mo_decode_123 h132 rfl rfl (by decide) (fun f137 F138 h139 h140 k141 k142 => ?_)
          refine G_aload_n hX 1 rfl rfl d_Mo_decode_126 ?_
          refine G_sipush hX (by decide) d_Mo_decode_127 ?_
          refine M_put hX fg_Mo_407 fp_Mo_37 d_Mo_decode_130 h139 rfl rfl (by decide) (fun f143 F144 h145 h146 k147 k148 => ?_)
          refine G_aload_n hX 1 rfl rfl d_Mo_decode_133 ?_
          refine G_iload_n hX 0 rfl rfl d_Mo_decode_134 ?_
          refine G_bipush hX (by decide) d_Mo_decode_135 ?_
          refine G_irem_z hX (by omega) d_Mo_decode_137 ?_
          refine G_iload_n hX 0 rfl rfl d_Mo_decode_138 ?_
          refine G_bipush hX (by decide) d_Mo_decode_139 ?_
          refine G_idiv_z hX (by omega) d_Mo_decode_141 ?_
          have h149 : F144 30 = .int (zI pp) := (k147 30 (by decide)).trans ((k141 30 (by decide)).trans h112)
          have h150 : F144 31 = .int (zI (sz 2)) := (k147 31 (by decide)).trans ((k141 31 (by decide)).trans h113)
          have h151 : F144 32 = .int (zI 0) := (k147 32 (by decide)).trans ((k141 32 (by decide)).trans h111)
          have h152 : F144 34 = .int (zI (sz 0)) := (k147 34 (by decide)).trans h140
          have h153 : f143 81 = iz E 1536 ob8 := (k148 81 (by decide)).trans ((k142 81 (by decide)).trans h131)
          have h154 : f143 82 = iz E 1536 o9 := (k148 82 (by decide)).trans ((k142 82 (by decide)).trans ((k128 82 (by decide)).trans h119))
          have h155 : f143 78 = iz E 8 nr9 := (k148 78 (by decide)).trans ((k142 78 (by decide)).trans ((k128 78 (by decide)).trans h120))
          have h156 : f143 79 = iz E 1024 sm9 := (k148 79 (by decide)).trans ((k142 79 (by decide)).trans ((k128 79 (by decide)).trans h121))
          have h157 : f143 83 = iz E 3 av9 := (k148 83 (by decide)).trans ((k142 83 (by decide)).trans ((k128 83 (by decide)).trans h122))
          have h158 : f143 84 = iz E 3 ev9 := (k148 84 (by decide)).trans ((k142 84 (by decide)).trans ((k128 84 (by decide)).trans h123))
          have h159 : f143 63 = iz E 1600 b := (k148 63 (by decide)).trans ((k142 63 (by decide)).trans ((k128 63 (by decide)).trans ((k117 63 (by decide)).trans ((k40 63 (by decide)).trans ((k32 63 (by decide)).trans ((k20 63 (by decide)).trans ((k14 63 (by decide)).trans ((k6 63 (by decide)).trans hc63))))))))
          have h160 : f143 80 = iz E 1536 tb9 := (k148 80 (by decide)).trans ((k142 80 (by decide)).trans ((k128 80 (by decide)).trans h118))
          refine F_callV hX (st := []) (c_Mo_readWindows E f143 F144 pp (rr % 16) (rr / 16) (sz 2) (sz 0) 300 t9 tb9 ob8 o9 old mR nr9 sm9 av9 ev9 b g (sz 2) h145 (moK_fr hmk (FrF.tr (FrF.tr (FrF.tr (FrF.tr (FrF.tr (FrF.tr (FrF.tr (FrF.rf (S := [25, 26, 27, 30, 31, 32, 34, 36, 37, 39, 40, 41, 42, 43])) k5 (by decide)) k13 (by decide)) k19 (by decide)) k29 (by decide)) k114 (by decide)) k141 (by decide)) k147 (by decide)) (by decide)) h149 h150 h151 h152 h146 h153 h154 h155 h156 h157 h158 h159 h160 (by omega) (by omega) (by omega) ho8 hoB hmR ht9 htB ht3 hG hgb) cm_Mo_readWindows im_Mo_readWindows se_Mo_readWindows rfl ml_Mo_419 d_Mo_decode_142 (by decide) h145 rfl rfl (Nat.le_of_ble_eq_true rfl) (by decide) ?_
          rintro _ f161 ⟨rfl, F164, pl'_165, st'_166, fl'_167, md'_168, o'_169, nr'_170, sm'_171, av'_172, ev'_173, h174, h175, h176, h177, h178, k179, h180, h181, h182, h183, h184, p185, p186, p187, k188⟩
          refine G_cast (st' := []) ?_ rfl rfl rfl rfl
          rw [← hdc] at p185 p186
          have hrb := rdW_b (g := g) (t := t9) (old := old) (N := rr % 16) (S := rr / 16) (oc := sz 0) (nm := 300) (e := sz 2) hG (by omega) 700 pp mR 0 (by omega) (by omega) (by decide) (by decide)
          rw [← hdc] at hrb
          by_cases qf : fl'_167 = 0
          · skip
            have hgd := p186 qf
            have hq9 : (dcF g (sz 2) st old (sz 0) mR mT).1 = 0 := p185.symm.trans qf
            have h189 : F164 32 = .int (zI 0) := h177.trans (congrArg (fun z => Value.int (zI z)) (qf))
            have h190 : F164 36 = .int (zI ((dcF g (sz 2) st old (sz 0) mR mT).2.2)) := h178.trans (congrArg (fun z => Value.int (zI z)) (hgd.2.2.1))
            refine G_aload_n hX 1 rfl rfl d_Mo_decode_145 ?_
            refine M_get hX fg_Mo_345 d_Mo_decode_146 h174 (by decide) h189 ?_
            refine G_if_eq_z hX (tgt := 157) d_Mo_decode_149 rfl (by omega) (fun c191 => ?_) (fun c192 => by exfalso; omega)
            refine G_iconst hX d_Mo_decode_157 ?_
            refine G_istore_n hX (lv' := [(3, .int (zI 0)), (2, .int (zI rr)), (0, .ref (eA E 61))]) rfl (by decide) rfl d_Mo_decode_158 ?_
            have loop193 : ∀ (q : Nat) (j : Int) (b8 : Int → Int) (f194 : Nat → va_E), ((dcF g (sz 2) st old (sz 0) mR mT).2.2 - j).toNat < q → (0 ≤ j ∧ j ≤ (dcF g (sz 2) st old (sz 0) mR mT).2.2) → ((∀ i, 0 ≤ i → i < j → b8 (1300 + i) = (dcF g (sz 2) st old (sz 0) mR mT).2.1 i) ∧ ∀ i, i < 1300 → b8 i = b i) → f194 63 = iz E 1600 b8 → Fr [63] f161 f194 → G E X 0 0 159 [(0, .ref (eA E 61)), (3, .int (zI j))] [] (wl E f194) := by
              intro q
              induction q with
              | zero => intro j b8 f194 hms196; exact absurd hms196 (Nat.not_lt_zero _)
              | succ q ih197 =>
                intro j b8 f194 hms196 hj hb8 h198 k195
                refine G_iload_n hX 1 rfl rfl d_Mo_decode_159 ?_
                refine G_aload_n hX 0 rfl rfl d_Mo_decode_160 ?_
                have h199 : f194 61 = mob F164 := (k195 61 (by decide)).trans h174
                refine M_get hX fg_Mo_386 d_Mo_decode_161 h199 (by decide) h190 ?_
                refine G_icmp_ge_z hX (tgt := 189) d_Mo_decode_164 rfl (by omega) (fun c200 => ?_) (fun c201 => ?_)
                · skip
                  refine G_aload_n hX 0 rfl rfl d_Mo_decode_189 ?_
                  have h202 : F164 2 = .ref (eA E 64) := (k179 2 (by decide)).trans ((k147 2 (by decide)).trans ((k141 2 (by decide)).trans h133))
                  refine M_get hX fg_Mo_81 d_Mo_decode_190 h199 (by decide) h202 ?_
                  refine G_iconst hX d_Mo_decode_193 ?_
                  refine G_aload_n hX 0 rfl rfl d_Mo_decode_194 ?_
                  refine M_get hX fg_Mo_386 d_Mo_decode_195 h199 (by decide) h190 ?_
                  have h203 : f194 64 = iz E 4 sz := (k195 64 (by decide)).trans ((k188 64 (by decide)).trans ((k148 64 (by decide)).trans ((k142 64 (by decide)).trans h134)))
                  refine F_iast hX d_Mo_decode_198 64 (by decide) h203 (by omega) (fun f204 h205 k206 => ?_)
                  refine G_aload_n hX 0 rfl rfl d_Mo_decode_199 ?_
                  have h207 : f204 61 = mob F164 := (k206 61 (by decide)).trans h199
                  refine M_get hX fg_Mo_386 d_Mo_decode_200 h207 (by decide) h190 ?_
                  have hje : j = (dcF g (sz 2) st old (sz 0) mR mT).2.2 := by omega
                  rw [hje] at hb8
                  have h208 : f204 63 = iz E 1600 b8 := (k206 63 (by decide)).trans h198
                  have h209 : f204 80 = iz E 1536 tb9 := (k206 80 (by decide)).trans ((k195 80 (by decide)).trans ((k188 80 (by decide)).trans h160))
                  have h210 : f204 81 = iz E 1536 ob8 := (k206 81 (by decide)).trans ((k195 81 (by decide)).trans ((k188 81 (by decide)).trans h153))
                  have h211 : f204 82 = iz E 1536 o'_169 := (k206 82 (by decide)).trans ((k195 82 (by decide)).trans h180)
                  have h212 : f204 78 = iz E 8 nr'_170 := (k206 78 (by decide)).trans ((k195 78 (by decide)).trans h181)
                  have h213 : f204 79 = iz E 1024 sm'_171 := (k206 79 (by decide)).trans ((k195 79 (by decide)).trans h182)
                  have h214 : f204 83 = iz E 3 av'_172 := (k206 83 (by decide)).trans ((k195 83 (by decide)).trans h183)
                  have h215 : f204 84 = iz E 3 ev'_173 := (k206 84 (by decide)).trans ((k195 84 (by decide)).trans h184)
                  exact F_iret hX hE d_Mo_decode_203 ⟨F164, _, _, _, _, _, _, _, _, _, _, rfl, h207, (FrF.tr (FrF.tr (FrF.tr (FrF.tr (FrF.tr (FrF.tr (FrF.tr (FrF.tr FrF.rf k5 (by decide)) k13 (by decide)) k19 (by decide)) k29 (by decide)) k114 (by decide)) k141 (by decide)) k147 (by decide)) k179 (by decide)), h208, h205, h209, h210, h211, h212, h213, h214, h215, (by rw [if_pos hq9]), (fun _ => ⟨rfl, hb8.1, hb8.2⟩), (fun q8 => absurd hq9 q8), (by omega), (Fr.tr (Fr.tr (Fr.tr (Fr.tr (Fr.tr (Fr.tr (Fr.tr (Fr.tr (Fr.tr (Fr.tr (Fr.tr (Fr.tr Fr.rf k6 (by decide)) k14 (by decide)) k20 (by decide)) k32 (by decide)) k40 (by decide)) k117 (by decide)) k128 (by decide)) k142 (by decide)) k148 (by decide)) k188 (by decide)) k195 (by decide)) k206 (by decide))⟩
                · skip
                  refine G_aload_n hX 0 rfl rfl d_Mo_decode_167 ?_
                  have h216 : F164 1 = .ref (eA E 63) := (k179 1 (by decide)).trans ((k147 1 (by decide)).trans ((k141 1 (by decide)).trans ((k114 1 (by decide)).trans ((k29 1 (by decide)).trans ((k19 1 (by decide)).trans ((k13 1 (by decide)).trans ((k5 1 (by decide)).trans (hmk 1 63 (by decide)))))))))
                  refine M_get hX fg_Mo_77 d_Mo_decode_168 h199 (by decide) h216 ?_
                  refine G_sipush hX (by decide) d_Mo_decode_171 ?_
                  refine G_iload_n hX 1 rfl rfl d_Mo_decode_174 ?_
                  refine G_iadd_z hX d_Mo_decode_175 ?_
                  refine G_aload_n hX 0 rfl rfl d_Mo_decode_176 ?_
                  have h217 : F164 38 = .ref (eA E 82) := (k179 38 (by decide)).trans ((k147 38 (by decide)).trans ((k141 38 (by decide)).trans ((k114 38 (by decide)).trans ((k29 38 (by decide)).trans ((k19 38 (by decide)).trans ((k13 38 (by decide)).trans ((k5 38 (by decide)).trans (hmk 38 82 (by decide)))))))))
                  refine M_get hX fg_Mo_142 d_Mo_decode_177 h199 (by decide) h217 ?_
                  refine G_iload_n hX 1 rfl rfl d_Mo_decode_180 ?_
                  have h218 : f194 82 = iz E 1536 o'_169 := (k195 82 (by decide)).trans h180
                  refine F_iald hX d_Mo_decode_181 82 (by decide) h218 (by omega) ?_
                  refine G_top (show zI (o'_169 j) = zI ((dcF g (sz 2) st old (sz 0) mR mT).2.1 j) from congrArg zI (hgd.2.2.2 j (by omega) (by omega))) ?_
                  refine F_iast hX d_Mo_decode_182 63 (by decide) h198 (by omega) (fun f219 h220 k221 => ?_)
                  refine G_iinc_z hX (lv' := [(3, .int (zI (j + 1))), (0, .ref (eA E 61))]) 1 rfl (by decide) rfl d_Mo_decode_183 ?_
                  refine G_goto hX (tgt := 159) d_Mo_decode_186 rfl ?_
                  refine G_loc (lv' := [(0, .ref (eA E 61)), (3, .int (zI (j + 1)))]) [1, 0] rfl ?_
                  exact ih197 (j + 1) (uz b8 (1300 + j) ((dcF g (sz 2) st old (sz 0) mR mT).2.1 j)) f219 (by omega) (by omega) (by refine ⟨fun i h1 h2 => ?_, fun i h1 => ?_⟩; (by_cases q9 : i = j; (rw [q9]; exact if_pos rfl); exact (if_neg (by omega)).trans (hb8.1 i h1 (by omega))); exact (if_neg (by omega)).trans (hb8.2 i h1)) h220 (Fr.tr (Fr.tr Fr.rf k195 (by decide)) k221 (by decide))
            have h222 : f161 63 = iz E 1600 b := (k188 63 (by decide)).trans h159
            refine G_loc (lv' := [(0, .ref (eA E 61)), (3, .int (zI 0))]) [2, 0] rfl ?_
            exact loop193 (_ + 1) 0 b f161 (Nat.lt_succ_self _) (by omega) ⟨fun i h1 h2 => by omega, fun i _ => rfl⟩ h222 Fr.rf
          · skip
            have hq9 : ¬ (dcF g (sz 2) st old (sz 0) mR mT).1 = 0 := fun q8 => qf (p185.trans q8)
            refine G_aload_n hX 1 rfl rfl d_Mo_decode_145 ?_
            refine M_get hX fg_Mo_345 d_Mo_decode_146 h174 (by decide) h177 ?_
            refine G_if_eq_z hX (tgt := 157) d_Mo_decode_149 rfl (by omega) (fun c223 => by exfalso; omega) (fun c224 => ?_)
            refine G_aload_n hX 1 rfl rfl d_Mo_decode_152 ?_
            refine M_get hX fg_Mo_345 d_Mo_decode_153 h174 (by decide) h177 ?_
            have h225 : f161 63 = iz E 1600 b := (k188 63 (by decide)).trans h159
            have h226 : f161 64 = iz E 4 sz := (k188 64 (by decide)).trans ((k148 64 (by decide)).trans ((k142 64 (by decide)).trans h134))
            have h227 : f161 80 = iz E 1536 tb9 := (k188 80 (by decide)).trans h160
            have h228 : f161 81 = iz E 1536 ob8 := (k188 81 (by decide)).trans h153
            exact F_iret hX hE d_Mo_decode_156 ⟨F164, _, _, _, _, _, _, _, _, _, _, rfl, h174, (FrF.tr (FrF.tr (FrF.tr (FrF.tr (FrF.tr (FrF.tr (FrF.tr (FrF.tr FrF.rf k5 (by decide)) k13 (by decide)) k19 (by decide)) k29 (by decide)) k114 (by decide)) k141 (by decide)) k147 (by decide)) k179 (by decide)), h225, h226, h227, h228, h180, h181, h182, h183, h184, (by rw [if_neg hq9]; exact p185), (fun q8 => absurd q8 hq9), (fun _ => ⟨rfl, rfl⟩), (by omega), (Fr.tr (Fr.tr (Fr.tr (Fr.tr (Fr.tr (Fr.tr (Fr.tr (Fr.tr (Fr.tr (Fr.tr Fr.rf k6 (by decide)) k14 (by decide)) k20 (by decide)) k32 (by decide)) k40 (by decide)) k117 (by decide)) k128 (by decide)) k142 (by decide)) k148 (by decide)) k188 (by decide))⟩
        · skip
          refine G_aload_n hX 1 rfl rfl d_Mo_decode_98 ?_
          have h229 : F110 35 = .ref (eA E 81) := (k114 35 (by decide)).trans ((k29 35 (by decide)).trans ((k19 35 (by decide)).trans ((k13 35 (by decide)).trans ((k5 35 (by decide)).trans (hmk 35 81 (by decide))))))
          refine M_get hX fg_Mo_139 d_Mo_decode_99 h132 (by decide) h229 ?_
          refine G_iload_n hX 2 rfl rfl d_Mo_decode_102 ?_
          refine G_aload_n hX 1 rfl rfl d_Mo_decode_103 ?_
          have h230 : F110 1 = .ref (eA E 63) := (k114 1 (by decide)).trans ((k29 1 (by decide)).trans ((k19 1 (by decide)).trans ((k13 1 (by decide)).trans ((k5 1 (by decide)).trans (hmk 1 63 (by decide))))))
          refine M_get hX fg_Mo_77 d_Mo_decode_104 h132 (by decide) h230 ?_
          refine G_iload_n hX 2 rfl rfl d_Mo_decode_107 ?_
          have h231 : f127 63 = iz E 1600 b := (k128 63 (by decide)).trans ((k117 63 (by decide)).trans ((k40 63 (by decide)).trans ((k32 63 (by decide)).trans ((k20 63 (by decide)).trans ((k14 63 (by decide)).trans ((k6 63 (by decide)).trans hc63))))))
          refine F_iald hX d_Mo_decode_108 63 (by decide) h231 (by omega) ?_
          refine G_top (show zI (b i) = zI (old i) from congrArg zI (hago i (by omega) (by omega))) ?_
          refine F_iast hX d_Mo_decode_109 81 (by decide) h131 (by omega) (fun f232 h233 k234 => ?_)
          refine G_iinc_z hX (lv' := [(3, .int (zI (i + 1))), (2, .int (zI rr)), (0, .ref (eA E 61))]) 2 rfl (by decide) rfl d_Mo_decode_110 ?_
          refine G_goto hX (tgt := 88) d_Mo_decode_113 rfl ?_
          refine G_loc (lv' := [(2, .int (zI rr)), (0, .ref (eA E 61)), (3, .int (zI (i + 1)))]) [1, 2, 0] rfl ?_
          exact ih130 (i + 1) (uz ob8 i (old i)) f232 (by omega) (by omega) (fun j h1 h2 => by by_cases q9 : j = i; (rw [q9]; exact if_pos rfl); exact (if_neg q9).trans (ho8 j h1 (by omega))) h233 (Fr.tr (Fr.tr Fr.rf k128 (by decide)) k234 (by decide))
    refine G_loc (lv' := [(2, .int (zI rr)), (0, .ref (eA E 61)), (3, .int (zI 0))]) [1, 2, 0] rfl ?_
    exact loop126 (_ + 1) 0 ob'_26 f116 (Nat.lt_succ_self _) (by omega) (fun j h1 h2 => by omega) h125 Fr.rf
  by_cases qh : 0 + 4 ≤ sz 2 ∧ g 0 = 214 ∧ g (0 + 1) = 195 ∧ g (0 + 2) = 196 ∧ g (0 + 3) = 0
  · skip
    refine G_aload_n hX 0 rfl rfl d_Mo_decode_29 ?_
    have h235 : f34 61 = mob F25 := (k40 61 (by decide)).trans h27
    have h236 : F25 30 = .int (zI 0) := (k29 30 (by decide)).trans ((k19 30 (by decide)).trans ((k13 30 (by decide)).trans h4))
    have h237 : F25 31 = .int (zI (sz 2)) := (k29 31 (by decide)).trans ((k19 31 (by decide)).trans h12)
    have h238 : F25 32 = .int (zI 0) := (k29 32 (by decide)).trans h18
    have h239 : f34 63 = iz E 1600 b := (k40 63 (by decide)).trans ((k32 63 (by decide)).trans ((k20 63 (by decide)).trans ((k14 63 (by decide)).trans ((k6 63 (by decide)).trans hc63))))
    refine F_callV hX (st := []) (c_Mo_readHead_ok E f34 F25 0 (sz 2) b g (sz 2) h235 (moK_fr hmk (FrF.tr (FrF.tr (FrF.tr (FrF.tr (FrF.rf (S := [30, 31, 32, 34])) k5 (by decide)) k13 (by decide)) k19 (by decide)) k29 (by decide)) (by decide)) h236 h237 h238 h239 hG hgb (by omega) qh) cm_Mo_readHead im_Mo_readHead se_Mo_readHead rfl ml_Mo_416 d_Mo_decode_30 (by decide) h235 rfl rfl (Nat.le_of_ble_eq_true rfl) (by decide) ?_
    rintro _ f240 ⟨rfl, F243, h244, h245, k246, k247⟩
    refine G_cast (st' := []) ?_ rfl rfl rfl rfl
    by_cases q4 : 0 + 4 < sz 2
    · skip
      have hrv : rbV g 0 (sz 2) = g (0 + 4) := (rb_y qh).trans (nxV_lt q4)
      have hg4 := hG (0 + 4)
      refine G_aload_n hX 0 rfl rfl d_Mo_decode_33 ?_
      have h248 : F243 31 = .int (zI (sz 2)) := (k246 31 (by decide)).trans h237
      have h249 : F243 32 = .int (zI 0) := (k246 32 (by decide)).trans h238
      have h250 : f240 63 = iz E 1600 b := (k247 63 (by decide)).trans h239
      refine F_callV hX (st := []) (c_Mo_readByte_ok E f240 F243 (0 + 4) (sz 2) b g (sz 2) h244 (moK_fr hmk (FrF.tr (FrF.tr (FrF.tr (FrF.tr (FrF.tr (FrF.rf (S := [30, 31, 32, 34])) k5 (by decide)) k13 (by decide)) k19 (by decide)) k29 (by decide)) k246 (by decide)) (by decide)) h245 h248 h249 h250 hG hgb (by omega)) cm_Mo_readByte im_Mo_readByte se_Mo_readByte rfl ml_Mo_357 d_Mo_decode_34 (by decide) h244 rfl rfl (Nat.le_of_ble_eq_true rfl) (by decide) ?_
      rintro _ f251 ⟨rfl, F254, h255, h256, k257, k258⟩
      refine G_cast (st' := [.int (zI (g (0 + 4)))]) ?_ rfl rfl rfl rfl
      by_cases q0 : g (0 + 4) = 0
      · skip
        refine G_top (show zI (g (0 + 4)) = zI 0 from congrArg zI q0) ?_
        have hdc : dcF g (sz 2) st old (sz 0) mR mT = rdW g st old ((52 : Int) % 16) (52 / 16) (sz 0) 300 (sz 2) 700 (0 + 4 + 1) mR 0 := by unfold dcF; rw [hrv, if_pos q0]; rfl
        refine G_istore_n hX (lv' := [(1, .int (zI 0)), (0, .ref (eA E 61))]) rfl (by decide) rfl d_Mo_decode_37 ?_
        refine G_iload_n hX 0 rfl rfl d_Mo_decode_38 ?_
        refine G_if_eq_z hX (tgt := 64) d_Mo_decode_39 rfl (by omega) (fun c259 => ?_) (fun c260 => by exfalso; omega)
        refine G_iload_n hX 0 rfl rfl d_Mo_decode_64 ?_
        refine G_iconst hX d_Mo_decode_65 ?_
        refine G_icmp_ne_z hX (tgt := 83) d_Mo_decode_66 rfl (by omega) (fun c261 => ?_) (fun c262 => by exfalso; omega)
        refine G_bipush hX (by decide) d_Mo_decode_83 ?_
        have h263 : f251 80 = iz E 1536 tb'_37 := (k258 80 (by decide)).trans ((k247 80 (by decide)).trans h38)
        have h264 : f251 82 = iz E 1536 o := (k258 82 (by decide)).trans ((k247 82 (by decide)).trans ((k40 82 (by decide)).trans ((k32 82 (by decide)).trans ((k20 82 (by decide)).trans ((k14 82 (by decide)).trans ((k6 82 (by decide)).trans hc82))))))
        have h265 : f251 78 = iz E 8 nr := (k258 78 (by decide)).trans ((k247 78 (by decide)).trans ((k40 78 (by decide)).trans ((k32 78 (by decide)).trans ((k20 78 (by decide)).trans ((k14 78 (by decide)).trans ((k6 78 (by decide)).trans hc78))))))
        have h266 : f251 79 = iz E 1024 sm := (k258 79 (by decide)).trans ((k247 79 (by decide)).trans ((k40 79 (by decide)).trans ((k32 79 (by decide)).trans ((k20 79 (by decide)).trans ((k14 79 (by decide)).trans ((k6 79 (by decide)).trans hc79))))))
        have h267 : f251 83 = iz E 3 av := (k258 83 (by decide)).trans ((k247 83 (by decide)).trans ((k40 83 (by decide)).trans ((k32 83 (by decide)).trans ((k20 83 (by decide)).trans ((k14 83 (by decide)).trans ((k6 83 (by decide)).trans hc83))))))
        have h268 : f251 84 = iz E 3 ev := (k258 84 (by decide)).trans ((k247 84 (by decide)).trans ((k40 84 (by decide)).trans ((k32 84 (by decide)).trans ((k20 84 (by decide)).trans ((k14 84 (by decide)).trans ((k6 84 (by decide)).trans hc84))))))
        have h269 : F254 32 = .int (zI 0) := (k257 32 (by decide)).trans h249
        have h270 : F254 31 = .int (zI (sz 2)) := (k257 31 (by decide)).trans h248
        refine G_loc (lv' := [(0, .ref (eA E 61))]) [1] rfl ?_
        exact join115 52 ((0 + 4) + 1) st tb'_37 o nr sm av ev F254 f251  hdc htb hsB hs3 (by omega) h269 h256 h270 (FrF.tr (FrF.tr FrF.rf k246 (by decide)) k257 (by decide)) h263 h264 h265 h266 h267 h268 h255 (Fr.tr (Fr.tr Fr.rf k247 (by decide)) k258 (by decide))
      · skip
        by_cases q2 : g (0 + 4) = 2
        · skip
          refine G_top (show zI (g (0 + 4)) = zI 2 from congrArg zI q2) ?_
          refine G_istore_n hX (lv' := [(1, .int (zI 2)), (0, .ref (eA E 61))]) rfl (by decide) rfl d_Mo_decode_37 ?_
          refine G_iload_n hX 0 rfl rfl d_Mo_decode_38 ?_
          refine G_if_eq_z hX (tgt := 64) d_Mo_decode_39 rfl (by omega) (fun c271 => by exfalso; omega) (fun c272 => ?_)
          refine G_iload_n hX 0 rfl rfl d_Mo_decode_42 ?_
          refine G_iconst hX d_Mo_decode_43 ?_
          refine G_icmp_eq_z hX (tgt := 64) d_Mo_decode_44 rfl (by omega) (fun c273 => ?_) (fun c274 => by exfalso; omega)
          refine G_iload_n hX 0 rfl rfl d_Mo_decode_64 ?_
          refine G_iconst hX d_Mo_decode_65 ?_
          refine G_icmp_ne_z hX (tgt := 83) d_Mo_decode_66 rfl (by omega) (fun c275 => by exfalso; omega) (fun c276 => ?_)
          refine G_aload_n hX 1 rfl rfl d_Mo_decode_69 ?_
          have h277 : F254 32 = .int (zI 0) := (k257 32 (by decide)).trans h249
          refine M_get hX fg_Mo_345 d_Mo_decode_70 h255 (by decide) h277 ?_
          refine G_if_ne_z hX (tgt := 83) d_Mo_decode_73 rfl (by omega) (fun c278 => by exfalso; omega) (fun c279 => ?_)
          have h280 : F254 30 = .int (zI 5) := h256.trans (congrArg (fun z => Value.int (zI z)) ((by omega)))
          refine G_aload_n hX 1 rfl rfl d_Mo_decode_76 ?_
          have h281 : F254 31 = .int (zI (sz 2)) := (k257 31 (by decide)).trans h248
          have h282 : F254 34 = .int (zI 1536) := (k257 34 (by decide)).trans ((k246 34 (by decide)).trans h28)
          have h283 : f251 81 = iz E 1536 ob'_26 := (k258 81 (by decide)).trans ((k247 81 (by decide)).trans h41)
          have h284 : f251 82 = iz E 1536 o := (k258 82 (by decide)).trans ((k247 82 (by decide)).trans ((k40 82 (by decide)).trans ((k32 82 (by decide)).trans ((k20 82 (by decide)).trans ((k14 82 (by decide)).trans ((k6 82 (by decide)).trans hc82))))))
          have h285 : f251 78 = iz E 8 nr := (k258 78 (by decide)).trans ((k247 78 (by decide)).trans ((k40 78 (by decide)).trans ((k32 78 (by decide)).trans ((k20 78 (by decide)).trans ((k14 78 (by decide)).trans ((k6 78 (by decide)).trans hc78))))))
          have h286 : f251 79 = iz E 1024 sm := (k258 79 (by decide)).trans ((k247 79 (by decide)).trans ((k40 79 (by decide)).trans ((k32 79 (by decide)).trans ((k20 79 (by decide)).trans ((k14 79 (by decide)).trans ((k6 79 (by decide)).trans hc79))))))
          have h287 : f251 83 = iz E 3 av := (k258 83 (by decide)).trans ((k247 83 (by decide)).trans ((k40 83 (by decide)).trans ((k32 83 (by decide)).trans ((k20 83 (by decide)).trans ((k14 83 (by decide)).trans ((k6 83 (by decide)).trans hc83))))))
          have h288 : f251 84 = iz E 3 ev := (k258 84 (by decide)).trans ((k247 84 (by decide)).trans ((k40 84 (by decide)).trans ((k32 84 (by decide)).trans ((k20 84 (by decide)).trans ((k14 84 (by decide)).trans ((k6 84 (by decide)).trans hc84))))))
          have h289 : f251 63 = iz E 1600 b := (k258 63 (by decide)).trans h250
          have h290 : f251 80 = iz E 1536 tb'_37 := (k258 80 (by decide)).trans ((k247 80 (by decide)).trans h38)
          refine F_callV hX (st := []) (c_Mo_readTable E f251 F254 (sz 2) st mT tb'_37 ob'_26 o nr sm av ev b g (sz 2) h255 (moK_fr hmk (FrF.tr (FrF.tr (FrF.tr (FrF.tr (FrF.tr (FrF.tr (FrF.rf (S := [30, 31, 32, 34])) k5 (by decide)) k13 (by decide)) k19 (by decide)) k29 (by decide)) k246 (by decide)) k257 (by decide)) (by decide)) h280 h281 h277 h282 h283 h284 h285 h286 h287 h288 h289 h290 (by omega) hob htb hsB hs3 hmT hG hgb) cm_Mo_readTable im_Mo_readTable se_Mo_readTable rfl ml_Mo_429 d_Mo_decode_77 (by decide) h255 rfl rfl (Nat.le_of_ble_eq_true rfl) (by decide) ?_
          rintro _ f291 ⟨F294, r'_295, pl'_296, st'_297, fl'_298, tb'_299, o'_300, nr'_301, sm'_302, av'_303, ev'_304, rfl, h305, h306, h307, h308, k309, h310, h311, h312, h313, h314, h315, p316, p317, p318, p319, k320⟩
          refine G_cast (st' := [.int (zI r'_295)]) ?_ rfl rfl rfl rfl
          have hd2 : dcF g (sz 2) st old (sz 0) mR mT = if tA g (sz 2) st mT = 0 then rdW g (tR g (sz 2) st mT).2.1 old (g (tN g (sz 2)).2) (g ((tN g (sz 2)).2 + 1)) (sz 0) 300 (sz 2) 700 (tE g (sz 2)) mR 0 else (tA g (sz 2) st mT, mR, 0) := by unfold dcF; rw [hrv, if_neg q0, if_pos q2]
          have hb2 := p318
          have hb3 := p319
          by_cases qf : fl'_298 = 0
          · skip
            have hta := p316.symm.trans qf
            have hgd := p317 qf
            rw [if_pos hta] at hd2
            have hcn : ¬ ((tN g (sz 2)).1 < 2 ∨ sz 2 - (tN g (sz 2)).2 < (tN g (sz 2)).1) := fun h9 => by unfold tA at hta; rw [if_pos h9] at hta; exact absurd hta (by decide)
            have hcm : ¬ (8 < g (tN g (sz 2)).2 ∨ 4 < g ((tN g (sz 2)).2 + 1) ∨ ¬ rbV g ((tN g (sz 2)).2 + 2) (tE g (sz 2)) = 0) := fun h9 => by unfold tA at hta; rw [if_neg hcn, if_pos h9] at hta; exact absurd hta (by decide)
            have hck : (tR g (sz 2) st mT).1 = 0 ∧ (tR g (sz 2) st mT).2.2 = 1536 ∧ tbB (tR g (sz 2) st mT).2.1 = true := by by_cases h9 : (tR g (sz 2) st mT).1 = 0 ∧ (tR g (sz 2) st mT).2.2 = 1536 ∧ tbB (tR g (sz 2) st mT).2.1 = true; exact h9; (exfalso; unfold tA at hta; rw [if_neg hcn, if_neg hcm, if_neg h9] at hta; exact absurd hta (by decide))
            have hn8 : g (tN g (sz 2)).2 ≤ 8 := by by_cases h9 : 8 < g (tN g (sz 2)).2; exact absurd (Or.inl h9) hcm; omega
            have hs4 : g ((tN g (sz 2)).2 + 1) ≤ 4 := by by_cases h9 : 4 < g ((tN g (sz 2)).2 + 1); exact absurd (Or.inr (Or.inl h9)) hcm; omega
            have hgn := hG (tN g (sz 2)).2
            have hgs := hG ((tN g (sz 2)).2 + 1)
            have hnb := numL_4 (g := g) (e := sz 2) (p := 5) hG (by omega)
            have hte : 0 ≤ tE g (sz 2) ∧ tE g (sz 2) ≤ sz 2 := by have h8 : tE g (sz 2) = (tN g (sz 2)).2 + (tN g (sz 2)).1 := rfl; have h7 : -1 ≤ (tN g (sz 2)).1 ∧ (tN g (sz 2)).1 < 268435456 ∧ 5 ≤ (tN g (sz 2)).2 ∧ (tN g (sz 2)).2 ≤ sz 2 := hnb; omega
            have hrm : r'_295 % 16 = g (tN g (sz 2)).2 ∧ r'_295 / 16 = g ((tN g (sz 2)).2 + 1) := by rw [hgd.1]; omega
            have hdc : dcF g (sz 2) st old (sz 0) mR mT = rdW g (tR g (sz 2) st mT).2.1 old (r'_295 % 16) (r'_295 / 16) (sz 0) 300 (sz 2) 700 (tE g (sz 2)) mR 0 := by rw [hrm.1, hrm.2]; exact hd2
            have h321 : F294 32 = .int (zI 0) := h308.trans (congrArg (fun z => Value.int (zI z)) (qf))
            have h322 : F294 30 = .int (zI (tE g (sz 2))) := h306.trans (congrArg (fun z => Value.int (zI z)) (hgd.2.1))
            have h323 : F294 31 = .int (zI (sz 2)) := h307.trans (congrArg (fun z => Value.int (zI z)) (hgd.2.2.1))
            refine G_goto hX (tgt := 85) d_Mo_decode_80 rfl ?_
            refine G_loc (lv' := [(0, .ref (eA E 61))]) [1] rfl ?_
            exact join115 r'_295 (tE g (sz 2)) ((tR g (sz 2) st mT).2.1) tb'_299 o'_300 nr'_301 sm'_302 av'_303 ev'_304 F294 f291  hdc hgd.2.2.2 (rdW_B hG hsB 700 _ mT 0 hmT) (tbB_t hck.2.2) ⟨hte, hb3.1, hb3.2, by rw [hrm.1]; exact hn8, by rw [hrm.2]; exact hs4⟩ h321 h322 h323 (FrF.tr (FrF.tr (FrF.tr FrF.rf k246 (by decide)) k257 (by decide)) k309 (by decide)) h315 h310 h311 h312 h313 h314 h305 (Fr.tr (Fr.tr (Fr.tr Fr.rf k247 (by decide)) k258 (by decide)) k320 (by decide))
          · skip
            have hta : ¬ tA g (sz 2) st mT = 0 := fun h9 => qf (p316.trans h9)
            rw [if_neg hta] at hd2
            have hdc : (dcF g (sz 2) st old (sz 0) mR mT).1 = fl'_298 := by rw [hd2]; exact p316.symm
            have htb2 : -10 ≤ fl'_298 ∧ fl'_298 ≤ 0 := by rw [p316]; unfold tA; split; decide; split; decide; split <;> decide
            refine G_goto hX (tgt := 85) d_Mo_decode_80 rfl ?_
            refine G_loc (lv' := [(0, .ref (eA E 61))]) [1] rfl ?_
            exact join47 fl'_298 r'_295 pl'_296 st'_297 tb'_299 o'_300 nr'_301 sm'_302 av'_303 ev'_304 F294 f291  ⟨qf, htb2.1, htb2.2⟩ hdc (by omega) h308 h306 h307 (FrF.tr (FrF.tr (FrF.tr FrF.rf k246 (by decide)) k257 (by decide)) k309 (by decide)) h315 h310 h311 h312 h313 h314 h305 (Fr.tr (Fr.tr (Fr.tr Fr.rf k247 (by decide)) k258 (by decide)) k320 (by decide))
        · skip
          by_cases qo : g (0 + 4) % 2 = 1
          · skip
            have hdc : (dcF g (sz 2) st old (sz 0) mR mT).1 = -3 := by unfold dcF; rw [hrv, if_neg q0, if_neg q2, if_pos ⟨by omega, by omega⟩]
            refine G_istore_n hX (lv' := [(1, .int (zI (g (0 + 4)))), (0, .ref (eA E 61))]) rfl (by decide) rfl d_Mo_decode_37 ?_
            refine G_iload_n hX 0 rfl rfl d_Mo_decode_38 ?_
            refine G_if_eq_z hX (tgt := 64) d_Mo_decode_39 rfl (by omega) (fun c324 => by exfalso; omega) (fun c325 => ?_)
            refine G_iload_n hX 0 rfl rfl d_Mo_decode_42 ?_
            refine G_iconst hX d_Mo_decode_43 ?_
            refine G_icmp_eq_z hX (tgt := 64) d_Mo_decode_44 rfl (by omega) (fun c326 => by exfalso; omega) (fun c327 => ?_)
            refine G_aload_n hX 1 rfl rfl d_Mo_decode_47 ?_
            refine G_iload_n hX 0 rfl rfl d_Mo_decode_48 ?_
            refine G_iconst hX d_Mo_decode_49 ?_
            refine G_iand hX d_Mo_decode_50 ?_
            refine G_top (show (zI (g (0 + 4)) &&& zI 1) = zI (g (0 + 4) % 2) from zI_and1 _) ?_
            refine G_if_le_z hX (tgt := 59) d_Mo_decode_51 rfl (by omega) (fun c328 => by exfalso; omega) (fun c329 => ?_)
            refine G_bipush hX (by decide) d_Mo_decode_54 ?_
            refine G_goto hX (tgt := 61) d_Mo_decode_56 rfl ?_
            have h330 : F254 32 = .int (zI 0) := (k257 32 (by decide)).trans h249
            refine F_callV hX (st := []) (c_Mo_refuse E f251 F254 (-3) h255 (moK_fr hmk (FrF.tr (FrF.tr (FrF.tr (FrF.tr (FrF.tr (FrF.tr (FrF.rf (S := [30, 31, 32, 34])) k5 (by decide)) k13 (by decide)) k19 (by decide)) k29 (by decide)) k246 (by decide)) k257 (by decide)) (by decide)) h330) cm_Mo_refuse im_Mo_refuse se_Mo_refuse rfl ml_Mo_354 d_Mo_decode_61 (by decide) h255 rfl rfl (Nat.le_of_ble_eq_true rfl) (by decide) ?_
            rintro _ f331 ⟨rfl, F334, h335, h336, k337, k338⟩
            refine G_cast (st' := []) ?_ rfl rfl rfl rfl
            refine G_iload_n hX 0 rfl rfl d_Mo_decode_64 ?_
            refine G_iconst hX d_Mo_decode_65 ?_
            refine G_icmp_ne_z hX (tgt := 83) d_Mo_decode_66 rfl (by omega) (fun c339 => ?_) (fun c340 => by exfalso; omega)
            refine G_bipush hX (by decide) d_Mo_decode_83 ?_
            have h341 : F334 30 = .int (zI ((0 + 4) + 1)) := (k337 30 (by decide)).trans h256
            have h342 : F334 31 = .int (zI (sz 2)) := (k337 31 (by decide)).trans ((k257 31 (by decide)).trans h248)
            have h343 : f331 80 = iz E 1536 tb'_37 := (k338 80 (by decide)).trans ((k258 80 (by decide)).trans ((k247 80 (by decide)).trans h38))
            have h344 : f331 82 = iz E 1536 o := (k338 82 (by decide)).trans ((k258 82 (by decide)).trans ((k247 82 (by decide)).trans ((k40 82 (by decide)).trans ((k32 82 (by decide)).trans ((k20 82 (by decide)).trans ((k14 82 (by decide)).trans ((k6 82 (by decide)).trans hc82)))))))
            have h345 : f331 78 = iz E 8 nr := (k338 78 (by decide)).trans ((k258 78 (by decide)).trans ((k247 78 (by decide)).trans ((k40 78 (by decide)).trans ((k32 78 (by decide)).trans ((k20 78 (by decide)).trans ((k14 78 (by decide)).trans ((k6 78 (by decide)).trans hc78)))))))
            have h346 : f331 79 = iz E 1024 sm := (k338 79 (by decide)).trans ((k258 79 (by decide)).trans ((k247 79 (by decide)).trans ((k40 79 (by decide)).trans ((k32 79 (by decide)).trans ((k20 79 (by decide)).trans ((k14 79 (by decide)).trans ((k6 79 (by decide)).trans hc79)))))))
            have h347 : f331 83 = iz E 3 av := (k338 83 (by decide)).trans ((k258 83 (by decide)).trans ((k247 83 (by decide)).trans ((k40 83 (by decide)).trans ((k32 83 (by decide)).trans ((k20 83 (by decide)).trans ((k14 83 (by decide)).trans ((k6 83 (by decide)).trans hc83)))))))
            have h348 : f331 84 = iz E 3 ev := (k338 84 (by decide)).trans ((k258 84 (by decide)).trans ((k247 84 (by decide)).trans ((k40 84 (by decide)).trans ((k32 84 (by decide)).trans ((k20 84 (by decide)).trans ((k14 84 (by decide)).trans ((k6 84 (by decide)).trans hc84)))))))
            refine G_loc (lv' := [(0, .ref (eA E 61))]) [1] rfl ?_
            exact join47 (-3) 52 ((0 + 4) + 1) (sz 2) tb'_37 o nr sm av ev F334 f331  (by decide) hdc (by omega) h336 h341 h342 (FrF.tr (FrF.tr (FrF.tr FrF.rf k246 (by decide)) k257 (by decide)) k337 (by decide)) h343 h344 h345 h346 h347 h348 h335 (Fr.tr (Fr.tr (Fr.tr Fr.rf k247 (by decide)) k258 (by decide)) k338 (by decide))
          · skip
            have hdc : (dcF g (sz 2) st old (sz 0) mR mT).1 = -2 := by unfold dcF; rw [hrv, if_neg q0, if_neg q2, if_neg (by omega)]
            refine G_istore_n hX (lv' := [(1, .int (zI (g (0 + 4)))), (0, .ref (eA E 61))]) rfl (by decide) rfl d_Mo_decode_37 ?_
            refine G_iload_n hX 0 rfl rfl d_Mo_decode_38 ?_
            refine G_if_eq_z hX (tgt := 64) d_Mo_decode_39 rfl (by omega) (fun c349 => by exfalso; omega) (fun c350 => ?_)
            refine G_iload_n hX 0 rfl rfl d_Mo_decode_42 ?_
            refine G_iconst hX d_Mo_decode_43 ?_
            refine G_icmp_eq_z hX (tgt := 64) d_Mo_decode_44 rfl (by omega) (fun c351 => by exfalso; omega) (fun c352 => ?_)
            refine G_aload_n hX 1 rfl rfl d_Mo_decode_47 ?_
            refine G_iload_n hX 0 rfl rfl d_Mo_decode_48 ?_
            refine G_iconst hX d_Mo_decode_49 ?_
            refine G_iand hX d_Mo_decode_50 ?_
            refine G_top (show (zI (g (0 + 4)) &&& zI 1) = zI (g (0 + 4) % 2) from zI_and1 _) ?_
            refine G_if_le_z hX (tgt := 59) d_Mo_decode_51 rfl (by omega) (fun c353 => ?_) (fun c354 => by exfalso; omega)
            refine G_bipush hX (by decide) d_Mo_decode_59 ?_
            have h355 : F254 32 = .int (zI 0) := (k257 32 (by decide)).trans h249
            refine F_callV hX (st := []) (c_Mo_refuse E f251 F254 (-2) h255 (moK_fr hmk (FrF.tr (FrF.tr (FrF.tr (FrF.tr (FrF.tr (FrF.tr (FrF.rf (S := [30, 31, 32, 34])) k5 (by decide)) k13 (by decide)) k19 (by decide)) k29 (by decide)) k246 (by decide)) k257 (by decide)) (by decide)) h355) cm_Mo_refuse im_Mo_refuse se_Mo_refuse rfl ml_Mo_354 d_Mo_decode_61 (by decide) h255 rfl rfl (Nat.le_of_ble_eq_true rfl) (by decide) ?_
            rintro _ f356 ⟨rfl, F359, h360, h361, k362, k363⟩
            refine G_cast (st' := []) ?_ rfl rfl rfl rfl
            refine G_iload_n hX 0 rfl rfl d_Mo_decode_64 ?_
            refine G_iconst hX d_Mo_decode_65 ?_
            refine G_icmp_ne_z hX (tgt := 83) d_Mo_decode_66 rfl (by omega) (fun c364 => ?_) (fun c365 => by exfalso; omega)
            refine G_bipush hX (by decide) d_Mo_decode_83 ?_
            have h366 : F359 30 = .int (zI ((0 + 4) + 1)) := (k362 30 (by decide)).trans h256
            have h367 : F359 31 = .int (zI (sz 2)) := (k362 31 (by decide)).trans ((k257 31 (by decide)).trans h248)
            have h368 : f356 80 = iz E 1536 tb'_37 := (k363 80 (by decide)).trans ((k258 80 (by decide)).trans ((k247 80 (by decide)).trans h38))
            have h369 : f356 82 = iz E 1536 o := (k363 82 (by decide)).trans ((k258 82 (by decide)).trans ((k247 82 (by decide)).trans ((k40 82 (by decide)).trans ((k32 82 (by decide)).trans ((k20 82 (by decide)).trans ((k14 82 (by decide)).trans ((k6 82 (by decide)).trans hc82)))))))
            have h370 : f356 78 = iz E 8 nr := (k363 78 (by decide)).trans ((k258 78 (by decide)).trans ((k247 78 (by decide)).trans ((k40 78 (by decide)).trans ((k32 78 (by decide)).trans ((k20 78 (by decide)).trans ((k14 78 (by decide)).trans ((k6 78 (by decide)).trans hc78)))))))
            have h371 : f356 79 = iz E 1024 sm := (k363 79 (by decide)).trans ((k258 79 (by decide)).trans ((k247 79 (by decide)).trans ((k40 79 (by decide)).trans ((k32 79 (by decide)).trans ((k20 79 (by decide)).trans ((k14 79 (by decide)).trans ((k6 79 (by decide)).trans hc79)))))))
            have h372 : f356 83 = iz E 3 av := (k363 83 (by decide)).trans ((k258 83 (by decide)).trans ((k247 83 (by decide)).trans ((k40 83 (by decide)).trans ((k32 83 (by decide)).trans ((k20 83 (by decide)).trans ((k14 83 (by decide)).trans ((k6 83 (by decide)).trans hc83)))))))
            have h373 : f356 84 = iz E 3 ev := (k363 84 (by decide)).trans ((k258 84 (by decide)).trans ((k247 84 (by decide)).trans ((k40 84 (by decide)).trans ((k32 84 (by decide)).trans ((k20 84 (by decide)).trans ((k14 84 (by decide)).trans ((k6 84 (by decide)).trans hc84)))))))
            refine G_loc (lv' := [(0, .ref (eA E 61))]) [1] rfl ?_
            exact join47 (-2) 52 ((0 + 4) + 1) (sz 2) tb'_37 o nr sm av ev F359 f356  (by decide) hdc (by omega) h361 h366 h367 (FrF.tr (FrF.tr (FrF.tr FrF.rf k246 (by decide)) k257 (by decide)) k362 (by decide)) h368 h369 h370 h371 h372 h373 h360 (Fr.tr (Fr.tr (Fr.tr Fr.rf k247 (by decide)) k258 (by decide)) k363 (by decide))
    · skip
      have hrv : rbV g 0 (sz 2) = -1 := (rb_y qh).trans (if_neg q4)
      have hdc : (dcF g (sz 2) st old (sz 0) mR mT).1 = -2 := by unfold dcF; rw [hrv, if_neg (by decide), if_neg (by decide), if_neg (by decide)]
      refine G_aload_n hX 0 rfl rfl d_Mo_decode_33 ?_
      have h374 : F243 31 = .int (zI (sz 2)) := (k246 31 (by decide)).trans h237
      have h375 : F243 32 = .int (zI 0) := (k246 32 (by decide)).trans h238
      refine F_callV hX (st := []) (c_Mo_readByte_no E f240 F243 (0 + 4) (sz 2) h244 (moK_fr hmk (FrF.tr (FrF.tr (FrF.tr (FrF.tr (FrF.tr (FrF.rf (S := [30, 31, 32, 34])) k5 (by decide)) k13 (by decide)) k19 (by decide)) k29 (by decide)) k246 (by decide)) (by decide)) h245 h374 h375 (by omega)) cm_Mo_readByte im_Mo_readByte se_Mo_readByte rfl ml_Mo_357 d_Mo_decode_34 (by decide) h244 rfl rfl (Nat.le_of_ble_eq_true rfl) (by decide) ?_
      rintro _ f376 ⟨rfl, F379, h380, h381, k382, k383⟩
      refine G_cast (st' := [.int (zI 0)]) ?_ rfl rfl rfl rfl
      refine G_istore_n hX (lv' := [(1, .int (zI 0)), (0, .ref (eA E 61))]) rfl (by decide) rfl d_Mo_decode_37 ?_
      refine G_iload_n hX 0 rfl rfl d_Mo_decode_38 ?_
      refine G_if_eq_z hX (tgt := 64) d_Mo_decode_39 rfl (by omega) (fun c384 => ?_) (fun c385 => by exfalso; omega)
      refine G_iload_n hX 0 rfl rfl d_Mo_decode_64 ?_
      refine G_iconst hX d_Mo_decode_65 ?_
      refine G_icmp_ne_z hX (tgt := 83) d_Mo_decode_66 rfl (by omega) (fun c386 => ?_) (fun c387 => by exfalso; omega)
      refine G_bipush hX (by decide) d_Mo_decode_83 ?_
      have h388 : F379 30 = .int (zI (0 + 4)) := (k382 30 (by decide)).trans h245
      have h389 : F379 31 = .int (zI (sz 2)) := (k382 31 (by decide)).trans h374
      have h390 : f376 80 = iz E 1536 tb'_37 := (k383 80 (by decide)).trans ((k247 80 (by decide)).trans h38)
      have h391 : f376 82 = iz E 1536 o := (k383 82 (by decide)).trans ((k247 82 (by decide)).trans ((k40 82 (by decide)).trans ((k32 82 (by decide)).trans ((k20 82 (by decide)).trans ((k14 82 (by decide)).trans ((k6 82 (by decide)).trans hc82))))))
      have h392 : f376 78 = iz E 8 nr := (k383 78 (by decide)).trans ((k247 78 (by decide)).trans ((k40 78 (by decide)).trans ((k32 78 (by decide)).trans ((k20 78 (by decide)).trans ((k14 78 (by decide)).trans ((k6 78 (by decide)).trans hc78))))))
      have h393 : f376 79 = iz E 1024 sm := (k383 79 (by decide)).trans ((k247 79 (by decide)).trans ((k40 79 (by decide)).trans ((k32 79 (by decide)).trans ((k20 79 (by decide)).trans ((k14 79 (by decide)).trans ((k6 79 (by decide)).trans hc79))))))
      have h394 : f376 83 = iz E 3 av := (k383 83 (by decide)).trans ((k247 83 (by decide)).trans ((k40 83 (by decide)).trans ((k32 83 (by decide)).trans ((k20 83 (by decide)).trans ((k14 83 (by decide)).trans ((k6 83 (by decide)).trans hc83))))))
      have h395 : f376 84 = iz E 3 ev := (k383 84 (by decide)).trans ((k247 84 (by decide)).trans ((k40 84 (by decide)).trans ((k32 84 (by decide)).trans ((k20 84 (by decide)).trans ((k14 84 (by decide)).trans ((k6 84 (by decide)).trans hc84))))))
      refine G_loc (lv' := [(0, .ref (eA E 61))]) [1] rfl ?_
      exact join47 (-2) 52 (0 + 4) (sz 2) tb'_37 o nr sm av ev F379 f376  (by decide) hdc (by omega) h381 h388 h389 (FrF.tr (FrF.tr FrF.rf k246 (by decide)) k382 (by decide)) h390 h391 h392 h393 h394 h395 h380 (Fr.tr (Fr.tr Fr.rf k247 (by decide)) k383 (by decide))
  · skip
    have hrv : rbV g 0 (sz 2) = -1 := rb_n qh
    have hdc : (dcF g (sz 2) st old (sz 0) mR mT).1 = -2 := by unfold dcF; rw [hrv, if_neg (by decide), if_neg (by decide), if_neg (by decide)]
    refine G_aload_n hX 0 rfl rfl d_Mo_decode_29 ?_
    have h396 : f34 61 = mob F25 := (k40 61 (by decide)).trans h27
    have h397 : F25 30 = .int (zI 0) := (k29 30 (by decide)).trans ((k19 30 (by decide)).trans ((k13 30 (by decide)).trans h4))
    have h398 : F25 31 = .int (zI (sz 2)) := (k29 31 (by decide)).trans ((k19 31 (by decide)).trans h12)
    have h399 : F25 32 = .int (zI 0) := (k29 32 (by decide)).trans h18
    have h400 : f34 63 = iz E 1600 b := (k40 63 (by decide)).trans ((k32 63 (by decide)).trans ((k20 63 (by decide)).trans ((k14 63 (by decide)).trans ((k6 63 (by decide)).trans hc63))))
    refine F_callV hX (st := []) (c_Mo_readHead_no E f34 F25 0 (sz 2) b g (sz 2) h396 (moK_fr hmk (FrF.tr (FrF.tr (FrF.tr (FrF.tr (FrF.rf (S := [30, 31, 32, 34])) k5 (by decide)) k13 (by decide)) k19 (by decide)) k29 (by decide)) (by decide)) h397 h398 h399 h400 hG hgb (by omega) qh) cm_Mo_readHead im_Mo_readHead se_Mo_readHead rfl ml_Mo_416 d_Mo_decode_30 (by decide) h396 rfl rfl (Nat.le_of_ble_eq_true rfl) (by decide) ?_
    rintro _ f401 ⟨rfl, F404, p'_405, h406, h407, h408, k409, p410, k411⟩
    refine G_cast (st' := []) ?_ rfl rfl rfl rfl
    refine G_aload_n hX 0 rfl rfl d_Mo_decode_33 ?_
    refine F_callV hX (st := []) (c_Mo_readByte_f E f401 F404 (-2) h406 (moK_fr hmk (FrF.tr (FrF.tr (FrF.tr (FrF.tr (FrF.tr (FrF.rf (S := [30, 31, 32, 34])) k5 (by decide)) k13 (by decide)) k19 (by decide)) k29 (by decide)) k409 (by decide)) (by decide)) h408 (by omega)) cm_Mo_readByte im_Mo_readByte se_Mo_readByte rfl ml_Mo_357 d_Mo_decode_34 (by decide) h406 rfl rfl (Nat.le_of_ble_eq_true rfl) (by decide) ?_
    rintro _ f412 ⟨rfl, F415, h416, h417, k418, k419⟩
    refine G_cast (st' := [.int (zI 0)]) ?_ rfl rfl rfl rfl
    refine G_istore_n hX (lv' := [(1, .int (zI 0)), (0, .ref (eA E 61))]) rfl (by decide) rfl d_Mo_decode_37 ?_
    refine G_iload_n hX 0 rfl rfl d_Mo_decode_38 ?_
    refine G_if_eq_z hX (tgt := 64) d_Mo_decode_39 rfl (by omega) (fun c420 => ?_) (fun c421 => by exfalso; omega)
    refine G_iload_n hX 0 rfl rfl d_Mo_decode_64 ?_
    refine G_iconst hX d_Mo_decode_65 ?_
    refine G_icmp_ne_z hX (tgt := 83) d_Mo_decode_66 rfl (by omega) (fun c422 => ?_) (fun c423 => by exfalso; omega)
    refine G_bipush hX (by decide) d_Mo_decode_83 ?_
    have h424 : F415 30 = .int (zI p'_405) := (k418 30 (by decide)).trans h407
    have h425 : F415 31 = .int (zI (sz 2)) := (k418 31 (by decide)).trans ((k409 31 (by decide)).trans h398)
    have h426 : f412 80 = iz E 1536 tb'_37 := (k419 80 (by decide)).trans ((k411 80 (by decide)).trans h38)
    have h427 : f412 82 = iz E 1536 o := (k419 82 (by decide)).trans ((k411 82 (by decide)).trans ((k40 82 (by decide)).trans ((k32 82 (by decide)).trans ((k20 82 (by decide)).trans ((k14 82 (by decide)).trans ((k6 82 (by decide)).trans hc82))))))
    have h428 : f412 78 = iz E 8 nr := (k419 78 (by decide)).trans ((k411 78 (by decide)).trans ((k40 78 (by decide)).trans ((k32 78 (by decide)).trans ((k20 78 (by decide)).trans ((k14 78 (by decide)).trans ((k6 78 (by decide)).trans hc78))))))
    have h429 : f412 79 = iz E 1024 sm := (k419 79 (by decide)).trans ((k411 79 (by decide)).trans ((k40 79 (by decide)).trans ((k32 79 (by decide)).trans ((k20 79 (by decide)).trans ((k14 79 (by decide)).trans ((k6 79 (by decide)).trans hc79))))))
    have h430 : f412 83 = iz E 3 av := (k419 83 (by decide)).trans ((k411 83 (by decide)).trans ((k40 83 (by decide)).trans ((k32 83 (by decide)).trans ((k20 83 (by decide)).trans ((k14 83 (by decide)).trans ((k6 83 (by decide)).trans hc83))))))
    have h431 : f412 84 = iz E 3 ev := (k419 84 (by decide)).trans ((k411 84 (by decide)).trans ((k40 84 (by decide)).trans ((k32 84 (by decide)).trans ((k20 84 (by decide)).trans ((k14 84 (by decide)).trans ((k6 84 (by decide)).trans hc84))))))
    refine G_loc (lv' := [(0, .ref (eA E 61))]) [1] rfl ?_
    exact join47 (-2) 52 p'_405 (sz 2) tb'_37 o nr sm av ev F415 f412  (by decide) hdc (by omega) h417 h424 h425 (FrF.tr (FrF.tr FrF.rf k409 (by decide)) k418 (by decide)) h426 h427 h428 h429 h430 h431 h416 (Fr.tr (Fr.tr Fr.rf k411 (by decide)) k419 (by decide))
theorem c_Mo_begin (E : EV) (f : Nat → va_E) (F : Nat → Value) (a : Int) (d : Int) (hMo : f 61 = mob F) (hmk : moK E F) (hk : (4 ≤ a ∧ a ≤ 64) ∧ 16 ≤ d ∧ d ≤ 256) : CF yn_Mo_begin cd_Mo_begin 3 (some (.boolean)) 0 E [.ref (eA E 61), .int (zI a), .int (zI d)] f (fun r f' => r = some (.int (zI 1)) ∧ ∃ (F' : Nat → Value), f' 61 = mob F' ∧ F' 47 = .int (zI a) ∧ F' 48 = .int (zI d) ∧ F' 46 = .int (zI 0) ∧ FrF [46, 47, 48] F F' ∧ Fr [61] f f') := by
  refine CF.of (by decide +kernel) (Nat.le_of_ble_eq_true rfl) fun X hX hE => ?_
  have hX : Ok E X "DeltaFerryModel" "begin" cd_Mo_begin 3 (some (.boolean)) (rl 0) := hX
  refine G_cast (lv' := [(0, .ref (eA E 61)), (1, .int (zI a)), (2, .int (zI d))]) ?_ rfl rfl rfl rfl
  refine G_iload_n hX 1 rfl rfl d_Mo_begin_0 ?_
  refine G_iconst hX d_Mo_begin_1 ?_
  refine G_icmp_lt_z hX (tgt := 24) d_Mo_begin_2 rfl (by omega) (fun c1 => by exfalso; omega) (fun c2 => ?_)
  refine G_iload_n hX 1 rfl rfl d_Mo_begin_5 ?_
  refine G_bipush hX (by decide) d_Mo_begin_6 ?_
  refine G_icmp_gt_z hX (tgt := 24) d_Mo_begin_8 rfl (by omega) (fun c3 => by exfalso; omega) (fun c4 => ?_)
  refine G_iload_n hX 2 rfl rfl d_Mo_begin_11 ?_
  refine G_bipush hX (by decide) d_Mo_begin_12 ?_
  refine G_icmp_lt_z hX (tgt := 24) d_Mo_begin_14 rfl (by omega) (fun c5 => by exfalso; omega) (fun c6 => ?_)
  refine G_iload_n hX 2 rfl rfl d_Mo_begin_17 ?_
  refine G_sipush hX (by decide) d_Mo_begin_18 ?_
  refine G_icmp_le_z hX (tgt := 26) d_Mo_begin_21 rfl (by omega) (fun c7 => ?_) (fun c8 => by exfalso; omega)
  refine G_aload_n hX 0 rfl rfl d_Mo_begin_26 ?_
  refine G_iload_n hX 1 rfl rfl d_Mo_begin_27 ?_
  refine M_put hX fg_Mo_151 fp_Mo_47 d_Mo_begin_28 hMo rfl rfl (by decide) (fun f9 F10 h11 h12 k13 k14 => ?_)
  refine G_aload_n hX 0 rfl rfl d_Mo_begin_31 ?_
  refine G_iload_n hX 2 rfl rfl d_Mo_begin_32 ?_
  refine M_put hX fg_Mo_154 fp_Mo_48 d_Mo_begin_33 h11 rfl rfl (by decide) (fun f15 F16 h17 h18 k19 k20 => ?_)
  refine G_aload_n hX 0 rfl rfl d_Mo_begin_36 ?_
  refine G_iconst hX d_Mo_begin_37 ?_
  refine M_put hX fg_Mo_432 fp_Mo_46 d_Mo_begin_38 h17 rfl rfl (by decide) (fun f21 F22 h23 h24 k25 k26 => ?_)
  refine G_iconst hX d_Mo_begin_41 ?_
  have h27 : F22 47 = .int (zI a) := (k25 47 (by decide)).trans ((k19 47 (by decide)).trans h12)
  have h28 : F22 48 = .int (zI d) := (k25 48 (by decide)).trans h18
  exact F_zret hX hE (by decide) d_Mo_begin_42 ⟨rfl, F22, h23, h27, h28, h24, (FrF.tr (FrF.tr (FrF.tr FrF.rf k13 (by decide)) k19 (by decide)) k25 (by decide)), (Fr.tr (Fr.tr (Fr.tr Fr.rf k14 (by decide)) k20 (by decide)) k26 (by decide))⟩
theorem c_Mo_begin_no (E : EV) (f : Nat → va_E) (F : Nat → Value) (a : Int) (d : Int) (hMo : f 61 = mob F) (hmk : moK E F) (hk : ¬ ((4 ≤ a ∧ a ≤ 64) ∧ 16 ≤ d ∧ d ≤ 256)) (hk2 : -2147483648 ≤ a ∧ a < 2147483648 ∧ -2147483648 ≤ d ∧ d < 2147483648) : CF yn_Mo_begin cd_Mo_begin 3 (some (.boolean)) 0 E [.ref (eA E 61), .int (zI a), .int (zI d)] f (fun r f' => r = some (.int (zI 0)) ∧ f' = f) := by
  refine CF.of (by decide +kernel) (Nat.le_of_ble_eq_true rfl) fun X hX hE => ?_
  have hX : Ok E X "DeltaFerryModel" "begin" cd_Mo_begin 3 (some (.boolean)) (rl 0) := hX
  refine G_cast (lv' := [(0, .ref (eA E 61)), (1, .int (zI a)), (2, .int (zI d))]) ?_ rfl rfl rfl rfl
  refine G_iload_n hX 1 rfl rfl d_Mo_begin_0 ?_
  refine G_iconst hX d_Mo_begin_1 ?_
  refine G_icmp_lt_z hX (tgt := 24) d_Mo_begin_2 rfl (by omega) (fun c1 => ?_) (fun c2 => ?_)
  · skip
    refine G_iconst hX d_Mo_begin_24 ?_
    exact F_zret hX hE (by decide) d_Mo_begin_25 ⟨rfl, rfl⟩
  · skip
    refine G_iload_n hX 1 rfl rfl d_Mo_begin_5 ?_
    refine G_bipush hX (by decide) d_Mo_begin_6 ?_
    refine G_icmp_gt_z hX (tgt := 24) d_Mo_begin_8 rfl (by omega) (fun c3 => ?_) (fun c4 => ?_)
    · skip
      refine G_iconst hX d_Mo_begin_24 ?_
      exact F_zret hX hE (by decide) d_Mo_begin_25 ⟨rfl, rfl⟩
    · skip
      refine G_iload_n hX 2 rfl rfl d_Mo_begin_11 ?_
      refine G_bipush hX (by decide) d_Mo_begin_12 ?_
      refine G_icmp_lt_z hX (tgt := 24) d_Mo_begin_14 rfl (by omega) (fun c5 => ?_) (fun c6 => ?_)
      · skip
        refine G_iconst hX d_Mo_begin_24 ?_
        exact F_zret hX hE (by decide) d_Mo_begin_25 ⟨rfl, rfl⟩
      · skip
        refine G_iload_n hX 2 rfl rfl d_Mo_begin_17 ?_
        refine G_sipush hX (by decide) d_Mo_begin_18 ?_
        refine G_icmp_le_z hX (tgt := 26) d_Mo_begin_21 rfl (by omega) (fun c7 => ?_) (fun c8 => ?_)
        · skip
          exfalso; omega
        · skip
          refine G_iconst hX d_Mo_begin_24 ?_
          exact F_zret hX hE (by decide) d_Mo_begin_25 ⟨rfl, rfl⟩
