/-! DeltaFerryModel: readWindow; printed by wip/tools/m_mo15.py -/
theorem inS_B {K : WK} {g t old : Int → Int} {N S : Int} (hg : isB g) (ho : isB old) {en pd pc pa c : Int} {m nr sm : Int → Int} {T : Int} (hm : isB m) {r : WS} (h : inS K g t old N S en pd pc pa c m nr sm T = some r) : isB r.2.2.2.2.1 := by
  unfold inS at h
  split at h
  · injection h with h; rw [← h]; exact hm
  · split at h
    · cases h
    · split at h
      · split at h
        · cases h
        · injection h with h; rw [← h]; exact isB_cz hg hm
      · split at h
        · split at h
          · cases h
          · injection h with h; rw [← h]; exact isB_pz hm (fun _ => hg _)
        · split at h
          · injection h with h; rw [← h]; exact isB_cp ho _ _ _ _ hm
          · cases h
theorem hvS_B {K : WK} {g t old : Int → Int} {N S : Int} (hg : isB g) (ho : isB old) {b : Int} : ∀ (k : Nat) (h pd pc pa c : Int) (m nr sm : Int → Int) (T : Int), isB m → ∀ r : WS, hvS K g t old N S b k h pd pc pa c m nr sm T = some r → isB r.2.2.2.2.1 := by
  intro k
  induction k with
  | zero => intro h pd pc pa c m nr sm T hm r e; injection e with e; rw [← e]; exact hm
  | succ k ih =>
    intro h pd pc pa c m nr sm T hm r e
    unfold hvS at e
    split at e
    · cases e
    · rename_i e1
      exact ih _ _ _ _ _ _ _ _ _ (inS_B hg ho hm e1) _ e
theorem cdS_B {K : WK} {g t old : Int → Int} {N S : Int} (hg : isB g) (ho : isB old) : ∀ (k : Nat) (pd pc pa c : Int) (m nr sm : Int → Int) (T : Int), isB m → ∀ r : WS, cdS K g t old N S k pd pc pa c m nr sm T = some r → isB r.2.2.2.2.1 := by
  intro k
  induction k with
  | zero => intro pd pc pa c m nr sm T hm r e; injection e with e; rw [← e]; exact hm
  | succ k ih =>
    intro pd pc pa c m nr sm T hm r e
    unfold cdS at e
    split at e
    · split at e
      · cases e
      · rename_i e1
        exact ih _ _ _ _ _ _ _ _ (hvS_B hg ho _ _ _ _ _ _ _ _ _ _ hm _ e1) _ e
    · injection e with e; rw [← e]; exact hm
theorem mkM_B {K : WK} {g t old : Int → Int} {N S : Int} (hg : isB g) (ho : isB old) {m : Int → Int} (hm : isB m) : isB (mkM m (mkF K g t old N S m)) := by
  cases e : mkF K g t old N S m with
  | none => exact hm
  | some r => exact cdS_B hg ho _ _ _ _ _ _ _ _ _ hm r e
theorem mkE_0 {K : WK} {o : Option WS} (h : ¬ mkE0 K o = 0) : mkE K o = mkE0 K o := by
  rcases o with _ | ⟨pd, pc, pa, c, m, nr, sm, T⟩
  · rfl
  · rw [mkE_s, mkE0_s]
    rw [mkE0_s] at h
    by_cases q : c ≠ kT K + kZ K ∨ pd < kD K ∨ pa < kA K
    · rw [if_pos q, if_pos q]
    · rw [if_neg q] at h; exact absurd rfl h
theorem mkE_1 {K : WK} {o : Option WS} {m : Int → Int} (h : mkE0 K o = 0) : mkE K o = if kK K = 1 ∧ adV (mkM m o) (kT K) (kZ K) ≠ kV K then -6 else 0 := by
  rcases o with _ | ⟨pd, pc, pa, c, m1, nr, sm, T⟩
  · exact absurd h (show ¬ (-2 : Int) = 0 by decide)
  · rw [mkE_s, mkM_s]
    rw [mkE0_s] at h
    by_cases q : c ≠ kT K + kZ K ∨ pd < kD K ∨ pa < kA K
    · rw [if_pos q] at h; exact absurd h (by decide)
    · rw [if_neg q]
theorem mkE0_b (K : WK) (o : Option WS) : mkE0 K o = 0 ∨ mkE0 K o = -2 := by
  rcases o with _ | ⟨pd, pc, pa, c, m1, nr, sm, T⟩
  · exact Or.inr rfl
  · rw [mkE0_s]
    split
    · exact Or.inr rfl
    · exact Or.inl rfl
theorem wk_lt {g : Int → Int} {p e : Int} (h : p < e) : wk g p e = g p := nxV_lt h
theorem cvL_1 {g : Int → Int} {p v : Int} (k : Nat) : cvL g (k + 1) p v = cvL g k (p + 1) (256 * v + g p) := rfl
theorem c_Mo_readWindow (E : EV) (f : Nat → va_E) (F : Nat → Value) (N : Int) (S : Int) (p : Int) (e : Int) (mc : Int) (oc : Int) (nm : Int) (t : Int → Int) (tb : Int → Int) (ob : Int → Int) (o : Int → Int) (old : Int → Int) (m : Int → Int) (nr : Int → Int) (sm : Int → Int) (av : Int → Int) (ev : Int → Int) (b : Int → Int) (g : Int → Int) (sE : Int) (hMo : f 61 = mob F) (hmk : moK E F) (hF30 : F 30 = .int (zI p)) (hF31 : F 31 = .int (zI e)) (hF32 : F 32 = .int (zI 0)) (hF34 : F 34 = .int (zI oc)) (hF36 : F 36 = .int (zI mc)) (hF37 : F 37 = .int (zI nm)) (hc81 : f 81 = iz E 1536 ob) (hc82 : f 82 = iz E 1536 o) (hc78 : f 78 = iz E 8 nr) (hc79 : f 79 = iz E 1024 sm) (hc83 : f 83 = iz E 3 av) (hc84 : f 84 = iz E 3 ev) (hc63 : f 63 = iz E 1600 b) (hc80 : f 80 = iz E 1536 tb) (hp : 0 ≤ p ∧ p < e ∧ e ≤ sE ∧ sE ≤ 700) (hmc : 0 ≤ mc ∧ mc ≤ nm ∧ nm ≤ 1536 ∧ 0 ≤ oc ∧ oc ≤ 1536) (hN : 0 ≤ N ∧ N ≤ 8 ∧ 0 ≤ S ∧ S ≤ 4) (hold : agB ob old oc) (hout : agB o m mc) (hoB : isB old) (hm0 : isB m) (htb : ∀ i, 0 ≤ i → i < 1536 → tb i = t i) (htB : isB t) (ht3 : ∀ i, 0 ≤ i → i < 512 → t i ≤ 3) (hG : isB g) (hgb : ∀ i, 0 ≤ i → i < sE → b (600 + i) = g i) : CF yn_Mo_readWindow cd_Mo_readWindow 10 none 6 E [.ref (eA E 61), .int (zI N), .int (zI S)] f (fun r f' => r = none ∧ ∃ (F' : Nat → Value) (pl' : Int) (st' : Int) (fl' : Int) (md' : Int) (o' : Int → Int) (nr' : Int → Int) (sm' : Int → Int) (av' : Int → Int) (ev' : Int → Int), f' 61 = mob F' ∧ F' 30 = .int (zI pl') ∧ F' 31 = .int (zI st') ∧ F' 32 = .int (zI fl') ∧ F' 36 = .int (zI md') ∧ FrF [25, 26, 27, 30, 31, 32, 36, 39, 40, 41, 42, 43] F F' ∧ f' 82 = iz E 1536 o' ∧ f' 78 = iz E 8 nr' ∧ f' 79 = iz E 1024 sm' ∧ f' 83 = iz E 3 av' ∧ f' 84 = iz E 3 ev' ∧ (fl' = if ¬ hdA g p e mc oc nm = 0 then hdA g p e mc oc nm else mkE (hdK g p e mc) (mkF (hdK g p e mc) g t old N S m)) ∧ (fl' = 0 → pl' = wE g p e ∧ st' = e ∧ md' = mc + kZ (hdK g p e mc) ∧ agB o' (mkM m (mkF (hdK g p e mc) g t old N S m)) (mc + kZ (hdK g p e mc))) ∧ ((-1000000000 ≤ pl' ∧ pl' ≤ 1000000000) ∧ -1000000000 ≤ st' ∧ st' ≤ 1000000000) ∧ Fr [82, 78, 79, 83, 84, 61] f f') := by
  refine CF.of (by decide +kernel) (Nat.le_of_ble_eq_true rfl) fun X hX hE => ?_
  have hX : Ok E X "DeltaFerryModel" "readWindow" cd_Mo_readWindow 10 none (rl 6) := hX
  refine G_cast (lv' := [(0, .ref (eA E 61)), (1, .int (zI N)), (2, .int (zI S))]) ?_ rfl rfl rfl rfl
  have hwk := wk_lt (g := g) hp.2.1
  have hwb := hG p
  have hnx := nxP_lt hp.2.1
  have join6 : ∀ (fl : Int) (pp : Int) (ss : Int) (ev9 : Int → Int) (F1 : Nat → Value) (f7 : Nat → va_E), (fl ≠ 0 ∧ -10 ≤ fl ∧ fl ≤ 0) → ((if ¬ hdA g p e mc oc nm = 0 then hdA g p e mc oc nm else mkE (hdK g p e mc) (mkF (hdK g p e mc) g t old N S m)) = fl) → ((0 ≤ pp ∧ pp ≤ 700) ∧ -100000000 ≤ ss ∧ ss ≤ 500000000) → (F1 32 = .int (zI fl)) → (F1 30 = .int (zI pp)) → (F1 31 = .int (zI ss)) → (FrF [30, 31, 32, 39, 40, 41, 43] F F1) → f7 84 = iz E 3 ev9 → f7 61 = mob F1 → Fr [84, 61] f f7 → G E X 0 0 196 [(0, .ref (eA E 61))] [] (wl E f7) := by
    intro fl pp ss ev9 F1 f7 hfl hdd hps h2 h3 h4 k5 h9 h10 k8
    refine G_aload_n hX 0 rfl rfl d_Mo_readWindow_196 ?_
    refine M_get hX fg_Mo_345 d_Mo_readWindow_197 h10 (by decide) h2 ?_
    refine G_if_ne_z hX (tgt := 240) d_Mo_readWindow_200 rfl (by omega) (fun c11 => ?_) (fun c12 => by exfalso; omega)
    refine G_aload_n hX 0 rfl rfl d_Mo_readWindow_240 ?_
    refine G_bipush hX (by decide) d_Mo_readWindow_241 ?_
    refine F_callV hX (st := []) (c_Mo_refuse_f E f7 F1 (-2) fl h10 (moK_fr hmk (FrF.tr (FrF.rf (S := [30, 31, 32, 39, 40, 41, 43])) k5 (by decide)) (by decide)) h2 (by omega)) cm_Mo_refuse im_Mo_refuse se_Mo_refuse rfl ml_Mo_354 d_Mo_readWindow_243 (by decide) h10 rfl rfl (Nat.le_of_ble_eq_true rfl) (by decide) ?_
    rintro _ f13 ⟨rfl, F16, h17, h18, k19, k20⟩
    refine G_cast (st' := []) ?_ rfl rfl rfl rfl
    have h21 : F16 30 = .int (zI pp) := (k19 30 (by decide)).trans h3
    have h22 : F16 31 = .int (zI ss) := (k19 31 (by decide)).trans h4
    have h23 : F16 36 = .int (zI mc) := (k19 36 (by decide)).trans ((k5 36 (by decide)).trans hF36)
    have h24 : f13 82 = iz E 1536 o := (k20 82 (by decide)).trans ((k8 82 (by decide)).trans hc82)
    have h25 : f13 78 = iz E 8 nr := (k20 78 (by decide)).trans ((k8 78 (by decide)).trans hc78)
    have h26 : f13 79 = iz E 1024 sm := (k20 79 (by decide)).trans ((k8 79 (by decide)).trans hc79)
    have h27 : f13 83 = iz E 3 av := (k20 83 (by decide)).trans ((k8 83 (by decide)).trans hc83)
    have h28 : f13 84 = iz E 3 ev9 := (k20 84 (by decide)).trans h9
    exact F_vret hX hE d_Mo_readWindow_246 ⟨rfl, F16, _, _, _, _, _, _, _, _, _, h17, h21, h22, h18, h23, (FrF.tr (FrF.tr FrF.rf k5 (by decide)) k19 (by decide)), h24, h25, h26, h27, h28, hdd.symm, (fun q => absurd q hfl.1), (by omega), (Fr.tr (Fr.tr Fr.rf k8 (by decide)) k20 (by decide))⟩
  have join34 : ∀ (fl : Int) (pp : Int) (ss : Int) (kk : Int) (ev9 : Int → Int) (F29 : Nat → Value) (f35 : Nat → va_E), (fl ≠ 0 ∧ -10 ≤ fl ∧ fl ≤ 0) → ((if ¬ hdA g p e mc oc nm = 0 then hdA g p e mc oc nm else mkE (hdK g p e mc) (mkF (hdK g p e mc) g t old N S m)) = fl) → ((0 ≤ pp ∧ pp ≤ 700) ∧ -100000000 ≤ ss ∧ ss ≤ 500000000) → (0 ≤ kk ∧ kk < 256) → (F29 32 = .int (zI fl)) → (F29 30 = .int (zI pp)) → (F29 31 = .int (zI ss)) → (FrF [30, 31, 32, 39, 40, 41, 43] F F29) → f35 84 = iz E 3 ev9 → f35 61 = mob F29 → Fr [84, 61] f f35 → G E X 0 0 158 [(0, .ref (eA E 61)), (3, .int (zI kk))] [] (wl E f35) := by
    intro fl pp ss kk ev9 F29 f35 hfl hdd hps h_kk h30 h31 h32 k33 h37 h38 k36
    refine G_lconst hX (v := zL 0) (by decide) d_Mo_readWindow_158 ?_
    refine G_lstore hX (lv' := [(7, .long (zL 0)), (0, .ref (eA E 61)), (3, .int (zI kk))]) (by decide) rfl d_Mo_readWindow_159 ?_
    refine G_iconst hX d_Mo_readWindow_161 ?_
    refine G_istore hX (lv' := [(9, .int (zI 0)), (7, .long (zL 0)), (0, .ref (eA E 61)), (3, .int (zI kk))]) (by decide) rfl d_Mo_readWindow_162 ?_
    refine G_iload hX 0 rfl d_Mo_readWindow_164 ?_
    refine G_iconst hX d_Mo_readWindow_166 ?_
    refine G_icmp_ge_z hX (tgt := 196) d_Mo_readWindow_167 rfl (by omega) (fun c39 => by exfalso; omega) (fun c40 => ?_)
    refine G_iload_n hX 3 rfl rfl d_Mo_readWindow_170 ?_
    refine G_iconst hX d_Mo_readWindow_171 ?_
    refine G_iand hX d_Mo_readWindow_172 ?_
    refine G_top (show (zI kk &&& zI 4) = zI (kk / 4 % 2 * 4) from zI_a4 (by omega)) ?_
    refine G_if_le_z hX (tgt := 196) d_Mo_readWindow_173 rfl (by omega) (fun c41 => ?_) (fun c42 => ?_)
    · skip
      refine G_loc (lv' := [(0, .ref (eA E 61))]) [2] rfl ?_
      exact join6 fl pp ss ev9 F29 f35  hfl hdd (by omega) h30 h31 h32 (FrF.tr FrF.rf k33 (by decide)) h37 h38 (Fr.tr Fr.rf k36 (by decide))
    · skip
      refine G_ldc2 hX kn_Mo_180 d_Mo_readWindow_176 ?_
      refine G_topl (show (256 : Int64) = zL (256) from by decide) ?_
      refine G_lload hX 1 rfl d_Mo_readWindow_179 ?_
      refine G_lmul_z hX d_Mo_readWindow_181 ?_
      refine G_aload_n hX 2 rfl rfl d_Mo_readWindow_182 ?_
      refine F_callV hX (st := [.long (zL (256 * 0))]) (c_Mo_readByte_f E f35 F29 fl h38 (moK_fr hmk (FrF.tr (FrF.rf (S := [30, 31, 32, 39, 40, 41, 43])) k33 (by decide)) (by decide)) h30 (by omega)) cm_Mo_readByte im_Mo_readByte se_Mo_readByte rfl ml_Mo_357 d_Mo_readWindow_183 (by decide) h38 rfl rfl (Nat.le_of_ble_eq_true rfl) (by decide) ?_
      rintro _ f43 ⟨rfl, F46, h47, h48, k49, k50⟩
      refine G_cast (st' := [.int (zI 0), .long (zL (256 * 0))]) ?_ rfl rfl rfl rfl
      refine G_i2l hX (v := zL 0) (zI_l (by omega)) d_Mo_readWindow_186 ?_
      refine G_ladd_z hX d_Mo_readWindow_187 ?_
      refine G_lstore hX (lv' := [(7, .long (zL ((256 * 0) + 0))), (9, .int (zI 0)), (0, .ref (eA E 61)), (3, .int (zI kk))]) (by decide) rfl d_Mo_readWindow_188 ?_
      refine G_iinc_z hX (lv' := [(9, .int (zI (0 + 1))), (7, .long (zL ((256 * 0) + 0))), (0, .ref (eA E 61)), (3, .int (zI kk))]) 1 rfl (by decide) rfl d_Mo_readWindow_190 ?_
      refine G_goto hX (tgt := 164) d_Mo_readWindow_193 rfl ?_
      refine G_iload hX 0 rfl d_Mo_readWindow_164 ?_
      refine G_iconst hX d_Mo_readWindow_166 ?_
      refine G_icmp_ge_z hX (tgt := 196) d_Mo_readWindow_167 rfl (by omega) (fun c51 => by exfalso; omega) (fun c52 => ?_)
      refine G_iload_n hX 3 rfl rfl d_Mo_readWindow_170 ?_
      refine G_iconst hX d_Mo_readWindow_171 ?_
      refine G_iand hX d_Mo_readWindow_172 ?_
      refine G_top (show (zI kk &&& zI 4) = zI (kk / 4 % 2 * 4) from zI_a4 (by omega)) ?_
      refine G_if_le_z hX (tgt := 196) d_Mo_readWindow_173 rfl (by omega) (fun c53 => ?_) (fun c54 => ?_)
      · skip
        have h55 : F46 30 = .int (zI pp) := (k49 30 (by decide)).trans h31
        have h56 : F46 31 = .int (zI ss) := (k49 31 (by decide)).trans h32
        have h57 : f43 84 = iz E 3 ev9 := (k50 84 (by decide)).trans h37
        refine G_loc (lv' := [(0, .ref (eA E 61))]) [2] rfl ?_
        exact join6 fl pp ss ev9 F46 f43  hfl hdd (by omega) h48 h55 h56 (FrF.tr (FrF.tr FrF.rf k33 (by decide)) k49 (by decide)) h57 h47 (Fr.tr (Fr.tr Fr.rf k36 (by decide)) k50 (by decide))
      · skip
        refine G_ldc2 hX kn_Mo_180 d_Mo_readWindow_176 ?_
        refine G_topl (show (256 : Int64) = zL (256) from by decide) ?_
        refine G_lload hX 1 rfl d_Mo_readWindow_179 ?_
        refine G_lmul_z hX d_Mo_readWindow_181 ?_
        refine G_aload_n hX 2 rfl rfl d_Mo_readWindow_182 ?_
        refine F_callV hX (st := [.long (zL (256 * ((256 * 0) + 0)))]) (c_Mo_readByte_f E f43 F46 fl h47 (moK_fr hmk (FrF.tr (FrF.tr (FrF.rf (S := [30, 31, 32, 39, 40, 41, 43])) k33 (by decide)) k49 (by decide)) (by decide)) h48 (by omega)) cm_Mo_readByte im_Mo_readByte se_Mo_readByte rfl ml_Mo_357 d_Mo_readWindow_183 (by decide) h47 rfl rfl (Nat.le_of_ble_eq_true rfl) (by decide) ?_
        rintro _ f58 ⟨rfl, F61, h62, h63, k64, k65⟩
        refine G_cast (st' := [.int (zI 0), .long (zL (256 * ((256 * 0) + 0)))]) ?_ rfl rfl rfl rfl
        refine G_i2l hX (v := zL 0) (zI_l (by omega)) d_Mo_readWindow_186 ?_
        refine G_ladd_z hX d_Mo_readWindow_187 ?_
        refine G_lstore hX (lv' := [(7, .long (zL ((256 * ((256 * 0) + 0)) + 0))), (9, .int (zI (0 + 1))), (0, .ref (eA E 61)), (3, .int (zI kk))]) (by decide) rfl d_Mo_readWindow_188 ?_
        refine G_iinc_z hX (lv' := [(9, .int (zI ((0 + 1) + 1))), (7, .long (zL ((256 * ((256 * 0) + 0)) + 0))), (0, .ref (eA E 61)), (3, .int (zI kk))]) 1 rfl (by decide) rfl d_Mo_readWindow_190 ?_
        refine G_goto hX (tgt := 164) d_Mo_readWindow_193 rfl ?_
        refine G_iload hX 0 rfl d_Mo_readWindow_164 ?_
        refine G_iconst hX d_Mo_readWindow_166 ?_
        refine G_icmp_ge_z hX (tgt := 196) d_Mo_readWindow_167 rfl (by omega) (fun c66 => by exfalso; omega) (fun c67 => ?_)
        refine G_iload_n hX 3 rfl rfl d_Mo_readWindow_170 ?_
        refine G_iconst hX d_Mo_readWindow_171 ?_
        refine G_iand hX d_Mo_readWindow_172 ?_
        refine G_top (show (zI kk &&& zI 4) = zI (kk / 4 % 2 * 4) from zI_a4 (by omega)) ?_
        refine G_if_le_z hX (tgt := 196) d_Mo_readWindow_173 rfl (by omega) (fun c68 => ?_) (fun c69 => ?_)
        · skip
          have h70 : F61 30 = .int (zI pp) := (k64 30 (by decide)).trans ((k49 30 (by decide)).trans h31)
          have h71 : F61 31 = .int (zI ss) := (k64 31 (by decide)).trans ((k49 31 (by decide)).trans h32)
          have h72 : f58 84 = iz E 3 ev9 := (k65 84 (by decide)).trans ((k50 84 (by decide)).trans h37)
          refine G_loc (lv' := [(0, .ref (eA E 61))]) [2] rfl ?_
          exact join6 fl pp ss ev9 F61 f58  hfl hdd (by omega) h63 h70 h71 (FrF.tr (FrF.tr (FrF.tr FrF.rf k33 (by decide)) k49 (by decide)) k64 (by decide)) h72 h62 (Fr.tr (Fr.tr (Fr.tr Fr.rf k36 (by decide)) k50 (by decide)) k65 (by decide))
        · skip
          refine G_ldc2 hX kn_Mo_180 d_Mo_readWindow_176 ?_
          refine G_topl (show (256 : Int64) = zL (256) from by decide) ?_
          refine G_lload hX 1 rfl d_Mo_readWindow_179 ?_
          refine G_lmul_z hX d_Mo_readWindow_181 ?_
          refine G_aload_n hX 2 rfl rfl d_Mo_readWindow_182 ?_
          refine F_callV hX (st := [.long (zL (256 * ((256 * ((256 * 0) + 0)) + 0)))]) (c_Mo_readByte_f E f58 F61 fl h62 (moK_fr hmk (FrF.tr (FrF.tr (FrF.tr (FrF.rf (S := [30, 31, 32, 39, 40, 41, 43])) k33 (by decide)) k49 (by decide)) k64 (by decide)) (by decide)) h63 (by omega)) cm_Mo_readByte im_Mo_readByte se_Mo_readByte rfl ml_Mo_357 d_Mo_readWindow_183 (by decide) h62 rfl rfl (Nat.le_of_ble_eq_true rfl) (by decide) ?_
          rintro _ f73 ⟨rfl, F76, h77, h78, k79, k80⟩
          refine G_cast (st' := [.int (zI 0), .long (zL (256 * ((256 * ((256 * 0) + 0)) + 0)))]) ?_ rfl rfl rfl rfl
          refine G_i2l hX (v := zL 0) (zI_l (by omega)) d_Mo_readWindow_186 ?_
          refine G_ladd_z hX d_Mo_readWindow_187 ?_
          refine G_lstore hX (lv' := [(7, .long (zL ((256 * ((256 * ((256 * 0) + 0)) + 0)) + 0))), (9, .int (zI ((0 + 1) + 1))), (0, .ref (eA E 61)), (3, .int (zI kk))]) (by decide) rfl d_Mo_readWindow_188 ?_
          refine G_iinc_z hX (lv' := [(9, .int (zI (((0 + 1) + 1) + 1))), (7, .long (zL ((256 * ((256 * ((256 * 0) + 0)) + 0)) + 0))), (0, .ref (eA E 61)), (3, .int (zI kk))]) 1 rfl (by decide) rfl d_Mo_readWindow_190 ?_
          refine G_goto hX (tgt := 164) d_Mo_readWindow_193 rfl ?_
          refine G_iload hX 0 rfl d_Mo_readWindow_164 ?_
          refine G_iconst hX d_Mo_readWindow_166 ?_
          refine G_icmp_ge_z hX (tgt := 196) d_Mo_readWindow_167 rfl (by omega) (fun c81 => by exfalso; omega) (fun c82 => ?_)
          refine G_iload_n hX 3 rfl rfl d_Mo_readWindow_170 ?_
          refine G_iconst hX d_Mo_readWindow_171 ?_
          refine G_iand hX d_Mo_readWindow_172 ?_
          refine G_top (show (zI kk &&& zI 4) = zI (kk / 4 % 2 * 4) from zI_a4 (by omega)) ?_
          refine G_if_le_z hX (tgt := 196) d_Mo_readWindow_173 rfl (by omega) (fun c83 => ?_) (fun c84 => ?_)
          · skip
            have h85 : F76 30 = .int (zI pp) := (k79 30 (by decide)).trans ((k64 30 (by decide)).trans ((k49 30 (by decide)).trans h31))
            have h86 : F76 31 = .int (zI ss) := (k79 31 (by decide)).trans ((k64 31 (by decide)).trans ((k49 31 (by decide)).trans h32))
            have h87 : f73 84 = iz E 3 ev9 := (k80 84 (by decide)).trans ((k65 84 (by decide)).trans ((k50 84 (by decide)).trans h37))
            refine G_loc (lv' := [(0, .ref (eA E 61))]) [2] rfl ?_
            exact join6 fl pp ss ev9 F76 f73  hfl hdd (by omega) h78 h85 h86 (FrF.tr (FrF.tr (FrF.tr (FrF.tr FrF.rf k33 (by decide)) k49 (by decide)) k64 (by decide)) k79 (by decide)) h87 h77 (Fr.tr (Fr.tr (Fr.tr (Fr.tr Fr.rf k36 (by decide)) k50 (by decide)) k65 (by decide)) k80 (by decide))
          · skip
            refine G_ldc2 hX kn_Mo_180 d_Mo_readWindow_176 ?_
            refine G_topl (show (256 : Int64) = zL (256) from by decide) ?_
            refine G_lload hX 1 rfl d_Mo_readWindow_179 ?_
            refine G_lmul_z hX d_Mo_readWindow_181 ?_
            refine G_aload_n hX 2 rfl rfl d_Mo_readWindow_182 ?_
            refine F_callV hX (st := [.long (zL (256 * ((256 * ((256 * ((256 * 0) + 0)) + 0)) + 0)))]) (c_Mo_readByte_f E f73 F76 fl h77 (moK_fr hmk (FrF.tr (FrF.tr (FrF.tr (FrF.tr (FrF.rf (S := [30, 31, 32, 39, 40, 41, 43])) k33 (by decide)) k49 (by decide)) k64 (by decide)) k79 (by decide)) (by decide)) h78 (by omega)) cm_Mo_readByte im_Mo_readByte se_Mo_readByte rfl ml_Mo_357 d_Mo_readWindow_183 (by decide) h77 rfl rfl (Nat.le_of_ble_eq_true rfl) (by decide) ?_
            rintro _ f88 ⟨rfl, F91, h92, h93, k94, k95⟩
            refine G_cast (st' := [.int (zI 0), .long (zL (256 * ((256 * ((256 * ((256 * 0) + 0)) + 0)) + 0)))]) ?_ rfl rfl rfl rfl
            refine G_i2l hX (v := zL 0) (zI_l (by omega)) d_Mo_readWindow_186 ?_
            refine G_ladd_z hX d_Mo_readWindow_187 ?_
            refine G_lstore hX (lv' := [(7, .long (zL ((256 * ((256 * ((256 * ((256 * 0) + 0)) + 0)) + 0)) + 0))), (9, .int (zI (((0 + 1) + 1) + 1))), (0, .ref (eA E 61)), (3, .int (zI kk))]) (by decide) rfl d_Mo_readWindow_188 ?_
            refine G_iinc_z hX (lv' := [(9, .int (zI ((((0 + 1) + 1) + 1) + 1))), (7, .long (zL ((256 * ((256 * ((256 * ((256 * 0) + 0)) + 0)) + 0)) + 0))), (0, .ref (eA E 61)), (3, .int (zI kk))]) 1 rfl (by decide) rfl d_Mo_readWindow_190 ?_
            refine G_goto hX (tgt := 164) d_Mo_readWindow_193 rfl ?_
            refine G_iload hX 0 rfl d_Mo_readWindow_164 ?_
            refine G_iconst hX d_Mo_readWindow_166 ?_
            refine G_icmp_ge_z hX (tgt := 196) d_Mo_readWindow_167 rfl (by omega) (fun c96 => ?_) (fun c97 => by exfalso; omega)
            have h98 : F91 30 = .int (zI pp) := (k94 30 (by decide)).trans ((k79 30 (by decide)).trans ((k64 30 (by decide)).trans ((k49 30 (by decide)).trans h31)))
            have h99 : F91 31 = .int (zI ss) := (k94 31 (by decide)).trans ((k79 31 (by decide)).trans ((k64 31 (by decide)).trans ((k49 31 (by decide)).trans h32)))
            have h100 : f88 84 = iz E 3 ev9 := (k95 84 (by decide)).trans ((k80 84 (by decide)).trans ((k65 84 (by decide)).trans ((k50 84 (by decide)).trans h37)))
            refine G_loc (lv' := [(0, .ref (eA E 61))]) [2] rfl ?_
            exact join6 fl pp ss ev9 F91 f88  hfl hdd (by omega) h93 h98 h99 (FrF.tr (FrF.tr (FrF.tr (FrF.tr (FrF.tr FrF.rf k33 (by decide)) k49 (by decide)) k64 (by decide)) k79 (by decide)) k94 (by decide)) h100 h92 (Fr.tr (Fr.tr (Fr.tr (Fr.tr (Fr.tr Fr.rf k36 (by decide)) k50 (by decide)) k65 (by decide)) k80 (by decide)) k95 (by decide))
  have join106 : ∀ (fl : Int) (pp : Int) (ss : Int) (kk : Int) (F101 : Nat → Value) (f107 : Nat → va_E), (fl ≠ 0 ∧ -10 ≤ fl ∧ fl ≤ 0) → ((if ¬ hdA g p e mc oc nm = 0 then hdA g p e mc oc nm else mkE (hdK g p e mc) (mkF (hdK g p e mc) g t old N S m)) = fl) → ((0 ≤ pp ∧ pp ≤ 700) ∧ -100000000 ≤ ss ∧ ss ≤ 500000000) → (0 ≤ kk ∧ kk < 256) → (F101 32 = .int (zI fl)) → (F101 30 = .int (zI pp)) → (F101 31 = .int (zI ss)) → (FrF [30, 31, 32, 39, 40, 41, 43] F F101) → f107 61 = mob F101 → Fr [61] f f107 → G E X 0 0 132 [(0, .ref (eA E 61)), (3, .int (zI kk))] [] (wl E f107) := by
    intro fl pp ss kk F101 f107 hfl hdd hps h_kk h102 h103 h104 k105 h109 k108
    refine G_iconst hX d_Mo_readWindow_132 ?_
    refine G_istore hX (lv' := [(7, .int (zI 0)), (0, .ref (eA E 61)), (3, .int (zI kk))]) (by decide) rfl d_Mo_readWindow_133 ?_
    refine G_iload hX 0 rfl d_Mo_readWindow_135 ?_
    refine G_iconst hX d_Mo_readWindow_137 ?_
    refine G_icmp_ge_z hX (tgt := 158) d_Mo_readWindow_138 rfl (by omega) (fun c110 => by exfalso; omega) (fun c111 => ?_)
    refine G_aload_n hX 1 rfl rfl d_Mo_readWindow_141 ?_
    have h112 : F101 45 = .ref (eA E 84) := (k105 45 (by decide)).trans (hmk 45 84 (by decide))
    refine M_get hX fg_Mo_148 d_Mo_readWindow_142 h109 (by decide) h112 ?_
    refine G_iload hX 0 rfl d_Mo_readWindow_145 ?_
    refine G_aload_n hX 1 rfl rfl d_Mo_readWindow_147 ?_
    refine F_callV hX (st := [.int (zI 0), .ref (eA E 84)]) (c_Mo_readNumber_f E f107 F101 fl h109 (moK_fr hmk (FrF.tr (FrF.rf (S := [30, 31, 32, 39, 40, 41, 43])) k105 (by decide)) (by decide)) h102 (by omega)) cm_Mo_readNumber im_Mo_readNumber se_Mo_readNumber rfl ml_Mo_401 d_Mo_readWindow_148 (by decide) h109 rfl rfl (Nat.le_of_ble_eq_true rfl) (by decide) ?_
    rintro _ f113 ⟨rfl, e116⟩
    obtain rfl := e116.symm
    refine G_cast (st' := [.int (zI 0), .int (zI 0), .ref (eA E 84)]) ?_ rfl rfl rfl rfl
    have h117 : f107 84 = iz E 3 ev := (k108 84 (by decide)).trans hc84
    refine F_iast hX d_Mo_readWindow_151 84 (by decide) h117 (by omega) (fun f118 h119 k120 => ?_)
    refine G_iinc_z hX (lv' := [(7, .int (zI (0 + 1))), (0, .ref (eA E 61)), (3, .int (zI kk))]) 0 rfl (by decide) rfl d_Mo_readWindow_152 ?_
    refine G_goto hX (tgt := 135) d_Mo_readWindow_155 rfl ?_
    refine G_iload hX 0 rfl d_Mo_readWindow_135 ?_
    refine G_iconst hX d_Mo_readWindow_137 ?_
    refine G_icmp_ge_z hX (tgt := 158) d_Mo_readWindow_138 rfl (by omega) (fun c121 => by exfalso; omega) (fun c122 => ?_)
    refine G_aload_n hX 1 rfl rfl d_Mo_readWindow_141 ?_
    have h123 : f118 61 = mob F101 := (k120 61 (by decide)).trans h109
    refine M_get hX fg_Mo_148 d_Mo_readWindow_142 h123 (by decide) h112 ?_
    refine G_iload hX 0 rfl d_Mo_readWindow_145 ?_
    refine G_aload_n hX 1 rfl rfl d_Mo_readWindow_147 ?_
    refine F_callV hX (st := [.int (zI (0 + 1)), .ref (eA E 84)]) (c_Mo_readNumber_f E f118 F101 fl h123 (moK_fr hmk (FrF.tr (FrF.rf (S := [30, 31, 32, 39, 40, 41, 43])) k105 (by decide)) (by decide)) h102 (by omega)) cm_Mo_readNumber im_Mo_readNumber se_Mo_readNumber rfl ml_Mo_401 d_Mo_readWindow_148 (by decide) h123 rfl rfl (Nat.le_of_ble_eq_true rfl) (by decide) ?_
    rintro _ f124 ⟨rfl, e127⟩
    obtain rfl := e127.symm
    refine G_cast (st' := [.int (zI 0), .int (zI (0 + 1)), .ref (eA E 84)]) ?_ rfl rfl rfl rfl
    refine F_iast hX d_Mo_readWindow_151 84 (by decide) h119 (by omega) (fun f128 h129 k130 => ?_)
    refine G_iinc_z hX (lv' := [(7, .int (zI ((0 + 1) + 1))), (0, .ref (eA E 61)), (3, .int (zI kk))]) 0 rfl (by decide) rfl d_Mo_readWindow_152 ?_
    refine G_goto hX (tgt := 135) d_Mo_readWindow_155 rfl ?_
    refine G_iload hX 0 rfl d_Mo_readWindow_135 ?_
    refine G_iconst hX d_Mo_readWindow_137 ?_
    refine G_icmp_ge_z hX (tgt := 158) d_Mo_readWindow_138 rfl (by omega) (fun c131 => by exfalso; omega) (fun c132 => ?_)
    refine G_aload_n hX 1 rfl rfl d_Mo_readWindow_141 ?_
    have h133 : f128 61 = mob F101 := (k130 61 (by decide)).trans h123
    refine M_get hX fg_Mo_148 d_Mo_readWindow_142 h133 (by decide) h112 ?_
    refine G_iload hX 0 rfl d_Mo_readWindow_145 ?_
    refine G_aload_n hX 1 rfl rfl d_Mo_readWindow_147 ?_
    refine F_callV hX (st := [.int (zI ((0 + 1) + 1)), .ref (eA E 84)]) (c_Mo_readNumber_f E f128 F101 fl h133 (moK_fr hmk (FrF.tr (FrF.rf (S := [30, 31, 32, 39, 40, 41, 43])) k105 (by decide)) (by decide)) h102 (by omega)) cm_Mo_readNumber im_Mo_readNumber se_Mo_readNumber rfl ml_Mo_401 d_Mo_readWindow_148 (by decide) h133 rfl rfl (Nat.le_of_ble_eq_true rfl) (by decide) ?_
    rintro _ f134 ⟨rfl, e137⟩
    obtain rfl := e137.symm
    refine G_cast (st' := [.int (zI 0), .int (zI ((0 + 1) + 1)), .ref (eA E 84)]) ?_ rfl rfl rfl rfl
    refine F_iast hX d_Mo_readWindow_151 84 (by decide) h129 (by omega) (fun f138 h139 k140 => ?_)
    refine G_iinc_z hX (lv' := [(7, .int (zI (((0 + 1) + 1) + 1))), (0, .ref (eA E 61)), (3, .int (zI kk))]) 0 rfl (by decide) rfl d_Mo_readWindow_152 ?_
    refine G_goto hX (tgt := 135) d_Mo_readWindow_155 rfl ?_
    refine G_iload hX 0 rfl d_Mo_readWindow_135 ?_
    refine G_iconst hX d_Mo_readWindow_137 ?_
    refine G_icmp_ge_z hX (tgt := 158) d_Mo_readWindow_138 rfl (by omega) (fun c141 => ?_) (fun c142 => by exfalso; omega)
    have h143 : f138 61 = mob F101 := (k140 61 (by decide)).trans h133
    refine G_loc (lv' := [(0, .ref (eA E 61)), (3, .int (zI kk))]) [1, 2] rfl ?_
    exact join34 fl pp ss kk (uz (uz (uz ev 0 0) (0 + 1) 0) ((0 + 1) + 1) 0) F101 f138  hfl hdd (by omega) (by omega) h102 h103 h104 (FrF.tr FrF.rf k105 (by decide)) h139 h143 (Fr.tr (Fr.tr (Fr.tr (Fr.tr Fr.rf k108 (by decide)) k120 (by decide)) k130 (by decide)) k140 (by decide))
  have join149 : ∀ (fl : Int) (pp : Int) (ss : Int) (kk : Int) (F144 : Nat → Value) (f150 : Nat → va_E), (fl ≠ 0 ∧ -10 ≤ fl ∧ fl ≤ 0) → ((if ¬ hdA g p e mc oc nm = 0 then hdA g p e mc oc nm else mkE (hdK g p e mc) (mkF (hdK g p e mc) g t old N S m)) = fl) → ((0 ≤ pp ∧ pp ≤ 700) ∧ -100000000 ≤ ss ∧ ss ≤ 500000000) → (0 ≤ kk ∧ kk < 256) → (F144 32 = .int (zI fl)) → (F144 30 = .int (zI pp)) → (F144 31 = .int (zI ss)) → (FrF [30, 31, 32, 39, 40, 41, 43] F F144) → f150 61 = mob F144 → Fr [61] f f150 → G E X 0 0 102 [(0, .ref (eA E 61)), (3, .int (zI kk))] [] (wl E f150) := by
    intro fl pp ss kk F144 f150 hfl hdd hps h_kk h145 h146 h147 k148 h152 k151
    refine G_aload_n hX 0 rfl rfl d_Mo_readWindow_102 ?_
    refine F_callV hX (st := []) (c_Mo_readByte_f E f150 F144 fl h152 (moK_fr hmk (FrF.tr (FrF.rf (S := [30, 31, 32, 39, 40, 41, 43])) k148 (by decide)) (by decide)) h145 (by omega)) cm_Mo_readByte im_Mo_readByte se_Mo_readByte rfl ml_Mo_357 d_Mo_readWindow_103 (by decide) h152 rfl rfl (Nat.le_of_ble_eq_true rfl) (by decide) ?_
    rintro _ f153 ⟨rfl, F156, h157, h158, k159, k160⟩
    refine G_cast (st' := [.int (zI 0)]) ?_ rfl rfl rfl rfl
    refine G_istore hX (lv' := [(6, .int (zI 0)), (0, .ref (eA E 61)), (3, .int (zI kk))]) (by decide) rfl d_Mo_readWindow_106 ?_
    refine G_iload hX 0 rfl d_Mo_readWindow_108 ?_
    refine G_if_le_z hX (tgt := 132) d_Mo_readWindow_110 rfl (by omega) (fun c161 => ?_) (fun c162 => by exfalso; omega)
    have h163 : F156 30 = .int (zI pp) := (k159 30 (by decide)).trans h146
    have h164 : F156 31 = .int (zI ss) := (k159 31 (by decide)).trans h147
    refine G_loc (lv' := [(0, .ref (eA E 61)), (3, .int (zI kk))]) [1, 2] rfl ?_
    exact join106 fl pp ss kk F156 f153  hfl hdd (by omega) (by omega) h158 h163 h164 (FrF.tr (FrF.tr FrF.rf k148 (by decide)) k159 (by decide)) h157 (Fr.tr (Fr.tr Fr.rf k151 (by decide)) k160 (by decide))
  have join170 : ∀ (fl : Int) (pp : Int) (ss : Int) (kk : Int) (al : Int) (F165 : Nat → Value) (f171 : Nat → va_E), (fl ≠ 0 ∧ -10 ≤ fl ∧ fl ≤ 0) → ((if ¬ hdA g p e mc oc nm = 0 then hdA g p e mc oc nm else mkE (hdK g p e mc) (mkF (hdK g p e mc) g t old N S m)) = fl) → ((0 ≤ pp ∧ pp ≤ 700) ∧ -100000000 ≤ ss ∧ ss ≤ 500000000) → (0 ≤ kk ∧ kk < 256) → (0 ≤ al ∧ al < 268435456) → (F165 32 = .int (zI fl)) → (F165 30 = .int (zI pp)) → (F165 31 = .int (zI ss)) → (FrF [30, 31, 32, 39, 40, 41, 43] F F165) → f171 61 = mob F165 → Fr [61] f f171 → G E X 0 0 61 [(0, .ref (eA E 61)), (3, .int (zI kk)), (5, .int (zI al))] [] (wl E f171) := by
    intro fl pp ss kk al F165 f171 hfl hdd hps h_kk h_al h166 h167 h168 k169 h173 k172
    refine G_aload_n hX 0 rfl rfl d_Mo_readWindow_61 ?_
    refine G_aload_n hX 0 rfl rfl d_Mo_readWindow_62 ?_
    refine M_get hX fg_Mo_348 d_Mo_readWindow_63 h173 (by decide) h167 ?_
    refine G_iload hX 2 rfl d_Mo_readWindow_66 ?_
    refine G_iadd_z hX d_Mo_readWindow_68 ?_
    refine M_put hX fg_Mo_351 fp_Mo_31 d_Mo_readWindow_69 h173 rfl rfl (by decide) (fun f174 F175 h176 h177 k178 k179 => ?_)
    refine G_aload_n hX 0 rfl rfl d_Mo_readWindow_72 ?_
    refine G_aload_n hX 0 rfl rfl d_Mo_readWindow_73 ?_
    have h180 : F175 32 = .int (zI fl) := (k178 32 (by decide)).trans h166
    refine F_callV hX (st := [.ref (eA E 61)]) (c_Mo_readNumber_f E f174 F175 fl h176 (moK_fr hmk (FrF.tr (FrF.tr (FrF.rf (S := [30, 31, 32, 39, 40, 41, 43])) k169 (by decide)) k178 (by decide)) (by decide)) h180 (by omega)) cm_Mo_readNumber im_Mo_readNumber se_Mo_readNumber rfl ml_Mo_401 d_Mo_readWindow_74 (by decide) h176 rfl rfl (Nat.le_of_ble_eq_true rfl) (by decide) ?_
    rintro _ f181 ⟨rfl, e184⟩
    obtain rfl := e184.symm
    refine G_cast (st' := [.int (zI 0), .ref (eA E 61)]) ?_ rfl rfl rfl rfl
    refine M_put hX fg_Mo_389 fp_Mo_43 d_Mo_readWindow_77 h176 rfl rfl (by decide) (fun f185 F186 h187 h188 k189 k190 => ?_)
    refine G_aload_n hX 0 rfl rfl d_Mo_readWindow_80 ?_
    have h191 : F186 36 = .int (zI mc) := (k189 36 (by decide)).trans ((k178 36 (by decide)).trans ((k169 36 (by decide)).trans hF36))
    refine M_get hX fg_Mo_386 d_Mo_readWindow_81 h187 (by decide) h191 ?_
    refine G_aload_n hX 0 rfl rfl d_Mo_readWindow_84 ?_
    refine M_get hX fg_Mo_389 d_Mo_readWindow_85 h187 (by decide) h188 ?_
    refine G_iadd_z hX d_Mo_readWindow_88 ?_
    refine G_aload_n hX 0 rfl rfl d_Mo_readWindow_89 ?_
    have h192 : F186 37 = .int (zI nm) := (k189 37 (by decide)).trans ((k178 37 (by decide)).trans ((k169 37 (by decide)).trans hF37))
    refine M_get hX fg_Mo_407 d_Mo_readWindow_90 h187 (by decide) h192 ?_
    refine G_icmp_le_z hX (tgt := 102) d_Mo_readWindow_93 rfl (by omega) (fun c193 => ?_) (fun c194 => ?_)
    · skip
      have h195 : F186 32 = .int (zI fl) := (k189 32 (by decide)).trans h180
      have h196 : F186 30 = .int (zI pp) := (k189 30 (by decide)).trans ((k178 30 (by decide)).trans h167)
      have h197 : F186 31 = .int (zI (pp + al)) := (k189 31 (by decide)).trans h177
      refine G_loc (lv' := [(0, .ref (eA E 61)), (3, .int (zI kk))]) [0, 1] rfl ?_
      exact join149 fl pp (pp + al) kk F186 f185  hfl hdd (by omega) (by omega) h195 h196 h197 (FrF.tr (FrF.tr (FrF.tr FrF.rf k169 (by decide)) k178 (by decide)) k189 (by decide)) h187 (Fr.tr (Fr.tr (Fr.tr Fr.rf k172 (by decide)) k179 (by decide)) k190 (by decide))
    · skip
      refine G_aload_n hX 0 rfl rfl d_Mo_readWindow_96 ?_
      refine G_bipush hX (by decide) d_Mo_readWindow_97 ?_
      have h198 : F186 32 = .int (zI fl) := (k189 32 (by decide)).trans h180
      refine F_callV hX (st := []) (c_Mo_refuse_f E f185 F186 (-4) fl h187 (moK_fr hmk (FrF.tr (FrF.tr (FrF.tr (FrF.rf (S := [30, 31, 32, 39, 40, 41, 43])) k169 (by decide)) k178 (by decide)) k189 (by decide)) (by decide)) h198 (by omega)) cm_Mo_refuse im_Mo_refuse se_Mo_refuse rfl ml_Mo_354 d_Mo_readWindow_99 (by decide) h187 rfl rfl (Nat.le_of_ble_eq_true rfl) (by decide) ?_
      rintro _ f199 ⟨rfl, F202, h203, h204, k205, k206⟩
      refine G_cast (st' := []) ?_ rfl rfl rfl rfl
      have h207 : F202 30 = .int (zI pp) := (k205 30 (by decide)).trans ((k189 30 (by decide)).trans ((k178 30 (by decide)).trans h167))
      have h208 : F202 31 = .int (zI (pp + al)) := (k205 31 (by decide)).trans ((k189 31 (by decide)).trans h177)
      refine G_loc (lv' := [(0, .ref (eA E 61)), (3, .int (zI kk))]) [0, 1] rfl ?_
      exact join149 fl pp (pp + al) kk F202 f199  hfl hdd (by omega) (by omega) h204 h207 h208 (FrF.tr (FrF.tr (FrF.tr (FrF.tr FrF.rf k169 (by decide)) k178 (by decide)) k189 (by decide)) k205 (by decide)) h203 (Fr.tr (Fr.tr (Fr.tr (Fr.tr Fr.rf k172 (by decide)) k179 (by decide)) k190 (by decide)) k206 (by decide))
  have join214 : ∀ (fl : Int) (pp : Int) (ss : Int) (kk : Int) (F209 : Nat → Value) (f215 : Nat → va_E), (fl ≠ 0 ∧ -10 ≤ fl ∧ fl ≤ 0) → ((if ¬ hdA g p e mc oc nm = 0 then hdA g p e mc oc nm else mkE (hdK g p e mc) (mkF (hdK g p e mc) g t old N S m)) = fl) → ((0 ≤ pp ∧ pp ≤ 700) ∧ -100000000 ≤ ss ∧ ss ≤ 500000000) → (0 ≤ kk ∧ kk < 256) → (F209 32 = .int (zI fl)) → (F209 30 = .int (zI pp)) → (F209 31 = .int (zI ss)) → (FrF [30, 31, 32, 39, 40, 41, 43] F F209) → f215 61 = mob F209 → Fr [61] f f215 → G E X 0 0 29 [(0, .ref (eA E 61)), (3, .int (zI kk))] [] (wl E f215) := by
    intro fl pp ss kk F209 f215 hfl hdd hps h_kk h210 h211 h212 k213 h217 k216
    refine G_aload_n hX 0 rfl rfl d_Mo_readWindow_29 ?_
    refine M_get hX fg_Mo_351 d_Mo_readWindow_30 h217 (by decide) h212 ?_
    refine G_istore hX (lv' := [(4, .int (zI ss)), (0, .ref (eA E 61)), (3, .int (zI kk))]) (by decide) rfl d_Mo_readWindow_33 ?_
    refine G_aload_n hX 1 rfl rfl d_Mo_readWindow_35 ?_
    refine F_callV hX (st := []) (c_Mo_readNumber_f E f215 F209 fl h217 (moK_fr hmk (FrF.tr (FrF.rf (S := [30, 31, 32, 39, 40, 41, 43])) k213 (by decide)) (by decide)) h210 (by omega)) cm_Mo_readNumber im_Mo_readNumber se_Mo_readNumber rfl ml_Mo_401 d_Mo_readWindow_36 (by decide) h217 rfl rfl (Nat.le_of_ble_eq_true rfl) (by decide) ?_
    rintro _ f218 ⟨rfl, e221⟩
    obtain rfl := e221.symm
    refine G_cast (st' := [.int (zI 0)]) ?_ rfl rfl rfl rfl
    refine G_istore hX (lv' := [(5, .int (zI 0)), (4, .int (zI ss)), (0, .ref (eA E 61)), (3, .int (zI kk))]) (by decide) rfl d_Mo_readWindow_39 ?_
    refine G_iload hX 0 rfl d_Mo_readWindow_41 ?_
    refine G_aload_n hX 2 rfl rfl d_Mo_readWindow_43 ?_
    refine M_get hX fg_Mo_351 d_Mo_readWindow_44 h217 (by decide) h212 ?_
    refine G_aload_n hX 2 rfl rfl d_Mo_readWindow_47 ?_
    refine M_get hX fg_Mo_348 d_Mo_readWindow_48 h217 (by decide) h211 ?_
    refine G_isub_z hX d_Mo_readWindow_51 ?_
    refine G_icmp_le_z hX (tgt := 61) d_Mo_readWindow_52 rfl (by omega) (fun c222 => ?_) (fun c223 => ?_)
    · skip
      refine G_loc (lv' := [(0, .ref (eA E 61)), (3, .int (zI kk)), (5, .int (zI 0))]) [2, 3, 0] rfl ?_
      exact join170 fl pp ss kk 0 F209 f215  hfl hdd (by omega) (by omega) (by omega) h210 h211 h212 (FrF.tr FrF.rf k213 (by decide)) h217 (Fr.tr Fr.rf k216 (by decide))
    · skip
      refine G_aload_n hX 2 rfl rfl d_Mo_readWindow_55 ?_
      refine G_bipush hX (by decide) d_Mo_readWindow_56 ?_
      refine F_callV hX (st := []) (c_Mo_refuse_f E f215 F209 (-2) fl h217 (moK_fr hmk (FrF.tr (FrF.rf (S := [30, 31, 32, 39, 40, 41, 43])) k213 (by decide)) (by decide)) h210 (by omega)) cm_Mo_refuse im_Mo_refuse se_Mo_refuse rfl ml_Mo_354 d_Mo_readWindow_58 (by decide) h217 rfl rfl (Nat.le_of_ble_eq_true rfl) (by decide) ?_
      rintro _ f224 ⟨rfl, F227, h228, h229, k230, k231⟩
      refine G_cast (st' := []) ?_ rfl rfl rfl rfl
      have h232 : F227 30 = .int (zI pp) := (k230 30 (by decide)).trans h211
      have h233 : F227 31 = .int (zI ss) := (k230 31 (by decide)).trans h212
      refine G_loc (lv' := [(0, .ref (eA E 61)), (3, .int (zI kk)), (5, .int (zI 0))]) [2, 3, 0] rfl ?_
      exact join170 fl pp ss kk 0 F227 f224  hfl hdd (by omega) (by omega) (by omega) h229 h232 h233 (FrF.tr (FrF.tr FrF.rf k213 (by decide)) k230 (by decide)) h228 (Fr.tr (Fr.tr Fr.rf k216 (by decide)) k231 (by decide))
  have join239 : ∀ (fl : Int) (pp : Int) (ss : Int) (kk : Int) (F234 : Nat → Value) (f240 : Nat → va_E), (fl ≠ 0 ∧ -10 ≤ fl ∧ fl ≤ 0) → ((if ¬ hdA g p e mc oc nm = 0 then hdA g p e mc oc nm else mkE (hdK g p e mc) (mkF (hdK g p e mc) g t old N S m)) = fl) → ((0 ≤ pp ∧ pp ≤ 700) ∧ -100000000 ≤ ss ∧ ss ≤ 500000000) → (0 ≤ kk ∧ kk < 256) → (F234 32 = .int (zI fl)) → (F234 30 = .int (zI pp)) → (F234 31 = .int (zI ss)) → (FrF [30, 31, 32, 39, 40, 41, 43] F F234) → f240 61 = mob F234 → Fr [61] f f240 → G E X 0 0 24 [(0, .ref (eA E 61)), (3, .int (zI kk))] [] (wl E f240) := by
    intro fl pp ss kk F234 f240 hfl hdd hps h_kk h235 h236 h237 k238 h242 k241
    refine G_aload_n hX 0 rfl rfl d_Mo_readWindow_24 ?_
    refine G_iload_n hX 1 rfl rfl d_Mo_readWindow_25 ?_
    have h243 : F234 36 = .int (zI mc) := (k238 36 (by decide)).trans hF36
    have h244 : F234 34 = .int (zI oc) := (k238 34 (by decide)).trans hF34
    refine F_callV hX (st := []) (c_Mo_readSource_f E f240 F234 kk mc oc fl h242 (moK_fr hmk (FrF.tr (FrF.rf (S := [30, 31, 32, 39, 40, 41, 43])) k238 (by decide)) (by decide)) h235 h244 h243 (by omega) (by omega) hfl) cm_Mo_readSource im_Mo_readSource se_Mo_readSource rfl ml_Mo_404 d_Mo_readWindow_26 (by decide) h242 rfl rfl (Nat.le_of_ble_eq_true rfl) (by decide) ?_
    rintro _ f245 ⟨rfl, F248, h249, h250, k251, k252⟩
    refine G_cast (st' := []) ?_ rfl rfl rfl rfl
    have h253 : F248 30 = .int (zI pp) := (k251 30 (by decide)).trans h236
    have h254 : F248 31 = .int (zI ss) := (k251 31 (by decide)).trans h237
    exact join214 fl pp ss kk F248 f245  hfl hdd (by omega) (by omega) h250 h253 h254 (FrF.tr (FrF.tr FrF.rf k238 (by decide)) k251 (by decide)) h249 (Fr.tr (Fr.tr Fr.rf k241 (by decide)) k252 (by decide))
  refine G_aload_n hX 0 rfl rfl d_Mo_readWindow_0 ?_
  refine F_callV hX (st := []) (c_Mo_readByte_ok E f F p e b g sE hMo hmk hF30 hF31 hF32 hc63 hG hgb (by omega)) cm_Mo_readByte im_Mo_readByte se_Mo_readByte rfl ml_Mo_357 d_Mo_readWindow_1 (by decide) hMo rfl rfl (Nat.le_of_ble_eq_true rfl) (by decide) ?_
  rintro _ f255 ⟨rfl, F258, h259, h260, k261, k262⟩
  refine G_cast (st' := [.int (zI (g p))]) ?_ rfl rfl rfl rfl
  refine G_top (show zI (g p) = zI (wk g p e) from congrArg zI hwk.symm) ?_
  have h263 : F258 30 = .int (zI (nxP p e)) := h260.trans (congrArg (fun z => Value.int (zI z)) (hnx.symm))
  by_cases hc1 : wk g p e < 0 ∨ 7 < wk g p e ∨ wk g p e % 4 = 3
  · skip
    have hda : hdA g p e mc oc nm = -2 := by unfold hdA; rw [if_pos hc1]
    have hdd : (if ¬ hdA g p e mc oc nm = 0 then hdA g p e mc oc nm else mkE (hdK g p e mc) (mkF (hdK g p e mc) g t old N S m)) = -2 := by rw [hda]; exact if_pos (by decide)
    refine G_istore_n hX (lv' := [(3, .int (zI (wk g p e))), (0, .ref (eA E 61)), (1, .int (zI N)), (2, .int (zI S))]) rfl (by decide) rfl d_Mo_readWindow_4 ?_
    refine G_iload_n hX 0 rfl rfl d_Mo_readWindow_5 ?_
    refine G_bipush hX (by decide) d_Mo_readWindow_6 ?_
    refine G_icmp_gt_z hX (tgt := 18) d_Mo_readWindow_8 rfl (by omega) (fun c264 => ?_) (fun c265 => ?_)
    · skip
      refine G_aload_n hX 1 rfl rfl d_Mo_readWindow_18 ?_
      refine G_bipush hX (by decide) d_Mo_readWindow_19 ?_
      have h266 : F258 32 = .int (zI 0) := (k261 32 (by decide)).trans hF32
      refine F_callV hX (st := []) (c_Mo_refuse E f255 F258 (-2) h259 (moK_fr hmk (FrF.tr (FrF.rf (S := [30])) k261 (by decide)) (by decide)) h266) cm_Mo_refuse im_Mo_refuse se_Mo_refuse rfl ml_Mo_354 d_Mo_readWindow_21 (by decide) h259 rfl rfl (Nat.le_of_ble_eq_true rfl) (by decide) ?_
      rintro _ f267 ⟨rfl, F270, h271, h272, k273, k274⟩
      refine G_cast (st' := []) ?_ rfl rfl rfl rfl
      have h275 : F270 30 = .int (zI (nxP p e)) := (k273 30 (by decide)).trans h263
      have h276 : F270 31 = .int (zI e) := (k273 31 (by decide)).trans ((k261 31 (by decide)).trans hF31)
      refine G_loc (lv' := [(0, .ref (eA E 61)), (3, .int (zI (wk g p e)))]) [1, 0] rfl ?_
      exact join239 (-2) (nxP p e) e (wk g p e) F270 f267  (by decide) hdd (by rw [hnx]; omega) (by omega) h272 h275 h276 (FrF.tr (FrF.tr FrF.rf k261 (by decide)) k273 (by decide)) h271 (Fr.tr (Fr.tr Fr.rf k262 (by decide)) k274 (by decide))
    · skip
      refine G_iload_n hX 0 rfl rfl d_Mo_readWindow_11 ?_
      refine G_iconst hX d_Mo_readWindow_12 ?_
      refine G_iand hX d_Mo_readWindow_13 ?_
      refine G_top (show (zI (wk g p e) &&& zI 3) = zI (wk g p e % 4) from zI_and3 _) ?_
      refine G_iconst hX d_Mo_readWindow_14 ?_
      refine G_icmp_ne_z hX (tgt := 24) d_Mo_readWindow_15 rfl (by omega) (fun c277 => ?_) (fun c278 => ?_)
      · skip
        have h279 : F258 32 = .int (zI 0) := (k261 32 (by decide)).trans hF32
        exfalso; omega
      · skip
        refine G_aload_n hX 1 rfl rfl d_Mo_readWindow_18 ?_
        refine G_bipush hX (by decide) d_Mo_readWindow_19 ?_
        have h280 : F258 32 = .int (zI 0) := (k261 32 (by decide)).trans hF32
        refine F_callV hX (st := []) (c_Mo_refuse E f255 F258 (-2) h259 (moK_fr hmk (FrF.tr (FrF.rf (S := [30])) k261 (by decide)) (by decide)) h280) cm_Mo_refuse im_Mo_refuse se_Mo_refuse rfl ml_Mo_354 d_Mo_readWindow_21 (by decide) h259 rfl rfl (Nat.le_of_ble_eq_true rfl) (by decide) ?_
        rintro _ f281 ⟨rfl, F284, h285, h286, k287, k288⟩
        refine G_cast (st' := []) ?_ rfl rfl rfl rfl
        have h289 : F284 30 = .int (zI (nxP p e)) := (k287 30 (by decide)).trans h263
        have h290 : F284 31 = .int (zI e) := (k287 31 (by decide)).trans ((k261 31 (by decide)).trans hF31)
        refine G_loc (lv' := [(0, .ref (eA E 61)), (3, .int (zI (wk g p e)))]) [1, 0] rfl ?_
        exact join239 (-2) (nxP p e) e (wk g p e) F284 f281  (by decide) hdd (by rw [hnx]; omega) (by omega) h286 h289 h290 (FrF.tr (FrF.tr FrF.rf k261 (by decide)) k287 (by decide)) h285 (Fr.tr (Fr.tr Fr.rf k262 (by decide)) k288 (by decide))
  · skip
    refine G_istore_n hX (lv' := [(3, .int (zI (wk g p e))), (0, .ref (eA E 61)), (1, .int (zI N)), (2, .int (zI S))]) rfl (by decide) rfl d_Mo_readWindow_4 ?_
    refine G_iload_n hX 0 rfl rfl d_Mo_readWindow_5 ?_
    refine G_bipush hX (by decide) d_Mo_readWindow_6 ?_
    refine G_icmp_gt_z hX (tgt := 18) d_Mo_readWindow_8 rfl (by omega) (fun c291 => by exfalso; omega) (fun c292 => ?_)
    refine G_iload_n hX 0 rfl rfl d_Mo_readWindow_11 ?_
    refine G_iconst hX d_Mo_readWindow_12 ?_
    refine G_iand hX d_Mo_readWindow_13 ?_
    refine G_top (show (zI (wk g p e) &&& zI 3) = zI (wk g p e % 4) from zI_and3 _) ?_
    refine G_iconst hX d_Mo_readWindow_14 ?_
    refine G_icmp_ne_z hX (tgt := 24) d_Mo_readWindow_15 rfl (by omega) (fun c293 => ?_) (fun c294 => by exfalso; omega)
    have h295 : F258 32 = .int (zI 0) := (k261 32 (by decide)).trans hF32
    by_cases hc2 : ¬ (wk g p e % 4 = 0 ∨ (0 ≤ (numL g e 4 (nxP p e) 0).1 ∧ 0 ≤ (numL g e 4 (numL g e 4 (nxP p e) 0).2 0).1 ∧ (numL g e 4 (numL g e 4 (nxP p e) 0).2 0).1 + (numL g e 4 (nxP p e) 0).1 ≤ if wk g p e % 4 = 2 then mc else oc))
    · skip
      have hda : hdA g p e mc oc nm = -2 := by unfold hdA; rw [if_neg hc1, if_pos hc2]
      have hdd : (if ¬ hdA g p e mc oc nm = 0 then hdA g p e mc oc nm else mkE (hdK g p e mc) (mkF (hdK g p e mc) g t old N S m)) = -2 := by rw [hda]; exact if_pos (by decide)
      refine G_aload_n hX 1 rfl rfl d_Mo_readWindow_24 ?_
      refine G_iload_n hX 0 rfl rfl d_Mo_readWindow_25 ?_
      have h296 : F258 31 = .int (zI e) := (k261 31 (by decide)).trans hF31
      have h297 : F258 36 = .int (zI mc) := (k261 36 (by decide)).trans hF36
      have h298 : F258 34 = .int (zI oc) := (k261 34 (by decide)).trans hF34
      have h299 : f255 63 = iz E 1600 b := (k262 63 (by decide)).trans hc63
      refine F_callV hX (st := []) (c_Mo_readSource_no E f255 F258 (wk g p e) (nxP p e) e mc oc b g sE h259 (moK_fr hmk (FrF.tr (FrF.rf (S := [30])) k261 (by decide)) (by decide)) h263 h296 h295 h298 h297 h299 hG hgb (by rw [hnx]; omega) (by omega) (by omega) hc2) cm_Mo_readSource im_Mo_readSource se_Mo_readSource rfl ml_Mo_404 d_Mo_readWindow_26 (by decide) h259 rfl rfl (Nat.le_of_ble_eq_true rfl) (by decide) ?_
      rintro _ f300 ⟨rfl, F303, p'_304, h305, h306, h307, k308, p309, k310⟩
      refine G_cast (st' := []) ?_ rfl rfl rfl rfl
      have h311 : F303 31 = .int (zI e) := (k308 31 (by decide)).trans h296
      refine G_loc (lv' := [(0, .ref (eA E 61)), (3, .int (zI (wk g p e)))]) [1, 0] rfl ?_
      exact join214 (-2) p'_304 e (wk g p e) F303 f300  (by decide) hdd (by omega) (by omega) h307 h306 h311 (FrF.tr (FrF.tr FrF.rf k261 (by decide)) k308 (by decide)) h305 (Fr.tr (Fr.tr Fr.rf k262 (by decide)) k310 (by decide))
    · skip
      have hc2p := Decidable.not_not.mp hc2
      refine G_aload_n hX 1 rfl rfl d_Mo_readWindow_24 ?_
      refine G_iload_n hX 0 rfl rfl d_Mo_readWindow_25 ?_
      have h312 : F258 31 = .int (zI e) := (k261 31 (by decide)).trans hF31
      have h313 : F258 36 = .int (zI mc) := (k261 36 (by decide)).trans hF36
      have h314 : F258 34 = .int (zI oc) := (k261 34 (by decide)).trans hF34
      have h315 : f255 63 = iz E 1600 b := (k262 63 (by decide)).trans hc63
      refine F_callV hX (st := []) (c_Mo_readSource_ok E f255 F258 (wk g p e) (nxP p e) e mc oc b g sE h259 (moK_fr hmk (FrF.tr (FrF.rf (S := [30])) k261 (by decide)) (by decide)) h263 h312 h295 h314 h313 h315 hG hgb (by rw [hnx]; omega) (by omega) (by omega) hc2p) cm_Mo_readSource im_Mo_readSource se_Mo_readSource rfl ml_Mo_404 d_Mo_readWindow_26 (by decide) h259 rfl rfl (Nat.le_of_ble_eq_true rfl) (by decide) ?_
      rintro _ f316 ⟨rfl, F319, h320, h321, h322, h323, h324, k325, k326⟩
      refine G_cast (st' := []) ?_ rfl rfl rfl rfl
      have h327 : F319 30 = .int (zI ((wS g p e).2.2)) := h324.trans (congrArg (fun z => Value.int (zI z)) (rfl))
      have h328 : F319 39 = .int (zI ((wS g p e).1)) := h322.trans (congrArg (fun z => Value.int (zI z)) (rfl))
      have h329 : F319 40 = .int (zI ((wS g p e).2.1)) := h323.trans (congrArg (fun z => Value.int (zI z)) (rfl))
      have hsb : nxP p e ≤ (wS g p e).2.2 ∧ (wS g p e).2.2 ≤ e := by
        have b1 := numL_4 (g := g) (e := e) (p := nxP p e) hG (by rw [hnx]; omega)
        have b2 := numL_4 (g := g) (e := e) (p := (numL g e 4 (nxP p e) 0).2) hG b1.2.2.2
        show nxP p e ≤ (sR g e (nxP p e) (wk g p e % 4)).2.2 ∧ (sR g e (nxP p e) (wk g p e % 4)).2.2 ≤ e
        unfold sR
        by_cases q : wk g p e % 4 = 0
        · rw [if_pos q]; exact ⟨Int.le_refl _, show nxP p e ≤ e by rw [hnx]; omega⟩
        · rw [if_neg q]; exact ⟨show nxP p e ≤ (numL g e 4 (numL g e 4 (nxP p e) 0).2 0).2 by omega, show (numL g e 4 (numL g e 4 (nxP p e) 0).2 0).2 ≤ e by omega⟩
      have hyb : -1 ≤ (wY g p e).1 ∧ (wY g p e).1 < 268435456 ∧ (wS g p e).2.2 ≤ (wY g p e).2 ∧ (wY g p e).2 ≤ e := numL_4 hG hsb.2
      rw [hnx] at hsb
      by_cases qn : (wY g p e).1 < 0
      · skip
        have hc3 : (wY g p e).1 < 0 ∨ e - (wY g p e).2 < (wY g p e).1 := Or.inl qn
        have hda : hdA g p e mc oc nm = -2 := by unfold hdA; rw [if_neg hc1, if_neg hc2, if_pos hc3]
        have hdd : (if ¬ hdA g p e mc oc nm = 0 then hdA g p e mc oc nm else mkE (hdK g p e mc) (mkF (hdK g p e mc) g t old N S m)) = -2 := by rw [hda]; exact if_pos (by decide)
        refine G_aload_n hX 1 rfl rfl d_Mo_readWindow_29 ?_
        have h330 : F319 31 = .int (zI e) := (k325 31 (by decide)).trans h312
        refine M_get hX fg_Mo_351 d_Mo_readWindow_30 h320 (by decide) h330 ?_
        refine G_istore hX (lv' := [(4, .int (zI e)), (3, .int (zI (wk g p e))), (0, .ref (eA E 61)), (1, .int (zI N)), (2, .int (zI S))]) (by decide) rfl d_Mo_readWindow_33 ?_
        refine G_aload_n hX 2 rfl rfl d_Mo_readWindow_35 ?_
        have h331 : F319 32 = .int (zI 0) := (k325 32 (by decide)).trans h295
        have h332 : f316 63 = iz E 1600 b := (k326 63 (by decide)).trans h315
        refine F_callV hX (st := []) (c_Mo_readNumber_no E f316 F319 ((wS g p e).2.2) e b g sE h320 (moK_fr hmk (FrF.tr (FrF.tr (FrF.rf (S := [30, 39, 40, 41])) k261 (by decide)) k325 (by decide)) (by decide)) h327 h330 h331 h332 hG hgb (by omega) qn) cm_Mo_readNumber im_Mo_readNumber se_Mo_readNumber rfl ml_Mo_401 d_Mo_readWindow_36 (by decide) h320 rfl rfl (Nat.le_of_ble_eq_true rfl) (by decide) ?_
        rintro _ f333 ⟨F336, r'_337, p'_338, rfl, h339, h340, h341, k342, p343, k344⟩
        refine G_cast (st' := [.int (zI r'_337)]) ?_ rfl rfl rfl rfl
        refine G_istore hX (lv' := [(5, .int (zI r'_337)), (4, .int (zI e)), (3, .int (zI (wk g p e))), (0, .ref (eA E 61)), (1, .int (zI N)), (2, .int (zI S))]) (by decide) rfl d_Mo_readWindow_39 ?_
        refine G_iload hX 0 rfl d_Mo_readWindow_41 ?_
        refine G_aload_n hX 3 rfl rfl d_Mo_readWindow_43 ?_
        have h345 : F336 31 = .int (zI e) := (k342 31 (by decide)).trans h330
        refine M_get hX fg_Mo_351 d_Mo_readWindow_44 h339 (by decide) h345 ?_
        refine G_aload_n hX 3 rfl rfl d_Mo_readWindow_47 ?_
        refine M_get hX fg_Mo_348 d_Mo_readWindow_48 h339 (by decide) h340 ?_
        refine G_isub_z hX d_Mo_readWindow_51 ?_
        refine G_icmp_le_z hX (tgt := 61) d_Mo_readWindow_52 rfl (by omega) (fun c346 => ?_) (fun c347 => ?_)
        · skip
          refine G_loc (lv' := [(0, .ref (eA E 61)), (3, .int (zI (wk g p e))), (5, .int (zI r'_337))]) [3, 2, 0] rfl ?_
          exact join170 (-2) p'_338 e (wk g p e) r'_337 F336 f333  (by decide) hdd (by omega) (by omega) (by omega) h341 h340 h345 (FrF.tr (FrF.tr (FrF.tr FrF.rf k261 (by decide)) k325 (by decide)) k342 (by decide)) h339 (Fr.tr (Fr.tr (Fr.tr Fr.rf k262 (by decide)) k326 (by decide)) k344 (by decide))
        · skip
          refine G_aload_n hX 3 rfl rfl d_Mo_readWindow_55 ?_
          refine G_bipush hX (by decide) d_Mo_readWindow_56 ?_
          refine F_callV hX (st := []) (c_Mo_refuse_f E f333 F336 (-2) (-2) h339 (moK_fr hmk (FrF.tr (FrF.tr (FrF.tr (FrF.rf (S := [30, 32, 39, 40, 41])) k261 (by decide)) k325 (by decide)) k342 (by decide)) (by decide)) h341 (by omega)) cm_Mo_refuse im_Mo_refuse se_Mo_refuse rfl ml_Mo_354 d_Mo_readWindow_58 (by decide) h339 rfl rfl (Nat.le_of_ble_eq_true rfl) (by decide) ?_
          rintro _ f348 ⟨rfl, F351, h352, h353, k354, k355⟩
          refine G_cast (st' := []) ?_ rfl rfl rfl rfl
          have h356 : F351 30 = .int (zI p'_338) := (k354 30 (by decide)).trans h340
          have h357 : F351 31 = .int (zI e) := (k354 31 (by decide)).trans h345
          refine G_loc (lv' := [(0, .ref (eA E 61)), (3, .int (zI (wk g p e))), (5, .int (zI r'_337))]) [3, 2, 0] rfl ?_
          exact join170 (-2) p'_338 e (wk g p e) r'_337 F351 f348  (by decide) hdd (by omega) (by omega) (by omega) h353 h356 h357 (FrF.tr (FrF.tr (FrF.tr (FrF.tr FrF.rf k261 (by decide)) k325 (by decide)) k342 (by decide)) k354 (by decide)) h352 (Fr.tr (Fr.tr (Fr.tr (Fr.tr Fr.rf k262 (by decide)) k326 (by decide)) k344 (by decide)) k355 (by decide))
      · skip
        refine G_aload_n hX 1 rfl rfl d_Mo_readWindow_29 ?_
        have h358 : F319 31 = .int (zI e) := (k325 31 (by decide)).trans h312
        refine M_get hX fg_Mo_351 d_Mo_readWindow_30 h320 (by decide) h358 ?_
        refine G_istore hX (lv' := [(4, .int (zI e)), (3, .int (zI (wk g p e))), (0, .ref (eA E 61)), (1, .int (zI N)), (2, .int (zI S))]) (by decide) rfl d_Mo_readWindow_33 ?_
        refine G_aload_n hX 2 rfl rfl d_Mo_readWindow_35 ?_
        have h359 : F319 32 = .int (zI 0) := (k325 32 (by decide)).trans h295
        have h360 : f316 63 = iz E 1600 b := (k326 63 (by decide)).trans h315
        refine F_callV hX (st := []) (c_Mo_readNumber_ok E f316 F319 ((wS g p e).2.2) e b g sE h320 (moK_fr hmk (FrF.tr (FrF.tr (FrF.rf (S := [30, 39, 40, 41])) k261 (by decide)) k325 (by decide)) (by decide)) h327 h358 h359 h360 hG hgb (by omega) (show 0 ≤ (wY g p e).1 by omega)) cm_Mo_readNumber im_Mo_readNumber se_Mo_readNumber rfl ml_Mo_401 d_Mo_readWindow_36 (by decide) h320 rfl rfl (Nat.le_of_ble_eq_true rfl) (by decide) ?_
        rintro _ f361 ⟨rfl, F364, h365, h366, k367, k368⟩
        refine G_cast (st' := [.int (zI ((numL g e 4 ((wS g p e).2.2) 0).1))]) ?_ rfl rfl rfl rfl
        refine G_top (show zI ((numL g e 4 ((wS g p e).2.2) 0).1) = zI ((wY g p e).1) from rfl) ?_
        have h369 : F364 30 = .int (zI ((wY g p e).2)) := h366.trans (congrArg (fun z => Value.int (zI z)) (rfl))
        by_cases hc3 : (wY g p e).1 < 0 ∨ e - (wY g p e).2 < (wY g p e).1
        · skip
          have hda : hdA g p e mc oc nm = -2 := by unfold hdA; rw [if_neg hc1, if_neg hc2, if_pos hc3]
          have hdd : (if ¬ hdA g p e mc oc nm = 0 then hdA g p e mc oc nm else mkE (hdK g p e mc) (mkF (hdK g p e mc) g t old N S m)) = -2 := by rw [hda]; exact if_pos (by decide)
          refine G_istore hX (lv' := [(5, .int (zI ((wY g p e).1))), (4, .int (zI e)), (3, .int (zI (wk g p e))), (0, .ref (eA E 61)), (1, .int (zI N)), (2, .int (zI S))]) (by decide) rfl d_Mo_readWindow_39 ?_
          refine G_iload hX 0 rfl d_Mo_readWindow_41 ?_
          refine G_aload_n hX 3 rfl rfl d_Mo_readWindow_43 ?_
          have h370 : F364 31 = .int (zI e) := (k367 31 (by decide)).trans h358
          refine M_get hX fg_Mo_351 d_Mo_readWindow_44 h365 (by decide) h370 ?_
          refine G_aload_n hX 3 rfl rfl d_Mo_readWindow_47 ?_
          refine M_get hX fg_Mo_348 d_Mo_readWindow_48 h365 (by decide) h369 ?_
          refine G_isub_z hX d_Mo_readWindow_51 ?_
          refine G_icmp_le_z hX (tgt := 61) d_Mo_readWindow_52 rfl (by omega) (fun c371 => by exfalso; omega) (fun c372 => ?_)
          refine G_aload_n hX 3 rfl rfl d_Mo_readWindow_55 ?_
          refine G_bipush hX (by decide) d_Mo_readWindow_56 ?_
          have h373 : F364 32 = .int (zI 0) := (k367 32 (by decide)).trans h359
          refine F_callV hX (st := []) (c_Mo_refuse E f361 F364 (-2) h365 (moK_fr hmk (FrF.tr (FrF.tr (FrF.tr (FrF.rf (S := [30, 39, 40, 41])) k261 (by decide)) k325 (by decide)) k367 (by decide)) (by decide)) h373) cm_Mo_refuse im_Mo_refuse se_Mo_refuse rfl ml_Mo_354 d_Mo_readWindow_58 (by decide) h365 rfl rfl (Nat.le_of_ble_eq_true rfl) (by decide) ?_
          rintro _ f374 ⟨rfl, F377, h378, h379, k380, k381⟩
          refine G_cast (st' := []) ?_ rfl rfl rfl rfl
          have h382 : F377 30 = .int (zI ((wY g p e).2)) := (k380 30 (by decide)).trans h369
          have h383 : F377 31 = .int (zI e) := (k380 31 (by decide)).trans h370
          refine G_loc (lv' := [(0, .ref (eA E 61)), (3, .int (zI (wk g p e))), (5, .int (zI ((wY g p e).1)))]) [3, 2, 0] rfl ?_
          exact join170 (-2) ((wY g p e).2) e (wk g p e) ((wY g p e).1) F377 f374  (by decide) hdd (by omega) (by omega) (by omega) h379 h382 h383 (FrF.tr (FrF.tr (FrF.tr (FrF.tr FrF.rf k261 (by decide)) k325 (by decide)) k367 (by decide)) k380 (by decide)) h378 (Fr.tr (Fr.tr (Fr.tr (Fr.tr Fr.rf k262 (by decide)) k326 (by decide)) k368 (by decide)) k381 (by decide))
        · skip
          refine G_istore hX (lv' := [(5, .int (zI ((wY g p e).1))), (4, .int (zI e)), (3, .int (zI (wk g p e))), (0, .ref (eA E 61)), (1, .int (zI N)), (2, .int (zI S))]) (by decide) rfl d_Mo_readWindow_39 ?_
          refine G_iload hX 0 rfl d_Mo_readWindow_41 ?_
          refine G_aload_n hX 3 rfl rfl d_Mo_readWindow_43 ?_
          have h384 : F364 31 = .int (zI e) := (k367 31 (by decide)).trans h358
          refine M_get hX fg_Mo_351 d_Mo_readWindow_44 h365 (by decide) h384 ?_
          refine G_aload_n hX 3 rfl rfl d_Mo_readWindow_47 ?_
          refine M_get hX fg_Mo_348 d_Mo_readWindow_48 h365 (by decide) h369 ?_
          refine G_isub_z hX d_Mo_readWindow_51 ?_
          refine G_icmp_le_z hX (tgt := 61) d_Mo_readWindow_52 rfl (by omega) (fun c385 => ?_) (fun c386 => by exfalso; omega)
          refine G_aload_n hX 3 rfl rfl d_Mo_readWindow_61 ?_
          refine G_aload_n hX 3 rfl rfl d_Mo_readWindow_62 ?_
          refine M_get hX fg_Mo_348 d_Mo_readWindow_63 h365 (by decide) h369 ?_
          refine G_iload hX 0 rfl d_Mo_readWindow_66 ?_
          refine G_iadd_z hX d_Mo_readWindow_68 ?_
          refine M_put hX fg_Mo_351 fp_Mo_31 d_Mo_readWindow_69 h365 rfl rfl (by decide) (fun f387 F388 h389 h390 k391 k392 => ?_)
          have h393 : F388 31 = .int (zI (wE g p e)) := h390.trans (congrArg (fun z => Value.int (zI z)) (rfl))
          have hwe : wE g p e = (wY g p e).2 + (wY g p e).1 := rfl
          have hzb : -1 ≤ (wZ g p e).1 ∧ (wZ g p e).1 < 268435456 ∧ (wY g p e).2 ≤ (wZ g p e).2 ∧ (wZ g p e).2 ≤ wE g p e := numL_4 hG (by omega)
          by_cases hc4 : (wZ g p e).1 < 0
          · skip
            have hda : hdA g p e mc oc nm = -2 := by unfold hdA; rw [if_neg hc1, if_neg hc2, if_neg hc3, if_pos hc4]
            have hdd : (if ¬ hdA g p e mc oc nm = 0 then hdA g p e mc oc nm else mkE (hdK g p e mc) (mkF (hdK g p e mc) g t old N S m)) = -2 := by rw [hda]; exact if_pos (by decide)
            refine G_aload_n hX 3 rfl rfl d_Mo_readWindow_72 ?_
            refine G_aload_n hX 3 rfl rfl d_Mo_readWindow_73 ?_
            have h394 : F388 30 = .int (zI ((wY g p e).2)) := (k391 30 (by decide)).trans h369
            have h395 : F388 32 = .int (zI 0) := (k391 32 (by decide)).trans ((k367 32 (by decide)).trans h359)
            have h396 : f387 63 = iz E 1600 b := (k392 63 (by decide)).trans ((k368 63 (by decide)).trans h360)
            refine F_callV hX (st := [.ref (eA E 61)]) (c_Mo_readNumber_no E f387 F388 ((wY g p e).2) (wE g p e) b g sE h389 (moK_fr hmk (FrF.tr (FrF.tr (FrF.tr (FrF.tr (FrF.rf (S := [30, 31, 39, 40, 41])) k261 (by decide)) k325 (by decide)) k367 (by decide)) k391 (by decide)) (by decide)) h394 h393 h395 h396 hG hgb (by omega) hc4) cm_Mo_readNumber im_Mo_readNumber se_Mo_readNumber rfl ml_Mo_401 d_Mo_readWindow_74 (by decide) h389 rfl rfl (Nat.le_of_ble_eq_true rfl) (by decide) ?_
            rintro _ f397 ⟨F400, r'_401, p'_402, rfl, h403, h404, h405, k406, p407, k408⟩
            refine G_cast (st' := [.int (zI r'_401), .ref (eA E 61)]) ?_ rfl rfl rfl rfl
            refine M_put hX fg_Mo_389 fp_Mo_43 d_Mo_readWindow_77 h403 rfl rfl (by decide) (fun f409 F410 h411 h412 k413 k414 => ?_)
            refine G_aload_n hX 3 rfl rfl d_Mo_readWindow_80 ?_
            have h415 : F410 36 = .int (zI mc) := (k413 36 (by decide)).trans ((k406 36 (by decide)).trans ((k391 36 (by decide)).trans ((k367 36 (by decide)).trans ((k325 36 (by decide)).trans h313))))
            refine M_get hX fg_Mo_386 d_Mo_readWindow_81 h411 (by decide) h415 ?_
            refine G_aload_n hX 3 rfl rfl d_Mo_readWindow_84 ?_
            refine M_get hX fg_Mo_389 d_Mo_readWindow_85 h411 (by decide) h412 ?_
            refine G_iadd_z hX d_Mo_readWindow_88 ?_
            refine G_aload_n hX 3 rfl rfl d_Mo_readWindow_89 ?_
            have h416 : F410 37 = .int (zI nm) := (k413 37 (by decide)).trans ((k406 37 (by decide)).trans ((k391 37 (by decide)).trans ((k367 37 (by decide)).trans ((k325 37 (by decide)).trans ((k261 37 (by decide)).trans hF37)))))
            refine M_get hX fg_Mo_407 d_Mo_readWindow_90 h411 (by decide) h416 ?_
            refine G_icmp_le_z hX (tgt := 102) d_Mo_readWindow_93 rfl (by omega) (fun c417 => ?_) (fun c418 => ?_)
            · skip
              have h419 : F410 32 = .int (zI (-2)) := (k413 32 (by decide)).trans h405
              have h420 : F410 30 = .int (zI p'_402) := (k413 30 (by decide)).trans h404
              have h421 : F410 31 = .int (zI (wE g p e)) := (k413 31 (by decide)).trans ((k406 31 (by decide)).trans h393)
              refine G_loc (lv' := [(0, .ref (eA E 61)), (3, .int (zI (wk g p e)))]) [3, 2] rfl ?_
              exact join149 (-2) p'_402 (wE g p e) (wk g p e) F410 f409  (by decide) hdd (by omega) (by omega) h419 h420 h421 (FrF.tr (FrF.tr (FrF.tr (FrF.tr (FrF.tr (FrF.tr FrF.rf k261 (by decide)) k325 (by decide)) k367 (by decide)) k391 (by decide)) k406 (by decide)) k413 (by decide)) h411 (Fr.tr (Fr.tr (Fr.tr (Fr.tr (Fr.tr (Fr.tr Fr.rf k262 (by decide)) k326 (by decide)) k368 (by decide)) k392 (by decide)) k408 (by decide)) k414 (by decide))
            · skip
              refine G_aload_n hX 3 rfl rfl d_Mo_readWindow_96 ?_
              refine G_bipush hX (by decide) d_Mo_readWindow_97 ?_
              have h422 : F410 32 = .int (zI (-2)) := (k413 32 (by decide)).trans h405
              refine F_callV hX (st := []) (c_Mo_refuse_f E f409 F410 (-4) (-2) h411 (moK_fr hmk (FrF.tr (FrF.tr (FrF.tr (FrF.tr (FrF.tr (FrF.tr (FrF.rf (S := [30, 31, 32, 39, 40, 41, 43])) k261 (by decide)) k325 (by decide)) k367 (by decide)) k391 (by decide)) k406 (by decide)) k413 (by decide)) (by decide)) h422 (by omega)) cm_Mo_refuse im_Mo_refuse se_Mo_refuse rfl ml_Mo_354 d_Mo_readWindow_99 (by decide) h411 rfl rfl (Nat.le_of_ble_eq_true rfl) (by decide) ?_
              rintro _ f423 ⟨rfl, F426, h427, h428, k429, k430⟩
              refine G_cast (st' := []) ?_ rfl rfl rfl rfl
              have h431 : F426 30 = .int (zI p'_402) := (k429 30 (by decide)).trans ((k413 30 (by decide)).trans h404)
              have h432 : F426 31 = .int (zI (wE g p e)) := (k429 31 (by decide)).trans ((k413 31 (by decide)).trans ((k406 31 (by decide)).trans h393))
              refine G_loc (lv' := [(0, .ref (eA E 61)), (3, .int (zI (wk g p e)))]) [3, 2] rfl ?_
              exact join149 (-2) p'_402 (wE g p e) (wk g p e) F426 f423  (by decide) hdd (by omega) (by omega) h428 h431 h432 (FrF.tr (FrF.tr (FrF.tr (FrF.tr (FrF.tr (FrF.tr (FrF.tr FrF.rf k261 (by decide)) k325 (by decide)) k367 (by decide)) k391 (by decide)) k406 (by decide)) k413 (by decide)) k429 (by decide)) h427 (Fr.tr (Fr.tr (Fr.tr (Fr.tr (Fr.tr (Fr.tr (Fr.tr Fr.rf k262 (by decide)) k326 (by decide)) k368 (by decide)) k392 (by decide)) k408 (by decide)) k414 (by decide)) k430 (by decide))
          · skip
            refine G_aload_n hX 3 rfl rfl d_Mo_readWindow_72 ?_
            refine G_aload_n hX 3 rfl rfl d_Mo_readWindow_73 ?_
            have h433 : F388 30 = .int (zI ((wY g p e).2)) := (k391 30 (by decide)).trans h369
            have h434 : F388 32 = .int (zI 0) := (k391 32 (by decide)).trans ((k367 32 (by decide)).trans h359)
            have h435 : f387 63 = iz E 1600 b := (k392 63 (by decide)).trans ((k368 63 (by decide)).trans h360)
            refine F_callV hX (st := [.ref (eA E 61)]) (c_Mo_readNumber_ok E f387 F388 ((wY g p e).2) (wE g p e) b g sE h389 (moK_fr hmk (FrF.tr (FrF.tr (FrF.tr (FrF.tr (FrF.rf (S := [30, 31, 39, 40, 41])) k261 (by decide)) k325 (by decide)) k367 (by decide)) k391 (by decide)) (by decide)) h433 h393 h434 h435 hG hgb (by omega) (show 0 ≤ (wZ g p e).1 by omega)) cm_Mo_readNumber im_Mo_readNumber se_Mo_readNumber rfl ml_Mo_401 d_Mo_readWindow_74 (by decide) h389 rfl rfl (Nat.le_of_ble_eq_true rfl) (by decide) ?_
            rintro _ f436 ⟨rfl, F439, h440, h441, k442, k443⟩
            refine G_cast (st' := [.int (zI ((numL g (wE g p e) 4 ((wY g p e).2) 0).1)), .ref (eA E 61)]) ?_ rfl rfl rfl rfl
            refine G_top (show zI ((numL g (wE g p e) 4 ((wY g p e).2) 0).1) = zI ((wZ g p e).1) from rfl) ?_
            have h444 : F439 30 = .int (zI ((wZ g p e).2)) := h441.trans (congrArg (fun z => Value.int (zI z)) (rfl))
            by_cases hc5 : nm - mc < (wZ g p e).1
            · skip
              have hda : hdA g p e mc oc nm = -4 := by unfold hdA; rw [if_neg hc1, if_neg hc2, if_neg hc3, if_neg hc4, if_pos hc5]
              have hdd : (if ¬ hdA g p e mc oc nm = 0 then hdA g p e mc oc nm else mkE (hdK g p e mc) (mkF (hdK g p e mc) g t old N S m)) = -4 := by rw [hda]; exact if_pos (by decide)
              refine M_put hX fg_Mo_389 fp_Mo_43 d_Mo_readWindow_77 h440 rfl rfl (by decide) (fun f445 F446 h447 h448 k449 k450 => ?_)
              refine G_aload_n hX 3 rfl rfl d_Mo_readWindow_80 ?_
              have h451 : F446 36 = .int (zI mc) := (k449 36 (by decide)).trans ((k442 36 (by decide)).trans ((k391 36 (by decide)).trans ((k367 36 (by decide)).trans ((k325 36 (by decide)).trans h313))))
              refine M_get hX fg_Mo_386 d_Mo_readWindow_81 h447 (by decide) h451 ?_
              refine G_aload_n hX 3 rfl rfl d_Mo_readWindow_84 ?_
              refine M_get hX fg_Mo_389 d_Mo_readWindow_85 h447 (by decide) h448 ?_
              refine G_iadd_z hX d_Mo_readWindow_88 ?_
              refine G_aload_n hX 3 rfl rfl d_Mo_readWindow_89 ?_
              have h452 : F446 37 = .int (zI nm) := (k449 37 (by decide)).trans ((k442 37 (by decide)).trans ((k391 37 (by decide)).trans ((k367 37 (by decide)).trans ((k325 37 (by decide)).trans ((k261 37 (by decide)).trans hF37)))))
              refine M_get hX fg_Mo_407 d_Mo_readWindow_90 h447 (by decide) h452 ?_
              refine G_icmp_le_z hX (tgt := 102) d_Mo_readWindow_93 rfl (by omega) (fun c453 => by exfalso; omega) (fun c454 => ?_)
              refine G_aload_n hX 3 rfl rfl d_Mo_readWindow_96 ?_
              refine G_bipush hX (by decide) d_Mo_readWindow_97 ?_
              have h455 : F446 32 = .int (zI 0) := (k449 32 (by decide)).trans ((k442 32 (by decide)).trans h434)
              refine F_callV hX (st := []) (c_Mo_refuse E f445 F446 (-4) h447 (moK_fr hmk (FrF.tr (FrF.tr (FrF.tr (FrF.tr (FrF.tr (FrF.tr (FrF.rf (S := [30, 31, 39, 40, 41, 43])) k261 (by decide)) k325 (by decide)) k367 (by decide)) k391 (by decide)) k442 (by decide)) k449 (by decide)) (by decide)) h455) cm_Mo_refuse im_Mo_refuse se_Mo_refuse rfl ml_Mo_354 d_Mo_readWindow_99 (by decide) h447 rfl rfl (Nat.le_of_ble_eq_true rfl) (by decide) ?_
              rintro _ f456 ⟨rfl, F459, h460, h461, k462, k463⟩
              refine G_cast (st' := []) ?_ rfl rfl rfl rfl
              have h464 : F459 30 = .int (zI ((wZ g p e).2)) := (k462 30 (by decide)).trans ((k449 30 (by decide)).trans h444)
              have h465 : F459 31 = .int (zI (wE g p e)) := (k462 31 (by decide)).trans ((k449 31 (by decide)).trans ((k442 31 (by decide)).trans h393))
              refine G_loc (lv' := [(0, .ref (eA E 61)), (3, .int (zI (wk g p e)))]) [3, 2] rfl ?_
              exact join149 (-4) ((wZ g p e).2) (wE g p e) (wk g p e) F459 f456  (by decide) hdd (by omega) (by omega) h461 h464 h465 (FrF.tr (FrF.tr (FrF.tr (FrF.tr (FrF.tr (FrF.tr (FrF.tr FrF.rf k261 (by decide)) k325 (by decide)) k367 (by decide)) k391 (by decide)) k442 (by decide)) k449 (by decide)) k462 (by decide)) h460 (Fr.tr (Fr.tr (Fr.tr (Fr.tr (Fr.tr (Fr.tr (Fr.tr Fr.rf k262 (by decide)) k326 (by decide)) k368 (by decide)) k392 (by decide)) k443 (by decide)) k450 (by decide)) k463 (by decide))
            · skip
              refine M_put hX fg_Mo_389 fp_Mo_43 d_Mo_readWindow_77 h440 rfl rfl (by decide) (fun f466 F467 h468 h469 k470 k471 => ?_)
              refine G_aload_n hX 3 rfl rfl d_Mo_readWindow_80 ?_
              have h472 : F467 36 = .int (zI mc) := (k470 36 (by decide)).trans ((k442 36 (by decide)).trans ((k391 36 (by decide)).trans ((k367 36 (by decide)).trans ((k325 36 (by decide)).trans h313))))
              refine M_get hX fg_Mo_386 d_Mo_readWindow_81 h468 (by decide) h472 ?_
              refine G_aload_n hX 3 rfl rfl d_Mo_readWindow_84 ?_
              refine M_get hX fg_Mo_389 d_Mo_readWindow_85 h468 (by decide) h469 ?_
              refine G_iadd_z hX d_Mo_readWindow_88 ?_
              refine G_aload_n hX 3 rfl rfl d_Mo_readWindow_89 ?_
              have h473 : F467 37 = .int (zI nm) := (k470 37 (by decide)).trans ((k442 37 (by decide)).trans ((k391 37 (by decide)).trans ((k367 37 (by decide)).trans ((k325 37 (by decide)).trans ((k261 37 (by decide)).trans hF37)))))
              refine M_get hX fg_Mo_407 d_Mo_readWindow_90 h468 (by decide) h473 ?_
              refine G_icmp_le_z hX (tgt := 102) d_Mo_readWindow_93 rfl (by omega) (fun c474 => ?_) (fun c475 => by exfalso; omega)
              by_cases qe : (wZ g p e).2 < wE g p e
              · skip
                have hq9 : wQ g p e = g (wZ g p e).2 := nxV_lt qe
                have hqb := hG (wZ g p e).2
                have hnz := nxP_lt qe
                refine G_aload_n hX 3 rfl rfl d_Mo_readWindow_102 ?_
                have h476 : F467 30 = .int (zI ((wZ g p e).2)) := (k470 30 (by decide)).trans h444
                have h477 : F467 31 = .int (zI (wE g p e)) := (k470 31 (by decide)).trans ((k442 31 (by decide)).trans h393)
                have h478 : F467 32 = .int (zI 0) := (k470 32 (by decide)).trans ((k442 32 (by decide)).trans h434)
                have h479 : f466 63 = iz E 1600 b := (k471 63 (by decide)).trans ((k443 63 (by decide)).trans h435)
                refine F_callV hX (st := []) (c_Mo_readByte_ok E f466 F467 ((wZ g p e).2) (wE g p e) b g sE h468 (moK_fr hmk (FrF.tr (FrF.tr (FrF.tr (FrF.tr (FrF.tr (FrF.tr (FrF.rf (S := [30, 31, 39, 40, 41, 43])) k261 (by decide)) k325 (by decide)) k367 (by decide)) k391 (by decide)) k442 (by decide)) k470 (by decide)) (by decide)) h476 h477 h478 h479 hG hgb (by omega)) cm_Mo_readByte im_Mo_readByte se_Mo_readByte rfl ml_Mo_357 d_Mo_readWindow_103 (by decide) h468 rfl rfl (Nat.le_of_ble_eq_true rfl) (by decide) ?_
                rintro _ f480 ⟨rfl, F483, h484, h485, k486, k487⟩
                refine G_cast (st' := [.int (zI (g ((wZ g p e).2)))]) ?_ rfl rfl rfl rfl
                refine G_top (show zI (g ((wZ g p e).2)) = zI (wQ g p e) from congrArg zI hq9.symm) ?_
                have h488 : F483 30 = .int (zI (nxP (wZ g p e).2 (wE g p e))) := h485.trans (congrArg (fun z => Value.int (zI z)) (hnz.symm))
                by_cases hc6 : 0 < wQ g p e ∧ ¬ wQ g p e % 8 = 0
                · skip
                  have hda : hdA g p e mc oc nm = -3 := by unfold hdA; rw [if_neg hc1, if_neg hc2, if_neg hc3, if_neg hc4, if_neg hc5, if_pos hc6]
                  have hdd : (if ¬ hdA g p e mc oc nm = 0 then hdA g p e mc oc nm else mkE (hdK g p e mc) (mkF (hdK g p e mc) g t old N S m)) = -3 := by rw [hda]; exact if_pos (by decide)
                  refine G_istore hX (lv' := [(6, .int (zI (wQ g p e))), (5, .int (zI ((wY g p e).1))), (4, .int (zI e)), (3, .int (zI (wk g p e))), (0, .ref (eA E 61)), (1, .int (zI N)), (2, .int (zI S))]) (by decide) rfl d_Mo_readWindow_106 ?_
                  refine G_iload hX 0 rfl d_Mo_readWindow_108 ?_
                  refine G_if_le_z hX (tgt := 132) d_Mo_readWindow_110 rfl (by omega) (fun c489 => by exfalso; omega) (fun c490 => ?_)
                  refine G_aload_n hX 4 rfl rfl d_Mo_readWindow_113 ?_
                  refine G_iload hX 0 rfl d_Mo_readWindow_114 ?_
                  refine G_bipush hX (by decide) d_Mo_readWindow_116 ?_
                  refine G_iand hX d_Mo_readWindow_118 ?_
                  refine G_top (show (zI (wQ g p e) &&& zI 7) = zI (wQ g p e % 8) from zI_and7 _) ?_
                  refine G_if_le_z hX (tgt := 127) d_Mo_readWindow_119 rfl (by omega) (fun c491 => by exfalso; omega) (fun c492 => ?_)
                  refine G_bipush hX (by decide) d_Mo_readWindow_122 ?_
                  refine G_goto hX (tgt := 129) d_Mo_readWindow_124 rfl ?_
                  have h493 : F483 32 = .int (zI 0) := (k486 32 (by decide)).trans h478
                  refine F_callV hX (st := []) (c_Mo_refuse E f480 F483 (-3) h484 (moK_fr hmk (FrF.tr (FrF.tr (FrF.tr (FrF.tr (FrF.tr (FrF.tr (FrF.tr (FrF.rf (S := [30, 31, 39, 40, 41, 43])) k261 (by decide)) k325 (by decide)) k367 (by decide)) k391 (by decide)) k442 (by decide)) k470 (by decide)) k486 (by decide)) (by decide)) h493) cm_Mo_refuse im_Mo_refuse se_Mo_refuse rfl ml_Mo_354 d_Mo_readWindow_129 (by decide) h484 rfl rfl (Nat.le_of_ble_eq_true rfl) (by decide) ?_
                  rintro _ f494 ⟨rfl, F497, h498, h499, k500, k501⟩
                  refine G_cast (st' := []) ?_ rfl rfl rfl rfl
                  have h502 : F497 30 = .int (zI (nxP (wZ g p e).2 (wE g p e))) := (k500 30 (by decide)).trans h488
                  have h503 : F497 31 = .int (zI (wE g p e)) := (k500 31 (by decide)).trans ((k486 31 (by decide)).trans h477)
                  refine G_loc (lv' := [(0, .ref (eA E 61)), (3, .int (zI (wk g p e)))]) [4, 3] rfl ?_
                  exact join106 (-3) (nxP (wZ g p e).2 (wE g p e)) (wE g p e) (wk g p e) F497 f494  (by decide) hdd (by rw [hnz]; omega) (by omega) h499 h502 h503 (FrF.tr (FrF.tr (FrF.tr (FrF.tr (FrF.tr (FrF.tr (FrF.tr (FrF.tr FrF.rf k261 (by decide)) k325 (by decide)) k367 (by decide)) k391 (by decide)) k442 (by decide)) k470 (by decide)) k486 (by decide)) k500 (by decide)) h498 (Fr.tr (Fr.tr (Fr.tr (Fr.tr (Fr.tr (Fr.tr (Fr.tr (Fr.tr Fr.rf k262 (by decide)) k326 (by decide)) k368 (by decide)) k392 (by decide)) k443 (by decide)) k471 (by decide)) k487 (by decide)) k501 (by decide))
                · skip
                  by_cases hc7 : ¬ wQ g p e = 0
                  · skip
                    have hda : hdA g p e mc oc nm = -2 := by unfold hdA; rw [if_neg hc1, if_neg hc2, if_neg hc3, if_neg hc4, if_neg hc5, if_neg hc6, if_pos hc7]
                    have hdd : (if ¬ hdA g p e mc oc nm = 0 then hdA g p e mc oc nm else mkE (hdK g p e mc) (mkF (hdK g p e mc) g t old N S m)) = -2 := by rw [hda]; exact if_pos (by decide)
                    refine G_istore hX (lv' := [(6, .int (zI (wQ g p e))), (5, .int (zI ((wY g p e).1))), (4, .int (zI e)), (3, .int (zI (wk g p e))), (0, .ref (eA E 61)), (1, .int (zI N)), (2, .int (zI S))]) (by decide) rfl d_Mo_readWindow_106 ?_
                    refine G_iload hX 0 rfl d_Mo_readWindow_108 ?_
                    refine G_if_le_z hX (tgt := 132) d_Mo_readWindow_110 rfl (by omega) (fun c504 => by exfalso; omega) (fun c505 => ?_)
                    refine G_aload_n hX 4 rfl rfl d_Mo_readWindow_113 ?_
                    refine G_iload hX 0 rfl d_Mo_readWindow_114 ?_
                    refine G_bipush hX (by decide) d_Mo_readWindow_116 ?_
                    refine G_iand hX d_Mo_readWindow_118 ?_
                    refine G_top (show (zI (wQ g p e) &&& zI 7) = zI (wQ g p e % 8) from zI_and7 _) ?_
                    refine G_if_le_z hX (tgt := 127) d_Mo_readWindow_119 rfl (by omega) (fun c506 => ?_) (fun c507 => by exfalso; omega)
                    refine G_bipush hX (by decide) d_Mo_readWindow_127 ?_
                    have h508 : F483 32 = .int (zI 0) := (k486 32 (by decide)).trans h478
                    refine F_callV hX (st := []) (c_Mo_refuse E f480 F483 (-2) h484 (moK_fr hmk (FrF.tr (FrF.tr (FrF.tr (FrF.tr (FrF.tr (FrF.tr (FrF.tr (FrF.rf (S := [30, 31, 39, 40, 41, 43])) k261 (by decide)) k325 (by decide)) k367 (by decide)) k391 (by decide)) k442 (by decide)) k470 (by decide)) k486 (by decide)) (by decide)) h508) cm_Mo_refuse im_Mo_refuse se_Mo_refuse rfl ml_Mo_354 d_Mo_readWindow_129 (by decide) h484 rfl rfl (Nat.le_of_ble_eq_true rfl) (by decide) ?_
                    rintro _ f509 ⟨rfl, F512, h513, h514, k515, k516⟩
                    refine G_cast (st' := []) ?_ rfl rfl rfl rfl
                    have h517 : F512 30 = .int (zI (nxP (wZ g p e).2 (wE g p e))) := (k515 30 (by decide)).trans h488
                    have h518 : F512 31 = .int (zI (wE g p e)) := (k515 31 (by decide)).trans ((k486 31 (by decide)).trans h477)
                    refine G_loc (lv' := [(0, .ref (eA E 61)), (3, .int (zI (wk g p e)))]) [4, 3] rfl ?_
                    exact join106 (-2) (nxP (wZ g p e).2 (wE g p e)) (wE g p e) (wk g p e) F512 f509  (by decide) hdd (by rw [hnz]; omega) (by omega) h514 h517 h518 (FrF.tr (FrF.tr (FrF.tr (FrF.tr (FrF.tr (FrF.tr (FrF.tr (FrF.tr FrF.rf k261 (by decide)) k325 (by decide)) k367 (by decide)) k391 (by decide)) k442 (by decide)) k470 (by decide)) k486 (by decide)) k515 (by decide)) h513 (Fr.tr (Fr.tr (Fr.tr (Fr.tr (Fr.tr (Fr.tr (Fr.tr (Fr.tr Fr.rf k262 (by decide)) k326 (by decide)) k368 (by decide)) k392 (by decide)) k443 (by decide)) k471 (by decide)) k487 (by decide)) k516 (by decide))
                  · skip
                    have hq0 : wQ g p e = 0 := by omega
                    refine G_istore hX (lv' := [(6, .int (zI (wQ g p e))), (5, .int (zI ((wY g p e).1))), (4, .int (zI e)), (3, .int (zI (wk g p e))), (0, .ref (eA E 61)), (1, .int (zI N)), (2, .int (zI S))]) (by decide) rfl d_Mo_readWindow_106 ?_
                    refine G_iload hX 0 rfl d_Mo_readWindow_108 ?_
                    refine G_if_le_z hX (tgt := 132) d_Mo_readWindow_110 rfl (by omega) (fun c519 => ?_) (fun c520 => by exfalso; omega)
                    refine G_iconst hX d_Mo_readWindow_132 ?_
                    refine G_istore hX (lv' := [(7, .int (zI 0)), (6, .int (zI (wQ g p e))), (5, .int (zI ((wY g p e).1))), (4, .int (zI e)), (3, .int (zI (wk g p e))), (0, .ref (eA E 61)), (1, .int (zI N)), (2, .int (zI S))]) (by decide) rfl d_Mo_readWindow_133 ?_
                    refine G_iload hX 0 rfl d_Mo_readWindow_135 ?_
                    refine G_iconst hX d_Mo_readWindow_137 ?_
                    refine G_icmp_ge_z hX (tgt := 158) d_Mo_readWindow_138 rfl (by omega) (fun c521 => by exfalso; omega) (fun c522 => ?_)
                    refine G_aload_n hX 5 rfl rfl d_Mo_readWindow_141 ?_
                    have h523 : F483 45 = .ref (eA E 84) := (k486 45 (by decide)).trans ((k470 45 (by decide)).trans ((k442 45 (by decide)).trans ((k391 45 (by decide)).trans ((k367 45 (by decide)).trans ((k325 45 (by decide)).trans ((k261 45 (by decide)).trans (hmk 45 84 (by decide))))))))
                    refine M_get hX fg_Mo_148 d_Mo_readWindow_142 h484 (by decide) h523 ?_
                    refine G_iload hX 0 rfl d_Mo_readWindow_145 ?_
                    have hnz2 : nxP (wZ g p e).2 (wE g p e) ≤ wE g p e ∧ 0 ≤ nxP (wZ g p e).2 (wE g p e) := by rw [hnz]; omega
                    have hb_w1 : -1 ≤ (w1 g p e).1 ∧ (w1 g p e).1 < 268435456 ∧ nxP (wZ g p e).2 (wE g p e) ≤ (w1 g p e).2 ∧ (w1 g p e).2 ≤ wE g p e := numL_4 hG (by omega)
                    by_cases q_w1 : (w1 g p e).1 < 0
                    · skip
                      have hc8 : (w1 g p e).1 < 0 ∨ (w2 g p e).1 < 0 ∨ (w3 g p e).1 < 0 := by omega
                      have hda : hdA g p e mc oc nm = -2 := by unfold hdA; rw [if_neg hc1, if_neg hc2, if_neg hc3, if_neg hc4, if_neg hc5, if_neg hc6, if_neg hc7, if_pos hc8]
                      have hdd : (if ¬ hdA g p e mc oc nm = 0 then hdA g p e mc oc nm else mkE (hdK g p e mc) (mkF (hdK g p e mc) g t old N S m)) = -2 := by rw [hda]; exact if_pos (by decide)
                      refine G_aload_n hX 5 rfl rfl d_Mo_readWindow_147 ?_
                      have h524 : F483 31 = .int (zI (wE g p e)) := (k486 31 (by decide)).trans h477
                      have h525 : F483 32 = .int (zI 0) := (k486 32 (by decide)).trans h478
                      have h526 : f480 63 = iz E 1600 b := (k487 63 (by decide)).trans h479
                      refine F_callV hX (st := [.int (zI 0), .ref (eA E 84)]) (c_Mo_readNumber_no E f480 F483 (nxP (wZ g p e).2 (wE g p e)) (wE g p e) b g sE h484 (moK_fr hmk (FrF.tr (FrF.tr (FrF.tr (FrF.tr (FrF.tr (FrF.tr (FrF.tr (FrF.rf (S := [30, 31, 39, 40, 41, 43])) k261 (by decide)) k325 (by decide)) k367 (by decide)) k391 (by decide)) k442 (by decide)) k470 (by decide)) k486 (by decide)) (by decide)) h488 h524 h525 h526 hG hgb (by omega) q_w1) cm_Mo_readNumber im_Mo_readNumber se_Mo_readNumber rfl ml_Mo_401 d_Mo_readWindow_148 (by decide) h484 rfl rfl (Nat.le_of_ble_eq_true rfl) (by decide) ?_
                      rintro _ f527 ⟨F530, r'_531, p'_532, rfl, h533, h534, h535, k536, p537, k538⟩
                      refine G_cast (st' := [.int (zI r'_531), .int (zI 0), .ref (eA E 84)]) ?_ rfl rfl rfl rfl
                      have h539 : f527 84 = iz E 3 ev := (k538 84 (by decide)).trans ((k487 84 (by decide)).trans ((k471 84 (by decide)).trans ((k443 84 (by decide)).trans ((k392 84 (by decide)).trans ((k368 84 (by decide)).trans ((k326 84 (by decide)).trans ((k262 84 (by decide)).trans hc84)))))))
                      refine F_iast hX d_Mo_readWindow_151 84 (by decide) h539 (by omega) (fun f540 h541 k542 => ?_)
                      refine G_iinc_z hX (lv' := [(7, .int (zI (0 + 1))), (6, .int (zI (wQ g p e))), (5, .int (zI ((wY g p e).1))), (4, .int (zI e)), (3, .int (zI (wk g p e))), (0, .ref (eA E 61)), (1, .int (zI N)), (2, .int (zI S))]) 0 rfl (by decide) rfl d_Mo_readWindow_152 ?_
                      refine G_goto hX (tgt := 135) d_Mo_readWindow_155 rfl ?_
                      refine G_iload hX 0 rfl d_Mo_readWindow_135 ?_
                      refine G_iconst hX d_Mo_readWindow_137 ?_
                      refine G_icmp_ge_z hX (tgt := 158) d_Mo_readWindow_138 rfl (by omega) (fun c543 => by exfalso; omega) (fun c544 => ?_)
                      refine G_aload_n hX 5 rfl rfl d_Mo_readWindow_141 ?_
                      have h545 : f540 61 = mob F530 := (k542 61 (by decide)).trans h533
                      have h546 : F530 45 = .ref (eA E 84) := (k536 45 (by decide)).trans h523
                      refine M_get hX fg_Mo_148 d_Mo_readWindow_142 h545 (by decide) h546 ?_
                      refine G_iload hX 0 rfl d_Mo_readWindow_145 ?_
                      refine G_aload_n hX 5 rfl rfl d_Mo_readWindow_147 ?_
                      refine F_callV hX (st := [.int (zI (0 + 1)), .ref (eA E 84)]) (c_Mo_readNumber_f E f540 F530 (-2) h545 (moK_fr hmk (FrF.tr (FrF.tr (FrF.tr (FrF.tr (FrF.tr (FrF.tr (FrF.tr (FrF.tr (FrF.rf (S := [30, 31, 32, 39, 40, 41, 43])) k261 (by decide)) k325 (by decide)) k367 (by decide)) k391 (by decide)) k442 (by decide)) k470 (by decide)) k486 (by decide)) k536 (by decide)) (by decide)) h535 (by omega)) cm_Mo_readNumber im_Mo_readNumber se_Mo_readNumber rfl ml_Mo_401 d_Mo_readWindow_148 (by decide) h545 rfl rfl (Nat.le_of_ble_eq_true rfl) (by decide) ?_
                      rintro _ f547 ⟨rfl, e550⟩
                      obtain rfl := e550.symm
                      refine G_cast (st' := [.int (zI 0), .int (zI (0 + 1)), .ref (eA E 84)]) ?_ rfl rfl rfl rfl
                      refine F_iast hX d_Mo_readWindow_151 84 (by decide) h541 (by omega) (fun f551 h552 k553 => ?_)
                      refine G_iinc_z hX (lv' := [(7, .int (zI ((0 + 1) + 1))), (6, .int (zI (wQ g p e))), (5, .int (zI ((wY g p e).1))), (4, .int (zI e)), (3, .int (zI (wk g p e))), (0, .ref (eA E 61)), (1, .int (zI N)), (2, .int (zI S))]) 0 rfl (by decide) rfl d_Mo_readWindow_152 ?_
                      refine G_goto hX (tgt := 135) d_Mo_readWindow_155 rfl ?_
                      refine G_iload hX 0 rfl d_Mo_readWindow_135 ?_
                      refine G_iconst hX d_Mo_readWindow_137 ?_
                      refine G_icmp_ge_z hX (tgt := 158) d_Mo_readWindow_138 rfl (by omega) (fun c554 => by exfalso; omega) (fun c555 => ?_)
                      refine G_aload_n hX 5 rfl rfl d_Mo_readWindow_141 ?_
                      have h556 : f551 61 = mob F530 := (k553 61 (by decide)).trans h545
                      refine M_get hX fg_Mo_148 d_Mo_readWindow_142 h556 (by decide) h546 ?_
                      refine G_iload hX 0 rfl d_Mo_readWindow_145 ?_
                      refine G_aload_n hX 5 rfl rfl d_Mo_readWindow_147 ?_
                      refine F_callV hX (st := [.int (zI ((0 + 1) + 1)), .ref (eA E 84)]) (c_Mo_readNumber_f E f551 F530 (-2) h556 (moK_fr hmk (FrF.tr (FrF.tr (FrF.tr (FrF.tr (FrF.tr (FrF.tr (FrF.tr (FrF.tr (FrF.rf (S := [30, 31, 32, 39, 40, 41, 43])) k261 (by decide)) k325 (by decide)) k367 (by decide)) k391 (by decide)) k442 (by decide)) k470 (by decide)) k486 (by decide)) k536 (by decide)) (by decide)) h535 (by omega)) cm_Mo_readNumber im_Mo_readNumber se_Mo_readNumber rfl ml_Mo_401 d_Mo_readWindow_148 (by decide) h556 rfl rfl (Nat.le_of_ble_eq_true rfl) (by decide) ?_
                      rintro _ f557 ⟨rfl, e560⟩
                      obtain rfl := e560.symm
                      refine G_cast (st' := [.int (zI 0), .int (zI ((0 + 1) + 1)), .ref (eA E 84)]) ?_ rfl rfl rfl rfl
                      refine F_iast hX d_Mo_readWindow_151 84 (by decide) h552 (by omega) (fun f561 h562 k563 => ?_)
                      refine G_iinc_z hX (lv' := [(7, .int (zI (((0 + 1) + 1) + 1))), (6, .int (zI (wQ g p e))), (5, .int (zI ((wY g p e).1))), (4, .int (zI e)), (3, .int (zI (wk g p e))), (0, .ref (eA E 61)), (1, .int (zI N)), (2, .int (zI S))]) 0 rfl (by decide) rfl d_Mo_readWindow_152 ?_
                      refine G_goto hX (tgt := 135) d_Mo_readWindow_155 rfl ?_
                      refine G_iload hX 0 rfl d_Mo_readWindow_135 ?_
                      refine G_iconst hX d_Mo_readWindow_137 ?_
                      refine G_icmp_ge_z hX (tgt := 158) d_Mo_readWindow_138 rfl (by omega) (fun c564 => ?_) (fun c565 => by exfalso; omega)
                      have h566 : F530 31 = .int (zI (wE g p e)) := (k536 31 (by decide)).trans h524
                      have h567 : f561 61 = mob F530 := (k563 61 (by decide)).trans h556
                      refine G_loc (lv' := [(0, .ref (eA E 61)), (3, .int (zI (wk g p e)))]) [5, 4] rfl ?_
                      exact join34 (-2) p'_532 (wE g p e) (wk g p e) (uz (uz (uz ev 0 r'_531) (0 + 1) 0) ((0 + 1) + 1) 0) F530 f561  (by decide) hdd (by omega) (by omega) h535 h534 h566 (FrF.tr (FrF.tr (FrF.tr (FrF.tr (FrF.tr (FrF.tr (FrF.tr (FrF.tr FrF.rf k261 (by decide)) k325 (by decide)) k367 (by decide)) k391 (by decide)) k442 (by decide)) k470 (by decide)) k486 (by decide)) k536 (by decide)) h562 h567 (Fr.tr (Fr.tr (Fr.tr (Fr.tr (Fr.tr (Fr.tr (Fr.tr (Fr.tr (Fr.tr (Fr.tr (Fr.tr Fr.rf k262 (by decide)) k326 (by decide)) k368 (by decide)) k392 (by decide)) k443 (by decide)) k471 (by decide)) k487 (by decide)) k538 (by decide)) k542 (by decide)) k553 (by decide)) k563 (by decide))
                    · skip
                      refine G_aload_n hX 5 rfl rfl d_Mo_readWindow_147 ?_
                      have h568 : F483 31 = .int (zI (wE g p e)) := (k486 31 (by decide)).trans h477
                      have h569 : F483 32 = .int (zI 0) := (k486 32 (by decide)).trans h478
                      have h570 : f480 63 = iz E 1600 b := (k487 63 (by decide)).trans h479
                      refine F_callV hX (st := [.int (zI 0), .ref (eA E 84)]) (c_Mo_readNumber_ok E f480 F483 (nxP (wZ g p e).2 (wE g p e)) (wE g p e) b g sE h484 (moK_fr hmk (FrF.tr (FrF.tr (FrF.tr (FrF.tr (FrF.tr (FrF.tr (FrF.tr (FrF.rf (S := [30, 31, 39, 40, 41, 43])) k261 (by decide)) k325 (by decide)) k367 (by decide)) k391 (by decide)) k442 (by decide)) k470 (by decide)) k486 (by decide)) (by decide)) h488 h568 h569 h570 hG hgb (by omega) (show 0 ≤ (w1 g p e).1 by omega)) cm_Mo_readNumber im_Mo_readNumber se_Mo_readNumber rfl ml_Mo_401 d_Mo_readWindow_148 (by decide) h484 rfl rfl (Nat.le_of_ble_eq_true rfl) (by decide) ?_
                      rintro _ f571 ⟨rfl, F574, h575, h576, k577, k578⟩
                      refine G_cast (st' := [.int (zI ((numL g (wE g p e) 4 (nxP (wZ g p e).2 (wE g p e)) 0).1)), .int (zI 0), .ref (eA E 84)]) ?_ rfl rfl rfl rfl
                      refine G_top (show zI ((numL g (wE g p e) 4 (nxP (wZ g p e).2 (wE g p e)) 0).1) = zI ((w1 g p e).1) from rfl) ?_
                      have h579 : F574 30 = .int (zI ((w1 g p e).2)) := h576.trans (congrArg (fun z => Value.int (zI z)) (rfl))
                      have h580 : f571 84 = iz E 3 ev := (k578 84 (by decide)).trans ((k487 84 (by decide)).trans ((k471 84 (by decide)).trans ((k443 84 (by decide)).trans ((k392 84 (by decide)).trans ((k368 84 (by decide)).trans ((k326 84 (by decide)).trans ((k262 84 (by decide)).trans hc84)))))))
                      refine F_iast hX d_Mo_readWindow_151 84 (by decide) h580 (by omega) (fun f581 h582 k583 => ?_)
                      refine G_iinc_z hX (lv' := [(7, .int (zI (0 + 1))), (6, .int (zI (wQ g p e))), (5, .int (zI ((wY g p e).1))), (4, .int (zI e)), (3, .int (zI (wk g p e))), (0, .ref (eA E 61)), (1, .int (zI N)), (2, .int (zI S))]) 0 rfl (by decide) rfl d_Mo_readWindow_152 ?_
                      refine G_goto hX (tgt := 135) d_Mo_readWindow_155 rfl ?_
                      refine G_iload hX 0 rfl d_Mo_readWindow_135 ?_
                      refine G_iconst hX d_Mo_readWindow_137 ?_
                      refine G_icmp_ge_z hX (tgt := 158) d_Mo_readWindow_138 rfl (by omega) (fun c584 => by exfalso; omega) (fun c585 => ?_)
                      refine G_aload_n hX 5 rfl rfl d_Mo_readWindow_141 ?_
                      have h586 : f581 61 = mob F574 := (k583 61 (by decide)).trans h575
                      have h587 : F574 45 = .ref (eA E 84) := (k577 45 (by decide)).trans h523
                      refine M_get hX fg_Mo_148 d_Mo_readWindow_142 h586 (by decide) h587 ?_
                      refine G_iload hX 0 rfl d_Mo_readWindow_145 ?_
                      have hb_w2 : -1 ≤ (w2 g p e).1 ∧ (w2 g p e).1 < 268435456 ∧ (w1 g p e).2 ≤ (w2 g p e).2 ∧ (w2 g p e).2 ≤ wE g p e := numL_4 hG (by omega)
                      by_cases q_w2 : (w2 g p e).1 < 0
                      · skip
                        have hc8 : (w1 g p e).1 < 0 ∨ (w2 g p e).1 < 0 ∨ (w3 g p e).1 < 0 := by omega
                        have hda : hdA g p e mc oc nm = -2 := by unfold hdA; rw [if_neg hc1, if_neg hc2, if_neg hc3, if_neg hc4, if_neg hc5, if_neg hc6, if_neg hc7, if_pos hc8]
                        have hdd : (if ¬ hdA g p e mc oc nm = 0 then hdA g p e mc oc nm else mkE (hdK g p e mc) (mkF (hdK g p e mc) g t old N S m)) = -2 := by rw [hda]; exact if_pos (by decide)
                        refine G_aload_n hX 5 rfl rfl d_Mo_readWindow_147 ?_
                        have h588 : F574 31 = .int (zI (wE g p e)) := (k577 31 (by decide)).trans h568
                        have h589 : F574 32 = .int (zI 0) := (k577 32 (by decide)).trans h569
                        have h590 : f581 63 = iz E 1600 b := (k583 63 (by decide)).trans ((k578 63 (by decide)).trans h570)
                        refine F_callV hX (st := [.int (zI (0 + 1)), .ref (eA E 84)]) (c_Mo_readNumber_no E f581 F574 ((w1 g p e).2) (wE g p e) b g sE h586 (moK_fr hmk (FrF.tr (FrF.tr (FrF.tr (FrF.tr (FrF.tr (FrF.tr (FrF.tr (FrF.tr (FrF.rf (S := [30, 31, 39, 40, 41, 43])) k261 (by decide)) k325 (by decide)) k367 (by decide)) k391 (by decide)) k442 (by decide)) k470 (by decide)) k486 (by decide)) k577 (by decide)) (by decide)) h579 h588 h589 h590 hG hgb (by omega) q_w2) cm_Mo_readNumber im_Mo_readNumber se_Mo_readNumber rfl ml_Mo_401 d_Mo_readWindow_148 (by decide) h586 rfl rfl (Nat.le_of_ble_eq_true rfl) (by decide) ?_
                        rintro _ f591 ⟨F594, r'_595, p'_596, rfl, h597, h598, h599, k600, p601, k602⟩
                        refine G_cast (st' := [.int (zI r'_595), .int (zI (0 + 1)), .ref (eA E 84)]) ?_ rfl rfl rfl rfl
                        have h603 : f591 84 = iz E 3 (uz ev 0 ((w1 g p e).1)) := (k602 84 (by decide)).trans h582
                        refine F_iast hX d_Mo_readWindow_151 84 (by decide) h603 (by omega) (fun f604 h605 k606 => ?_)
                        refine G_iinc_z hX (lv' := [(7, .int (zI ((0 + 1) + 1))), (6, .int (zI (wQ g p e))), (5, .int (zI ((wY g p e).1))), (4, .int (zI e)), (3, .int (zI (wk g p e))), (0, .ref (eA E 61)), (1, .int (zI N)), (2, .int (zI S))]) 0 rfl (by decide) rfl d_Mo_readWindow_152 ?_
                        refine G_goto hX (tgt := 135) d_Mo_readWindow_155 rfl ?_
                        refine G_iload hX 0 rfl d_Mo_readWindow_135 ?_
                        refine G_iconst hX d_Mo_readWindow_137 ?_
                        refine G_icmp_ge_z hX (tgt := 158) d_Mo_readWindow_138 rfl (by omega) (fun c607 => by exfalso; omega) (fun c608 => ?_)
                        refine G_aload_n hX 5 rfl rfl d_Mo_readWindow_141 ?_
                        have h609 : f604 61 = mob F594 := (k606 61 (by decide)).trans h597
                        have h610 : F594 45 = .ref (eA E 84) := (k600 45 (by decide)).trans h587
                        refine M_get hX fg_Mo_148 d_Mo_readWindow_142 h609 (by decide) h610 ?_
                        refine G_iload hX 0 rfl d_Mo_readWindow_145 ?_
                        refine G_aload_n hX 5 rfl rfl d_Mo_readWindow_147 ?_
                        refine F_callV hX (st := [.int (zI ((0 + 1) + 1)), .ref (eA E 84)]) (c_Mo_readNumber_f E f604 F594 (-2) h609 (moK_fr hmk (FrF.tr (FrF.tr (FrF.tr (FrF.tr (FrF.tr (FrF.tr (FrF.tr (FrF.tr (FrF.tr (FrF.rf (S := [30, 31, 32, 39, 40, 41, 43])) k261 (by decide)) k325 (by decide)) k367 (by decide)) k391 (by decide)) k442 (by decide)) k470 (by decide)) k486 (by decide)) k577 (by decide)) k600 (by decide)) (by decide)) h599 (by omega)) cm_Mo_readNumber im_Mo_readNumber se_Mo_readNumber rfl ml_Mo_401 d_Mo_readWindow_148 (by decide) h609 rfl rfl (Nat.le_of_ble_eq_true rfl) (by decide) ?_
                        rintro _ f611 ⟨rfl, e614⟩
                        obtain rfl := e614.symm
                        refine G_cast (st' := [.int (zI 0), .int (zI ((0 + 1) + 1)), .ref (eA E 84)]) ?_ rfl rfl rfl rfl
                        refine F_iast hX d_Mo_readWindow_151 84 (by decide) h605 (by omega) (fun f615 h616 k617 => ?_)
                        refine G_iinc_z hX (lv' := [(7, .int (zI (((0 + 1) + 1) + 1))), (6, .int (zI (wQ g p e))), (5, .int (zI ((wY g p e).1))), (4, .int (zI e)), (3, .int (zI (wk g p e))), (0, .ref (eA E 61)), (1, .int (zI N)), (2, .int (zI S))]) 0 rfl (by decide) rfl d_Mo_readWindow_152 ?_
                        refine G_goto hX (tgt := 135) d_Mo_readWindow_155 rfl ?_
                        refine G_iload hX 0 rfl d_Mo_readWindow_135 ?_
                        refine G_iconst hX d_Mo_readWindow_137 ?_
                        refine G_icmp_ge_z hX (tgt := 158) d_Mo_readWindow_138 rfl (by omega) (fun c618 => ?_) (fun c619 => by exfalso; omega)
                        have h620 : F594 31 = .int (zI (wE g p e)) := (k600 31 (by decide)).trans h588
                        have h621 : f615 61 = mob F594 := (k617 61 (by decide)).trans h609
                        refine G_loc (lv' := [(0, .ref (eA E 61)), (3, .int (zI (wk g p e)))]) [5, 4] rfl ?_
                        exact join34 (-2) p'_596 (wE g p e) (wk g p e) (uz (uz (uz ev 0 ((w1 g p e).1)) (0 + 1) r'_595) ((0 + 1) + 1) 0) F594 f615  (by decide) hdd (by omega) (by omega) h599 h598 h620 (FrF.tr (FrF.tr (FrF.tr (FrF.tr (FrF.tr (FrF.tr (FrF.tr (FrF.tr (FrF.tr FrF.rf k261 (by decide)) k325 (by decide)) k367 (by decide)) k391 (by decide)) k442 (by decide)) k470 (by decide)) k486 (by decide)) k577 (by decide)) k600 (by decide)) h616 h621 (Fr.tr (Fr.tr (Fr.tr (Fr.tr (Fr.tr (Fr.tr (Fr.tr (Fr.tr (Fr.tr (Fr.tr (Fr.tr (Fr.tr Fr.rf k262 (by decide)) k326 (by decide)) k368 (by decide)) k392 (by decide)) k443 (by decide)) k471 (by decide)) k487 (by decide)) k578 (by decide)) k583 (by decide)) k602 (by decide)) k606 (by decide)) k617 (by decide))
                      · skip
                        refine G_aload_n hX 5 rfl rfl d_Mo_readWindow_147 ?_
                        have h622 : F574 31 = .int (zI (wE g p e)) := (k577 31 (by decide)).trans h568
                        have h623 : F574 32 = .int (zI 0) := (k577 32 (by decide)).trans h569
                        have h624 : f581 63 = iz E 1600 b := (k583 63 (by decide)).trans ((k578 63 (by decide)).trans h570)
                        refine F_callV hX (st := [.int (zI (0 + 1)), .ref (eA E 84)]) (c_Mo_readNumber_ok E f581 F574 ((w1 g p e).2) (wE g p e) b g sE h586 (moK_fr hmk (FrF.tr (FrF.tr (FrF.tr (FrF.tr (FrF.tr (FrF.tr (FrF.tr (FrF.tr (FrF.rf (S := [30, 31, 39, 40, 41, 43])) k261 (by decide)) k325 (by decide)) k367 (by decide)) k391 (by decide)) k442 (by decide)) k470 (by decide)) k486 (by decide)) k577 (by decide)) (by decide)) h579 h622 h623 h624 hG hgb (by omega) (show 0 ≤ (w2 g p e).1 by omega)) cm_Mo_readNumber im_Mo_readNumber se_Mo_readNumber rfl ml_Mo_401 d_Mo_readWindow_148 (by decide) h586 rfl rfl (Nat.le_of_ble_eq_true rfl) (by decide) ?_
                        rintro _ f625 ⟨rfl, F628, h629, h630, k631, k632⟩
                        refine G_cast (st' := [.int (zI ((numL g (wE g p e) 4 ((w1 g p e).2) 0).1)), .int (zI (0 + 1)), .ref (eA E 84)]) ?_ rfl rfl rfl rfl
                        refine G_top (show zI ((numL g (wE g p e) 4 ((w1 g p e).2) 0).1) = zI ((w2 g p e).1) from rfl) ?_
                        have h633 : F628 30 = .int (zI ((w2 g p e).2)) := h630.trans (congrArg (fun z => Value.int (zI z)) (rfl))
                        have h634 : f625 84 = iz E 3 (uz ev 0 ((w1 g p e).1)) := (k632 84 (by decide)).trans h582
                        refine F_iast hX d_Mo_readWindow_151 84 (by decide) h634 (by omega) (fun f635 h636 k637 => ?_)
                        refine G_iinc_z hX (lv' := [(7, .int (zI ((0 + 1) + 1))), (6, .int (zI (wQ g p e))), (5, .int (zI ((wY g p e).1))), (4, .int (zI e)), (3, .int (zI (wk g p e))), (0, .ref (eA E 61)), (1, .int (zI N)), (2, .int (zI S))]) 0 rfl (by decide) rfl d_Mo_readWindow_152 ?_
                        refine G_goto hX (tgt := 135) d_Mo_readWindow_155 rfl ?_
                        refine G_iload hX 0 rfl d_Mo_readWindow_135 ?_
                        refine G_iconst hX d_Mo_readWindow_137 ?_
                        refine G_icmp_ge_z hX (tgt := 158) d_Mo_readWindow_138 rfl (by omega) (fun c638 => by exfalso; omega) (fun c639 => ?_)
                        refine G_aload_n hX 5 rfl rfl d_Mo_readWindow_141 ?_
                        have h640 : f635 61 = mob F628 := (k637 61 (by decide)).trans h629
                        have h641 : F628 45 = .ref (eA E 84) := (k631 45 (by decide)).trans h587
                        refine M_get hX fg_Mo_148 d_Mo_readWindow_142 h640 (by decide) h641 ?_
                        refine G_iload hX 0 rfl d_Mo_readWindow_145 ?_
                        have hb_w3 : -1 ≤ (w3 g p e).1 ∧ (w3 g p e).1 < 268435456 ∧ (w2 g p e).2 ≤ (w3 g p e).2 ∧ (w3 g p e).2 ≤ wE g p e := numL_4 hG (by omega)
                        by_cases q_w3 : (w3 g p e).1 < 0
                        · skip
                          have hc8 : (w1 g p e).1 < 0 ∨ (w2 g p e).1 < 0 ∨ (w3 g p e).1 < 0 := by omega
                          have hda : hdA g p e mc oc nm = -2 := by unfold hdA; rw [if_neg hc1, if_neg hc2, if_neg hc3, if_neg hc4, if_neg hc5, if_neg hc6, if_neg hc7, if_pos hc8]
                          have hdd : (if ¬ hdA g p e mc oc nm = 0 then hdA g p e mc oc nm else mkE (hdK g p e mc) (mkF (hdK g p e mc) g t old N S m)) = -2 := by rw [hda]; exact if_pos (by decide)
                          refine G_aload_n hX 5 rfl rfl d_Mo_readWindow_147 ?_
                          have h642 : F628 31 = .int (zI (wE g p e)) := (k631 31 (by decide)).trans h622
                          have h643 : F628 32 = .int (zI 0) := (k631 32 (by decide)).trans h623
                          have h644 : f635 63 = iz E 1600 b := (k637 63 (by decide)).trans ((k632 63 (by decide)).trans h624)
                          refine F_callV hX (st := [.int (zI ((0 + 1) + 1)), .ref (eA E 84)]) (c_Mo_readNumber_no E f635 F628 ((w2 g p e).2) (wE g p e) b g sE h640 (moK_fr hmk (FrF.tr (FrF.tr (FrF.tr (FrF.tr (FrF.tr (FrF.tr (FrF.tr (FrF.tr (FrF.tr (FrF.rf (S := [30, 31, 39, 40, 41, 43])) k261 (by decide)) k325 (by decide)) k367 (by decide)) k391 (by decide)) k442 (by decide)) k470 (by decide)) k486 (by decide)) k577 (by decide)) k631 (by decide)) (by decide)) h633 h642 h643 h644 hG hgb (by omega) q_w3) cm_Mo_readNumber im_Mo_readNumber se_Mo_readNumber rfl ml_Mo_401 d_Mo_readWindow_148 (by decide) h640 rfl rfl (Nat.le_of_ble_eq_true rfl) (by decide) ?_
                          rintro _ f645 ⟨F648, r'_649, p'_650, rfl, h651, h652, h653, k654, p655, k656⟩
                          refine G_cast (st' := [.int (zI r'_649), .int (zI ((0 + 1) + 1)), .ref (eA E 84)]) ?_ rfl rfl rfl rfl
                          have h657 : f645 84 = iz E 3 (uz (uz ev 0 ((w1 g p e).1)) (0 + 1) ((w2 g p e).1)) := (k656 84 (by decide)).trans h636
                          refine F_iast hX d_Mo_readWindow_151 84 (by decide) h657 (by omega) (fun f658 h659 k660 => ?_)
                          refine G_iinc_z hX (lv' := [(7, .int (zI (((0 + 1) + 1) + 1))), (6, .int (zI (wQ g p e))), (5, .int (zI ((wY g p e).1))), (4, .int (zI e)), (3, .int (zI (wk g p e))), (0, .ref (eA E 61)), (1, .int (zI N)), (2, .int (zI S))]) 0 rfl (by decide) rfl d_Mo_readWindow_152 ?_
                          refine G_goto hX (tgt := 135) d_Mo_readWindow_155 rfl ?_
                          refine G_iload hX 0 rfl d_Mo_readWindow_135 ?_
                          refine G_iconst hX d_Mo_readWindow_137 ?_
                          refine G_icmp_ge_z hX (tgt := 158) d_Mo_readWindow_138 rfl (by omega) (fun c661 => ?_) (fun c662 => by exfalso; omega)
                          have h663 : F648 31 = .int (zI (wE g p e)) := (k654 31 (by decide)).trans h642
                          have h664 : f658 61 = mob F648 := (k660 61 (by decide)).trans h651
                          refine G_loc (lv' := [(0, .ref (eA E 61)), (3, .int (zI (wk g p e)))]) [5, 4] rfl ?_
                          exact join34 (-2) p'_650 (wE g p e) (wk g p e) (uz (uz (uz ev 0 ((w1 g p e).1)) (0 + 1) ((w2 g p e).1)) ((0 + 1) + 1) r'_649) F648 f658  (by decide) hdd (by omega) (by omega) h653 h652 h663 (FrF.tr (FrF.tr (FrF.tr (FrF.tr (FrF.tr (FrF.tr (FrF.tr (FrF.tr (FrF.tr (FrF.tr FrF.rf k261 (by decide)) k325 (by decide)) k367 (by decide)) k391 (by decide)) k442 (by decide)) k470 (by decide)) k486 (by decide)) k577 (by decide)) k631 (by decide)) k654 (by decide)) h659 h664 (Fr.tr (Fr.tr (Fr.tr (Fr.tr (Fr.tr (Fr.tr (Fr.tr (Fr.tr (Fr.tr (Fr.tr (Fr.tr (Fr.tr (Fr.tr Fr.rf k262 (by decide)) k326 (by decide)) k368 (by decide)) k392 (by decide)) k443 (by decide)) k471 (by decide)) k487 (by decide)) k578 (by decide)) k583 (by decide)) k632 (by decide)) k637 (by decide)) k656 (by decide)) k660 (by decide))
                        · skip
                          refine G_aload_n hX 5 rfl rfl d_Mo_readWindow_147 ?_
                          have h665 : F628 31 = .int (zI (wE g p e)) := (k631 31 (by decide)).trans h622
                          have h666 : F628 32 = .int (zI 0) := (k631 32 (by decide)).trans h623
                          have h667 : f635 63 = iz E 1600 b := (k637 63 (by decide)).trans ((k632 63 (by decide)).trans h624)
                          refine F_callV hX (st := [.int (zI ((0 + 1) + 1)), .ref (eA E 84)]) (c_Mo_readNumber_ok E f635 F628 ((w2 g p e).2) (wE g p e) b g sE h640 (moK_fr hmk (FrF.tr (FrF.tr (FrF.tr (FrF.tr (FrF.tr (FrF.tr (FrF.tr (FrF.tr (FrF.tr (FrF.rf (S := [30, 31, 39, 40, 41, 43])) k261 (by decide)) k325 (by decide)) k367 (by decide)) k391 (by decide)) k442 (by decide)) k470 (by decide)) k486 (by decide)) k577 (by decide)) k631 (by decide)) (by decide)) h633 h665 h666 h667 hG hgb (by omega) (show 0 ≤ (w3 g p e).1 by omega)) cm_Mo_readNumber im_Mo_readNumber se_Mo_readNumber rfl ml_Mo_401 d_Mo_readWindow_148 (by decide) h640 rfl rfl (Nat.le_of_ble_eq_true rfl) (by decide) ?_
                          rintro _ f668 ⟨rfl, F671, h672, h673, k674, k675⟩
                          refine G_cast (st' := [.int (zI ((numL g (wE g p e) 4 ((w2 g p e).2) 0).1)), .int (zI ((0 + 1) + 1)), .ref (eA E 84)]) ?_ rfl rfl rfl rfl
                          refine G_top (show zI ((numL g (wE g p e) 4 ((w2 g p e).2) 0).1) = zI ((w3 g p e).1) from rfl) ?_
                          have h676 : F671 30 = .int (zI ((w3 g p e).2)) := h673.trans (congrArg (fun z => Value.int (zI z)) (rfl))
                          have h677 : f668 84 = iz E 3 (uz (uz ev 0 ((w1 g p e).1)) (0 + 1) ((w2 g p e).1)) := (k675 84 (by decide)).trans h636
                          refine F_iast hX d_Mo_readWindow_151 84 (by decide) h677 (by omega) (fun f678 h679 k680 => ?_)
                          refine G_iinc_z hX (lv' := [(7, .int (zI (((0 + 1) + 1) + 1))), (6, .int (zI (wQ g p e))), (5, .int (zI ((wY g p e).1))), (4, .int (zI e)), (3, .int (zI (wk g p e))), (0, .ref (eA E 61)), (1, .int (zI N)), (2, .int (zI S))]) 0 rfl (by decide) rfl d_Mo_readWindow_152 ?_
                          refine G_goto hX (tgt := 135) d_Mo_readWindow_155 rfl ?_
                          refine G_iload hX 0 rfl d_Mo_readWindow_135 ?_
                          refine G_iconst hX d_Mo_readWindow_137 ?_
                          refine G_icmp_ge_z hX (tgt := 158) d_Mo_readWindow_138 rfl (by omega) (fun c681 => ?_) (fun c682 => by exfalso; omega)
                          have hc8 : ¬ ((w1 g p e).1 < 0 ∨ (w2 g p e).1 < 0 ∨ (w3 g p e).1 < 0) := by omega
                          have hwc : wc g p e = wk g p e / 4 := rfl
                          have hkb : 0 ≤ wk g p e ∧ wk g p e ≤ 7 := by omega
                          by_cases qk : wk g p e < 4
                          · skip
                            have hwc0 : wc g p e = 0 := by omega
                            refine G_lconst hX (v := zL 0) (by decide) d_Mo_readWindow_158 ?_
                            refine G_lstore hX (lv' := [(7, .long (zL 0)), (6, .int (zI (wQ g p e))), (5, .int (zI ((wY g p e).1))), (4, .int (zI e)), (3, .int (zI (wk g p e))), (0, .ref (eA E 61)), (1, .int (zI N)), (2, .int (zI S))]) (by decide) rfl d_Mo_readWindow_159 ?_
                            refine G_iconst hX d_Mo_readWindow_161 ?_
                            refine G_istore hX (lv' := [(9, .int (zI 0)), (7, .long (zL 0)), (6, .int (zI (wQ g p e))), (5, .int (zI ((wY g p e).1))), (4, .int (zI e)), (3, .int (zI (wk g p e))), (0, .ref (eA E 61)), (1, .int (zI N)), (2, .int (zI S))]) (by decide) rfl d_Mo_readWindow_162 ?_
                            refine G_iload hX 0 rfl d_Mo_readWindow_164 ?_
                            refine G_iconst hX d_Mo_readWindow_166 ?_
                            refine G_icmp_ge_z hX (tgt := 196) d_Mo_readWindow_167 rfl (by omega) (fun c683 => by exfalso; omega) (fun c684 => ?_)
                            refine G_iload_n hX 5 rfl rfl d_Mo_readWindow_170 ?_
                            refine G_iconst hX d_Mo_readWindow_171 ?_
                            refine G_iand hX d_Mo_readWindow_172 ?_
                            refine G_top (show (zI (wk g p e) &&& zI 4) = zI 0 from (zI_a4 (by omega)).trans (congrArg zI (by omega))) ?_
                            refine G_if_le_z hX (tgt := 196) d_Mo_readWindow_173 rfl (by omega) (fun c685 => ?_) (fun c686 => by exfalso; omega)
                            have hcv : cvL g (4 * wc g p e).toNat (w3 g p e).2 0 = 0 := by rw [hwc0]; rfl
                            have hvb : 0 ≤ cvL g (4 * wc g p e).toNat (w3 g p e).2 0 ∧ cvL g (4 * wc g p e).toNat (w3 g p e).2 0 < 4294967296 := by
                              rw [hwc0]
                              exact ⟨Int.le_refl 0, show (0 : Int) < 4294967296 by decide⟩
                            have h687 : F671 30 = .int (zI ((w3 g p e).2 + 4 * wc g p e)) := h676.trans (congrArg (fun z => Value.int (zI z)) ((by omega)))
                            refine G_aload_n hX 6 rfl rfl d_Mo_readWindow_196 ?_
                            have h688 : f678 61 = mob F671 := (k680 61 (by decide)).trans h672
                            have h689 : F671 32 = .int (zI 0) := (k674 32 (by decide)).trans h666
                            refine M_get hX fg_Mo_345 d_Mo_readWindow_197 h688 (by decide) h689 ?_
                            refine G_if_ne_z hX (tgt := 240) d_Mo_readWindow_200 rfl (by omega) (fun c690 => by exfalso; omega) (fun c691 => ?_)
                            refine G_aload_n hX 6 rfl rfl d_Mo_readWindow_203 ?_
                            have h692 : F671 45 = .ref (eA E 84) := (k674 45 (by decide)).trans h641
                            refine M_get hX fg_Mo_148 d_Mo_readWindow_204 h688 (by decide) h692 ?_
                            refine G_iconst hX d_Mo_readWindow_207 ?_
                            refine F_iald hX d_Mo_readWindow_208 84 (by decide) h679 (by omega) ?_
                            refine G_top (show zI ((uz (uz (uz ev 0 ((w1 g p e).1)) (0 + 1) ((w2 g p e).1)) ((0 + 1) + 1) ((w3 g p e).1)) 0) = zI ((w1 g p e).1) from rfl) ?_
                            refine G_i2l hX (v := zL ((w1 g p e).1)) (zI_l (by omega)) d_Mo_readWindow_209 ?_
                            refine G_aload_n hX 6 rfl rfl d_Mo_readWindow_210 ?_
                            refine M_get hX fg_Mo_148 d_Mo_readWindow_211 h688 (by decide) h692 ?_
                            refine G_iconst hX d_Mo_readWindow_214 ?_
                            refine F_iald hX d_Mo_readWindow_215 84 (by decide) h679 (by omega) ?_
                            refine G_top (show zI ((uz (uz (uz ev 0 ((w1 g p e).1)) (0 + 1) ((w2 g p e).1)) ((0 + 1) + 1) ((w3 g p e).1)) 1) = zI ((w2 g p e).1) from rfl) ?_
                            refine G_i2l hX (v := zL ((w2 g p e).1)) (zI_l (by omega)) d_Mo_readWindow_216 ?_
                            refine G_ladd_z hX d_Mo_readWindow_217 ?_
                            refine G_aload_n hX 6 rfl rfl d_Mo_readWindow_218 ?_
                            refine M_get hX fg_Mo_148 d_Mo_readWindow_219 h688 (by decide) h692 ?_
                            refine G_iconst hX d_Mo_readWindow_222 ?_
                            refine F_iald hX d_Mo_readWindow_223 84 (by decide) h679 (by omega) ?_
                            refine G_top (show zI ((uz (uz (uz ev 0 ((w1 g p e).1)) (0 + 1) ((w2 g p e).1)) ((0 + 1) + 1) ((w3 g p e).1)) 2) = zI ((w3 g p e).1) from rfl) ?_
                            refine G_i2l hX (v := zL ((w3 g p e).1)) (zI_l (by omega)) d_Mo_readWindow_224 ?_
                            refine G_ladd_z hX d_Mo_readWindow_225 ?_
                            refine G_aload_n hX 6 rfl rfl d_Mo_readWindow_226 ?_
                            have h693 : F671 31 = .int (zI (wE g p e)) := (k674 31 (by decide)).trans h665
                            refine M_get hX fg_Mo_351 d_Mo_readWindow_227 h688 (by decide) h693 ?_
                            refine G_aload_n hX 6 rfl rfl d_Mo_readWindow_230 ?_
                            refine M_get hX fg_Mo_348 d_Mo_readWindow_231 h688 (by decide) h687 ?_
                            refine G_isub_z hX d_Mo_readWindow_234 ?_
                            refine G_i2l hX (v := zL ((wE g p e) - ((w3 g p e).2 + 4 * wc g p e))) (zI_l (by omega)) d_Mo_readWindow_235 ?_
                            have hcm : lg_cmp (zL ((((w1 g p e).1) + ((w2 g p e).1)) + ((w3 g p e).1))) (zL ((wE g p e) - ((w3 g p e).2 + 4 * wc g p e))) = 0 ↔ (((w1 g p e).1) + ((w2 g p e).1)) + ((w3 g p e).1) = (wE g p e) - ((w3 g p e).2 + 4 * wc g p e) := (lg_cmp_eq _ _).trans (zL_eq (by omega))
                            by_cases hc9 : ¬ (w1 g p e).1 + (w2 g p e).1 + (w3 g p e).1 + 4 * wc g p e = wE g p e - (w3 g p e).2
                            · skip
                              have hda : hdA g p e mc oc nm = -2 := by unfold hdA; rw [if_neg hc1, if_neg hc2, if_neg hc3, if_neg hc4, if_neg hc5, if_neg hc6, if_neg hc7, if_neg hc8, if_pos hc9]
                              have hdd : (if ¬ hdA g p e mc oc nm = 0 then hdA g p e mc oc nm else mkE (hdK g p e mc) (mkF (hdK g p e mc) g t old N S m)) = -2 := by rw [hda]; exact if_pos (by decide)
                              refine G_lcmp hX d_Mo_readWindow_236 ?_
                              refine G_if_eq hX (tgt := 247) d_Mo_readWindow_237 rfl (fun c694 => by exact (hc9 (by have := hcm.mp c694; omega)).elim) (fun c695 => ?_)
                              refine G_aload_n hX 6 rfl rfl d_Mo_readWindow_240 ?_
                              refine G_bipush hX (by decide) d_Mo_readWindow_241 ?_
                              refine F_callV hX (st := []) (c_Mo_refuse E f678 F671 (-2) h688 (moK_fr hmk (FrF.tr (FrF.tr (FrF.tr (FrF.tr (FrF.tr (FrF.tr (FrF.tr (FrF.tr (FrF.tr (FrF.tr (FrF.rf (S := [30, 31, 39, 40, 41, 43])) k261 (by decide)) k325 (by decide)) k367 (by decide)) k391 (by decide)) k442 (by decide)) k470 (by decide)) k486 (by decide)) k577 (by decide)) k631 (by decide)) k674 (by decide)) (by decide)) h689) cm_Mo_refuse im_Mo_refuse se_Mo_refuse rfl ml_Mo_354 d_Mo_readWindow_243 (by decide) h688 rfl rfl (Nat.le_of_ble_eq_true rfl) (by decide) ?_
                              rintro _ f696 ⟨rfl, F699, h700, h701, k702, k703⟩
                              refine G_cast (st' := []) ?_ rfl rfl rfl rfl
                              have h704 : F699 30 = .int (zI ((w3 g p e).2 + 4 * wc g p e)) := (k702 30 (by decide)).trans h687
                              have h705 : F699 31 = .int (zI (wE g p e)) := (k702 31 (by decide)).trans h693
                              have h706 : F699 36 = .int (zI mc) := (k702 36 (by decide)).trans ((k674 36 (by decide)).trans ((k631 36 (by decide)).trans ((k577 36 (by decide)).trans ((k486 36 (by decide)).trans h472))))
                              have h707 : f696 82 = iz E 1536 o := (k703 82 (by decide)).trans ((k680 82 (by decide)).trans ((k675 82 (by decide)).trans ((k637 82 (by decide)).trans ((k632 82 (by decide)).trans ((k583 82 (by decide)).trans ((k578 82 (by decide)).trans ((k487 82 (by decide)).trans ((k471 82 (by decide)).trans ((k443 82 (by decide)).trans ((k392 82 (by decide)).trans ((k368 82 (by decide)).trans ((k326 82 (by decide)).trans ((k262 82 (by decide)).trans hc82)))))))))))))
                              have h708 : f696 78 = iz E 8 nr := (k703 78 (by decide)).trans ((k680 78 (by decide)).trans ((k675 78 (by decide)).trans ((k637 78 (by decide)).trans ((k632 78 (by decide)).trans ((k583 78 (by decide)).trans ((k578 78 (by decide)).trans ((k487 78 (by decide)).trans ((k471 78 (by decide)).trans ((k443 78 (by decide)).trans ((k392 78 (by decide)).trans ((k368 78 (by decide)).trans ((k326 78 (by decide)).trans ((k262 78 (by decide)).trans hc78)))))))))))))
                              have h709 : f696 79 = iz E 1024 sm := (k703 79 (by decide)).trans ((k680 79 (by decide)).trans ((k675 79 (by decide)).trans ((k637 79 (by decide)).trans ((k632 79 (by decide)).trans ((k583 79 (by decide)).trans ((k578 79 (by decide)).trans ((k487 79 (by decide)).trans ((k471 79 (by decide)).trans ((k443 79 (by decide)).trans ((k392 79 (by decide)).trans ((k368 79 (by decide)).trans ((k326 79 (by decide)).trans ((k262 79 (by decide)).trans hc79)))))))))))))
                              have h710 : f696 83 = iz E 3 av := (k703 83 (by decide)).trans ((k680 83 (by decide)).trans ((k675 83 (by decide)).trans ((k637 83 (by decide)).trans ((k632 83 (by decide)).trans ((k583 83 (by decide)).trans ((k578 83 (by decide)).trans ((k487 83 (by decide)).trans ((k471 83 (by decide)).trans ((k443 83 (by decide)).trans ((k392 83 (by decide)).trans ((k368 83 (by decide)).trans ((k326 83 (by decide)).trans ((k262 83 (by decide)).trans hc83)))))))))))))
                              have h711 : f696 84 = iz E 3 (uz (uz (uz ev 0 ((w1 g p e).1)) (0 + 1) ((w2 g p e).1)) ((0 + 1) + 1) ((w3 g p e).1)) := (k703 84 (by decide)).trans h679
                              exact F_vret hX hE d_Mo_readWindow_246 ⟨rfl, F699, _, _, _, _, _, _, _, _, _, h700, h704, h705, h701, h706, (FrF.tr (FrF.tr (FrF.tr (FrF.tr (FrF.tr (FrF.tr (FrF.tr (FrF.tr (FrF.tr (FrF.tr (FrF.tr FrF.rf k261 (by decide)) k325 (by decide)) k367 (by decide)) k391 (by decide)) k442 (by decide)) k470 (by decide)) k486 (by decide)) k577 (by decide)) k631 (by decide)) k674 (by decide)) k702 (by decide)), h707, h708, h709, h710, h711, hdd.symm, (fun q => absurd q (by decide)), (by omega), (Fr.tr (Fr.tr (Fr.tr (Fr.tr (Fr.tr (Fr.tr (Fr.tr (Fr.tr (Fr.tr (Fr.tr (Fr.tr (Fr.tr (Fr.tr (Fr.tr Fr.rf k262 (by decide)) k326 (by decide)) k368 (by decide)) k392 (by decide)) k443 (by decide)) k471 (by decide)) k487 (by decide)) k578 (by decide)) k583 (by decide)) k632 (by decide)) k637 (by decide)) k675 (by decide)) k680 (by decide)) k703 (by decide))⟩
                            · skip
                              have hda : hdA g p e mc oc nm = 0 := by unfold hdA; rw [if_neg hc1, if_neg hc2, if_neg hc3, if_neg hc4, if_neg hc5, if_neg hc6, if_neg hc7, if_neg hc8, if_neg hc9]
                              refine G_lcmp hX d_Mo_readWindow_236 ?_
                              refine G_if_eq hX (tgt := 247) d_Mo_readWindow_237 rfl (fun c712 => ?_) (fun c713 => by exact absurd (hcm.mpr (by omega)) c713)
                              have hkk := hdK_ok hG (show 0 ≤ p ∧ p ≤ e ∧ e ≤ 700 by omega) hda
                              have hz5 : kZ (hdK g p e mc) = (wZ g p e).1 := rfl
                              refine G_iconst hX d_Mo_readWindow_247 ?_
                              refine G_istore hX (lv' := [(9, .int (zI 0)), (7, .long (zL 0)), (6, .int (zI (wQ g p e))), (5, .int (zI ((wY g p e).1))), (4, .int (zI e)), (3, .int (zI (wk g p e))), (0, .ref (eA E 61)), (1, .int (zI N)), (2, .int (zI S))]) (by decide) rfl d_Mo_readWindow_248 ?_
                              refine G_iload hX 0 rfl d_Mo_readWindow_250 ?_
                              refine G_iconst hX d_Mo_readWindow_252 ?_
                              refine G_icmp_ge_z hX (tgt := 312) d_Mo_readWindow_253 rfl (by omega) (fun c714 => by exfalso; omega) (fun c715 => ?_)
                              refine G_aload_n hX 6 rfl rfl d_Mo_readWindow_256 ?_
                              have h716 : F671 44 = .ref (eA E 83) := (k674 44 (by decide)).trans ((k631 44 (by decide)).trans ((k577 44 (by decide)).trans ((k486 44 (by decide)).trans ((k470 44 (by decide)).trans ((k442 44 (by decide)).trans ((k391 44 (by decide)).trans ((k367 44 (by decide)).trans ((k325 44 (by decide)).trans ((k261 44 (by decide)).trans (hmk 44 83 (by decide)))))))))))
                              refine M_get hX fg_Mo_145 d_Mo_readWindow_257 h688 (by decide) h716 ?_
                              refine G_iload hX 0 rfl d_Mo_readWindow_260 ?_
                              refine G_iload hX 0 rfl d_Mo_readWindow_262 ?_
                              refine G_if_ne_z hX (tgt := 274) d_Mo_readWindow_264 rfl (by omega) (fun c717 => by exfalso; omega) (fun c718 => ?_)
                              refine G_aload_n hX 6 rfl rfl d_Mo_readWindow_267 ?_
                              refine M_get hX fg_Mo_348 d_Mo_readWindow_268 h688 (by decide) h687 ?_
                              refine G_goto hX (tgt := 283) d_Mo_readWindow_271 rfl ?_
                              have h719 : f678 83 = iz E 3 av := (k680 83 (by decide)).trans ((k675 83 (by decide)).trans ((k637 83 (by decide)).trans ((k632 83 (by decide)).trans ((k583 83 (by decide)).trans ((k578 83 (by decide)).trans ((k487 83 (by decide)).trans ((k471 83 (by decide)).trans ((k443 83 (by decide)).trans ((k392 83 (by decide)).trans ((k368 83 (by decide)).trans ((k326 83 (by decide)).trans ((k262 83 (by decide)).trans hc83))))))))))))
                              refine F_iast hX d_Mo_readWindow_283 83 (by decide) h719 (by omega) (fun f720 h721 k722 => ?_)
                              refine G_aload_n hX 6 rfl rfl d_Mo_readWindow_284 ?_
                              have h723 : f720 61 = mob F671 := (k722 61 (by decide)).trans h688
                              refine M_get hX fg_Mo_148 d_Mo_readWindow_285 h723 (by decide) h692 ?_
                              refine G_iload hX 0 rfl d_Mo_readWindow_288 ?_
                              refine G_aload_n hX 6 rfl rfl d_Mo_readWindow_290 ?_
                              refine M_get hX fg_Mo_145 d_Mo_readWindow_291 h723 (by decide) h716 ?_
                              refine G_iload hX 0 rfl d_Mo_readWindow_294 ?_
                              refine F_iald hX d_Mo_readWindow_296 83 (by decide) h721 (by omega) ?_
                              refine G_top (show zI ((uz av 0 ((w3 g p e).2 + 4 * wc g p e)) 0) = zI ((w3 g p e).2 + 4 * wc g p e) from rfl) ?_
                              refine G_aload_n hX 6 rfl rfl d_Mo_readWindow_297 ?_
                              refine M_get hX fg_Mo_148 d_Mo_readWindow_298 h723 (by decide) h692 ?_
                              refine G_iload hX 0 rfl d_Mo_readWindow_301 ?_
                              have h724 : f720 84 = iz E 3 (uz (uz (uz ev 0 ((w1 g p e).1)) (0 + 1) ((w2 g p e).1)) ((0 + 1) + 1) ((w3 g p e).1)) := (k722 84 (by decide)).trans h679
                              refine F_iald hX d_Mo_readWindow_303 84 (by decide) h724 (by omega) ?_
                              refine G_top (show zI ((uz (uz (uz ev 0 ((w1 g p e).1)) (0 + 1) ((w2 g p e).1)) ((0 + 1) + 1) ((w3 g p e).1)) 0) = zI ((w1 g p e).1) from rfl) ?_
                              refine G_iadd_z hX d_Mo_readWindow_304 ?_
                              refine F_iast hX d_Mo_readWindow_305 84 (by decide) h724 (by omega) (fun f725 h726 k727 => ?_)
                              refine G_iinc_z hX (lv' := [(9, .int (zI (0 + 1))), (7, .long (zL 0)), (6, .int (zI (wQ g p e))), (5, .int (zI ((wY g p e).1))), (4, .int (zI e)), (3, .int (zI (wk g p e))), (0, .ref (eA E 61)), (1, .int (zI N)), (2, .int (zI S))]) 0 rfl (by decide) rfl d_Mo_readWindow_306 ?_
                              refine G_goto hX (tgt := 250) d_Mo_readWindow_309 rfl ?_
                              refine G_iload hX 0 rfl d_Mo_readWindow_250 ?_
                              refine G_iconst hX d_Mo_readWindow_252 ?_
                              refine G_icmp_ge_z hX (tgt := 312) d_Mo_readWindow_253 rfl (by omega) (fun c728 => by exfalso; omega) (fun c729 => ?_)
                              refine G_aload_n hX 6 rfl rfl d_Mo_readWindow_256 ?_
                              have h730 : f725 61 = mob F671 := (k727 61 (by decide)).trans h723
                              refine M_get hX fg_Mo_145 d_Mo_readWindow_257 h730 (by decide) h716 ?_
                              refine G_iload hX 0 rfl d_Mo_readWindow_260 ?_
                              refine G_iload hX 0 rfl d_Mo_readWindow_262 ?_
                              refine G_if_ne_z hX (tgt := 274) d_Mo_readWindow_264 rfl (by omega) (fun c731 => ?_) (fun c732 => by exfalso; omega)
                              refine G_aload_n hX 6 rfl rfl d_Mo_readWindow_274 ?_
                              refine M_get hX fg_Mo_148 d_Mo_readWindow_275 h730 (by decide) h692 ?_
                              refine G_iload hX 0 rfl d_Mo_readWindow_278 ?_
                              refine G_iconst hX d_Mo_readWindow_280 ?_
                              refine G_isub_z hX d_Mo_readWindow_281 ?_
                              refine F_iald hX d_Mo_readWindow_282 84 (by decide) h726 (by omega) ?_
                              refine G_top (show zI ((uz (uz (uz (uz ev 0 ((w1 g p e).1)) (0 + 1) ((w2 g p e).1)) ((0 + 1) + 1) ((w3 g p e).1)) 0 (((w3 g p e).2 + 4 * wc g p e) + ((w1 g p e).1))) ((0 + 1) - 1)) = zI (((w3 g p e).2 + 4 * wc g p e) + ((w1 g p e).1)) from rfl) ?_
                              have h733 : f725 83 = iz E 3 (uz av 0 ((w3 g p e).2 + 4 * wc g p e)) := (k727 83 (by decide)).trans h721
                              refine F_iast hX d_Mo_readWindow_283 83 (by decide) h733 (by omega) (fun f734 h735 k736 => ?_)
                              refine G_aload_n hX 6 rfl rfl d_Mo_readWindow_284 ?_
                              have h737 : f734 61 = mob F671 := (k736 61 (by decide)).trans h730
                              refine M_get hX fg_Mo_148 d_Mo_readWindow_285 h737 (by decide) h692 ?_
                              refine G_iload hX 0 rfl d_Mo_readWindow_288 ?_
                              refine G_aload_n hX 6 rfl rfl d_Mo_readWindow_290 ?_
                              refine M_get hX fg_Mo_145 d_Mo_readWindow_291 h737 (by decide) h716 ?_
                              refine G_iload hX 0 rfl d_Mo_readWindow_294 ?_
                              refine F_iald hX d_Mo_readWindow_296 83 (by decide) h735 (by omega) ?_
                              refine G_top (show zI ((uz (uz av 0 ((w3 g p e).2 + 4 * wc g p e)) (0 + 1) (((w3 g p e).2 + 4 * wc g p e) + ((w1 g p e).1))) (0 + 1)) = zI (((w3 g p e).2 + 4 * wc g p e) + ((w1 g p e).1)) from rfl) ?_
                              refine G_aload_n hX 6 rfl rfl d_Mo_readWindow_297 ?_
                              refine M_get hX fg_Mo_148 d_Mo_readWindow_298 h737 (by decide) h692 ?_
                              refine G_iload hX 0 rfl d_Mo_readWindow_301 ?_
                              have h738 : f734 84 = iz E 3 (uz (uz (uz (uz ev 0 ((w1 g p e).1)) (0 + 1) ((w2 g p e).1)) ((0 + 1) + 1) ((w3 g p e).1)) 0 (((w3 g p e).2 + 4 * wc g p e) + ((w1 g p e).1))) := (k736 84 (by decide)).trans h726
                              refine F_iald hX d_Mo_readWindow_303 84 (by decide) h738 (by omega) ?_
                              refine G_top (show zI ((uz (uz (uz (uz ev 0 ((w1 g p e).1)) (0 + 1) ((w2 g p e).1)) ((0 + 1) + 1) ((w3 g p e).1)) 0 (((w3 g p e).2 + 4 * wc g p e) + ((w1 g p e).1))) (0 + 1)) = zI ((w2 g p e).1) from rfl) ?_
                              refine G_iadd_z hX d_Mo_readWindow_304 ?_
                              refine F_iast hX d_Mo_readWindow_305 84 (by decide) h738 (by omega) (fun f739 h740 k741 => ?_)
                              refine G_iinc_z hX (lv' := [(9, .int (zI ((0 + 1) + 1))), (7, .long (zL 0)), (6, .int (zI (wQ g p e))), (5, .int (zI ((wY g p e).1))), (4, .int (zI e)), (3, .int (zI (wk g p e))), (0, .ref (eA E 61)), (1, .int (zI N)), (2, .int (zI S))]) 0 rfl (by decide) rfl d_Mo_readWindow_306 ?_
                              refine G_goto hX (tgt := 250) d_Mo_readWindow_309 rfl ?_
                              refine G_iload hX 0 rfl d_Mo_readWindow_250 ?_
                              refine G_iconst hX d_Mo_readWindow_252 ?_
                              refine G_icmp_ge_z hX (tgt := 312) d_Mo_readWindow_253 rfl (by omega) (fun c742 => by exfalso; omega) (fun c743 => ?_)
                              refine G_aload_n hX 6 rfl rfl d_Mo_readWindow_256 ?_
                              have h744 : f739 61 = mob F671 := (k741 61 (by decide)).trans h737
                              refine M_get hX fg_Mo_145 d_Mo_readWindow_257 h744 (by decide) h716 ?_
                              refine G_iload hX 0 rfl d_Mo_readWindow_260 ?_
                              refine G_iload hX 0 rfl d_Mo_readWindow_262 ?_
                              refine G_if_ne_z hX (tgt := 274) d_Mo_readWindow_264 rfl (by omega) (fun c745 => ?_) (fun c746 => by exfalso; omega)
                              refine G_aload_n hX 6 rfl rfl d_Mo_readWindow_274 ?_
                              refine M_get hX fg_Mo_148 d_Mo_readWindow_275 h744 (by decide) h692 ?_
                              refine G_iload hX 0 rfl d_Mo_readWindow_278 ?_
                              refine G_iconst hX d_Mo_readWindow_280 ?_
                              refine G_isub_z hX d_Mo_readWindow_281 ?_
                              refine F_iald hX d_Mo_readWindow_282 84 (by decide) h740 (by omega) ?_
                              refine G_top (show zI ((uz (uz (uz (uz (uz ev 0 ((w1 g p e).1)) (0 + 1) ((w2 g p e).1)) ((0 + 1) + 1) ((w3 g p e).1)) 0 (((w3 g p e).2 + 4 * wc g p e) + ((w1 g p e).1))) (0 + 1) ((((w3 g p e).2 + 4 * wc g p e) + ((w1 g p e).1)) + ((w2 g p e).1))) (((0 + 1) + 1) - 1)) = zI ((((w3 g p e).2 + 4 * wc g p e) + ((w1 g p e).1)) + ((w2 g p e).1)) from rfl) ?_
                              have h747 : f739 83 = iz E 3 (uz (uz av 0 ((w3 g p e).2 + 4 * wc g p e)) (0 + 1) (((w3 g p e).2 + 4 * wc g p e) + ((w1 g p e).1))) := (k741 83 (by decide)).trans h735
                              refine F_iast hX d_Mo_readWindow_283 83 (by decide) h747 (by omega) (fun f748 h749 k750 => ?_)
                              refine G_aload_n hX 6 rfl rfl d_Mo_readWindow_284 ?_
                              have h751 : f748 61 = mob F671 := (k750 61 (by decide)).trans h744
                              refine M_get hX fg_Mo_148 d_Mo_readWindow_285 h751 (by decide) h692 ?_
                              refine G_iload hX 0 rfl d_Mo_readWindow_288 ?_
                              refine G_aload_n hX 6 rfl rfl d_Mo_readWindow_290 ?_
                              refine M_get hX fg_Mo_145 d_Mo_readWindow_291 h751 (by decide) h716 ?_
                              refine G_iload hX 0 rfl d_Mo_readWindow_294 ?_
                              refine F_iald hX d_Mo_readWindow_296 83 (by decide) h749 (by omega) ?_
                              refine G_top (show zI ((uz (uz (uz av 0 ((w3 g p e).2 + 4 * wc g p e)) (0 + 1) (((w3 g p e).2 + 4 * wc g p e) + ((w1 g p e).1))) ((0 + 1) + 1) ((((w3 g p e).2 + 4 * wc g p e) + ((w1 g p e).1)) + ((w2 g p e).1))) ((0 + 1) + 1)) = zI ((((w3 g p e).2 + 4 * wc g p e) + ((w1 g p e).1)) + ((w2 g p e).1)) from rfl) ?_
                              refine G_aload_n hX 6 rfl rfl d_Mo_readWindow_297 ?_
                              refine M_get hX fg_Mo_148 d_Mo_readWindow_298 h751 (by decide) h692 ?_
                              refine G_iload hX 0 rfl d_Mo_readWindow_301 ?_
                              have h752 : f748 84 = iz E 3 (uz (uz (uz (uz (uz ev 0 ((w1 g p e).1)) (0 + 1) ((w2 g p e).1)) ((0 + 1) + 1) ((w3 g p e).1)) 0 (((w3 g p e).2 + 4 * wc g p e) + ((w1 g p e).1))) (0 + 1) ((((w3 g p e).2 + 4 * wc g p e) + ((w1 g p e).1)) + ((w2 g p e).1))) := (k750 84 (by decide)).trans h740
                              refine F_iald hX d_Mo_readWindow_303 84 (by decide) h752 (by omega) ?_
                              refine G_top (show zI ((uz (uz (uz (uz (uz ev 0 ((w1 g p e).1)) (0 + 1) ((w2 g p e).1)) ((0 + 1) + 1) ((w3 g p e).1)) 0 (((w3 g p e).2 + 4 * wc g p e) + ((w1 g p e).1))) (0 + 1) ((((w3 g p e).2 + 4 * wc g p e) + ((w1 g p e).1)) + ((w2 g p e).1))) ((0 + 1) + 1)) = zI ((w3 g p e).1) from rfl) ?_
                              refine G_iadd_z hX d_Mo_readWindow_304 ?_
                              refine F_iast hX d_Mo_readWindow_305 84 (by decide) h752 (by omega) (fun f753 h754 k755 => ?_)
                              refine G_iinc_z hX (lv' := [(9, .int (zI (((0 + 1) + 1) + 1))), (7, .long (zL 0)), (6, .int (zI (wQ g p e))), (5, .int (zI ((wY g p e).1))), (4, .int (zI e)), (3, .int (zI (wk g p e))), (0, .ref (eA E 61)), (1, .int (zI N)), (2, .int (zI S))]) 0 rfl (by decide) rfl d_Mo_readWindow_306 ?_
                              refine G_goto hX (tgt := 250) d_Mo_readWindow_309 rfl ?_
                              refine G_iload hX 0 rfl d_Mo_readWindow_250 ?_
                              refine G_iconst hX d_Mo_readWindow_252 ?_
                              refine G_icmp_ge_z hX (tgt := 312) d_Mo_readWindow_253 rfl (by omega) (fun c756 => ?_) (fun c757 => by exfalso; omega)
                              refine G_aload_n hX 6 rfl rfl d_Mo_readWindow_312 ?_
                              refine G_aload_n hX 6 rfl rfl d_Mo_readWindow_313 ?_
                              have h758 : f753 61 = mob F671 := (k755 61 (by decide)).trans h751
                              refine M_get hX fg_Mo_351 d_Mo_readWindow_314 h758 (by decide) h693 ?_
                              refine M_put hX fg_Mo_348 fp_Mo_30 d_Mo_readWindow_317 h758 rfl rfl (by decide) (fun f759 F760 h761 h762 k763 k764 => ?_)
                              refine G_aload_n hX 6 rfl rfl d_Mo_readWindow_320 ?_
                              refine G_iload hX 4 rfl d_Mo_readWindow_321 ?_
                              refine M_put hX fg_Mo_351 fp_Mo_31 d_Mo_readWindow_323 h761 rfl rfl (by decide) (fun f765 F766 h767 h768 k769 k770 => ?_)
                              refine G_aload_n hX 6 rfl rfl d_Mo_readWindow_326 ?_
                              refine G_aload_n hX 6 rfl rfl d_Mo_readWindow_327 ?_
                              have h771 : F766 36 = .int (zI mc) := (k769 36 (by decide)).trans ((k763 36 (by decide)).trans ((k674 36 (by decide)).trans ((k631 36 (by decide)).trans ((k577 36 (by decide)).trans ((k486 36 (by decide)).trans h472)))))
                              refine M_get hX fg_Mo_386 d_Mo_readWindow_328 h767 (by decide) h771 ?_
                              refine M_put hX fg_Mo_376 fp_Mo_42 d_Mo_readWindow_331 h767 rfl rfl (by decide) (fun f772 F773 h774 h775 k776 k777 => ?_)
                              refine G_aload_n hX 6 rfl rfl d_Mo_readWindow_334 ?_
                              refine G_iload_n hX 7 rfl rfl d_Mo_readWindow_335 ?_
                              refine G_iload_n hX 8 rfl rfl d_Mo_readWindow_336 ?_
                              have h778 : f772 78 = iz E 8 nr := (k777 78 (by decide)).trans ((k770 78 (by decide)).trans ((k764 78 (by decide)).trans ((k755 78 (by decide)).trans ((k750 78 (by decide)).trans ((k741 78 (by decide)).trans ((k736 78 (by decide)).trans ((k727 78 (by decide)).trans ((k722 78 (by decide)).trans ((k680 78 (by decide)).trans ((k675 78 (by decide)).trans ((k637 78 (by decide)).trans ((k632 78 (by decide)).trans ((k583 78 (by decide)).trans ((k578 78 (by decide)).trans ((k487 78 (by decide)).trans ((k471 78 (by decide)).trans ((k443 78 (by decide)).trans ((k392 78 (by decide)).trans ((k368 78 (by decide)).trans ((k326 78 (by decide)).trans ((k262 78 (by decide)).trans hc78)))))))))))))))))))))
                              have h779 : f772 79 = iz E 1024 sm := (k777 79 (by decide)).trans ((k770 79 (by decide)).trans ((k764 79 (by decide)).trans ((k755 79 (by decide)).trans ((k750 79 (by decide)).trans ((k741 79 (by decide)).trans ((k736 79 (by decide)).trans ((k727 79 (by decide)).trans ((k722 79 (by decide)).trans ((k680 79 (by decide)).trans ((k675 79 (by decide)).trans ((k637 79 (by decide)).trans ((k632 79 (by decide)).trans ((k583 79 (by decide)).trans ((k578 79 (by decide)).trans ((k487 79 (by decide)).trans ((k471 79 (by decide)).trans ((k443 79 (by decide)).trans ((k392 79 (by decide)).trans ((k368 79 (by decide)).trans ((k326 79 (by decide)).trans ((k262 79 (by decide)).trans hc79)))))))))))))))))))))
                              refine F_callV hX (st := []) (c_Mo_beginRows E f772 F773 N S nr sm h774 (moK_fr hmk (FrF.tr (FrF.tr (FrF.tr (FrF.tr (FrF.tr (FrF.tr (FrF.tr (FrF.tr (FrF.tr (FrF.tr (FrF.tr (FrF.tr (FrF.tr (FrF.rf (S := [30, 31, 39, 40, 41, 42, 43])) k261 (by decide)) k325 (by decide)) k367 (by decide)) k391 (by decide)) k442 (by decide)) k470 (by decide)) k486 (by decide)) k577 (by decide)) k631 (by decide)) k674 (by decide)) k763 (by decide)) k769 (by decide)) k776 (by decide)) (by decide)) h778 h779) cm_Mo_beginRows im_Mo_beginRows se_Mo_beginRows rfl ml_Mo_319 d_Mo_readWindow_337 (by decide) h774 rfl rfl (Nat.le_of_ble_eq_true rfl) (by decide) ?_
                              rintro _ f780 ⟨rfl, F783, h784, h785, h786, h787, k788, h789, h790, k791⟩
                              refine G_cast (st' := []) ?_ rfl rfl rfl rfl
                              have h792 : f780 83 = iz E 3 (uz (uz (uz av 0 ((w3 g p e).2 + 4 * wc g p e)) (0 + 1) (((w3 g p e).2 + 4 * wc g p e) + ((w1 g p e).1))) ((0 + 1) + 1) ((((w3 g p e).2 + 4 * wc g p e) + ((w1 g p e).1)) + ((w2 g p e).1))) := (k791 83 (by decide)).trans ((k777 83 (by decide)).trans ((k770 83 (by decide)).trans ((k764 83 (by decide)).trans ((k755 83 (by decide)).trans h749))))
                              have h793 : f780 84 = iz E 3 (uz (uz (uz (uz (uz (uz ev 0 ((w1 g p e).1)) (0 + 1) ((w2 g p e).1)) ((0 + 1) + 1) ((w3 g p e).1)) 0 (((w3 g p e).2 + 4 * wc g p e) + ((w1 g p e).1))) (0 + 1) ((((w3 g p e).2 + 4 * wc g p e) + ((w1 g p e).1)) + ((w2 g p e).1))) ((0 + 1) + 1) (((((w3 g p e).2 + 4 * wc g p e) + ((w1 g p e).1)) + ((w2 g p e).1)) + ((w3 g p e).1))) := (k791 84 (by decide)).trans ((k777 84 (by decide)).trans ((k770 84 (by decide)).trans ((k764 84 (by decide)).trans h754)))
                              have hkO : kO (hdK g p e mc) = wk g p e % 4 := rfl
                              have hkF : kF (hdK g p e mc) = (wS g p e).1 := rfl
                              have hkS : kS (hdK g p e mc) = (wS g p e).2.1 := rfl
                              have hkT : kT (hdK g p e mc) = mc := rfl
                              have hres : (if ¬ hdA g p e mc oc nm = 0 then hdA g p e mc oc nm else mkE (hdK g p e mc) (mkF (hdK g p e mc) g t old N S m)) = mkE (hdK g p e mc) (mkF (hdK g p e mc) g t old N S m) := if_neg (fun q => q hda)
                              have hsrc : (0 ≤ (wS g p e).2.1 ∧ 0 ≤ (wS g p e).1) ∧ (wk g p e % 4 = 2 → (wS g p e).1 + (wS g p e).2.1 ≤ mc) ∧ (¬ wk g p e % 4 = 2 → (wS g p e).1 + (wS g p e).2.1 ≤ oc) := by
                                show (0 ≤ (sR g e (nxP p e) (wk g p e % 4)).2.1 ∧ 0 ≤ (sR g e (nxP p e) (wk g p e % 4)).1) ∧ (wk g p e % 4 = 2 → (sR g e (nxP p e) (wk g p e % 4)).1 + (sR g e (nxP p e) (wk g p e % 4)).2.1 ≤ mc) ∧ (¬ wk g p e % 4 = 2 → (sR g e (nxP p e) (wk g p e % 4)).1 + (sR g e (nxP p e) (wk g p e % 4)).2.1 ≤ oc)
                                unfold sR
                                by_cases q : wk g p e % 4 = 0
                                · rw [if_pos q]; exact ⟨⟨Int.le_refl 0, Int.le_refl 0⟩, fun q2 => by omega, fun _ => show (0 : Int) + 0 ≤ oc by omega⟩
                                · rw [if_neg q]
                                  have q5 := hc2p.resolve_left q
                                  refine ⟨⟨q5.1, q5.2.1⟩, fun q2 => ?_, fun q2 => ?_⟩
                                  · have q6 := q5.2.2; rw [if_pos q2] at q6; exact q6
                                  · have q6 := q5.2.2; rw [if_neg q2] at q6; exact q6
                              have h794 : F783 41 = .int (zI (if (wk g p e) % 4 = 2 then 1 else 0)) := (k788 41 (by decide)).trans ((k776 41 (by decide)).trans ((k769 41 (by decide)).trans ((k763 41 (by decide)).trans ((k674 41 (by decide)).trans ((k631 41 (by decide)).trans ((k577 41 (by decide)).trans ((k486 41 (by decide)).trans ((k470 41 (by decide)).trans ((k442 41 (by decide)).trans ((k391 41 (by decide)).trans ((k367 41 (by decide)).trans h321)))))))))))
                              have hoo : ((if (wk g p e) % 4 = 2 then 1 else 0 : Int) = 1 ∧ kO (hdK g p e mc) = 2) ∨ ((if (wk g p e) % 4 = 2 then 1 else 0 : Int) = 0 ∧ ¬ kO (hdK g p e mc) = 2) := by rw [hkO]; by_cases q : wk g p e % 4 = 2; exact Or.inl ⟨if_pos q, q⟩; exact Or.inr ⟨if_neg q, q⟩
                              refine G_aload_n hX 6 rfl rfl d_Mo_readWindow_340 ?_
                              have h795 : F783 40 = .int (zI ((wS g p e).2.1)) := (k788 40 (by decide)).trans ((k776 40 (by decide)).trans ((k769 40 (by decide)).trans ((k763 40 (by decide)).trans ((k674 40 (by decide)).trans ((k631 40 (by decide)).trans ((k577 40 (by decide)).trans ((k486 40 (by decide)).trans ((k470 40 (by decide)).trans ((k442 40 (by decide)).trans ((k391 40 (by decide)).trans ((k367 40 (by decide)).trans h329)))))))))))
                              have h796 : F783 42 = .int (zI mc) := (k788 42 (by decide)).trans h775
                              have h797 : F783 39 = .int (zI ((wS g p e).1)) := (k788 39 (by decide)).trans ((k776 39 (by decide)).trans ((k769 39 (by decide)).trans ((k763 39 (by decide)).trans ((k674 39 (by decide)).trans ((k631 39 (by decide)).trans ((k577 39 (by decide)).trans ((k486 39 (by decide)).trans ((k470 39 (by decide)).trans ((k442 39 (by decide)).trans ((k391 39 (by decide)).trans ((k367 39 (by decide)).trans h328)))))))))))
                              have h798 : F783 36 = .int (zI mc) := (k788 36 (by decide)).trans ((k776 36 (by decide)).trans h771)
                              have h799 : F783 43 = .int (zI ((wZ g p e).1)) := (k788 43 (by decide)).trans ((k776 43 (by decide)).trans ((k769 43 (by decide)).trans ((k763 43 (by decide)).trans ((k674 43 (by decide)).trans ((k631 43 (by decide)).trans ((k577 43 (by decide)).trans ((k486 43 (by decide)).trans h469)))))))
                              have h800 : F783 32 = .int (zI 0) := (k788 32 (by decide)).trans ((k776 32 (by decide)).trans ((k769 32 (by decide)).trans ((k763 32 (by decide)).trans h689)))
                              have h801 : f780 81 = iz E 1536 ob := (k791 81 (by decide)).trans ((k777 81 (by decide)).trans ((k770 81 (by decide)).trans ((k764 81 (by decide)).trans ((k755 81 (by decide)).trans ((k750 81 (by decide)).trans ((k741 81 (by decide)).trans ((k736 81 (by decide)).trans ((k727 81 (by decide)).trans ((k722 81 (by decide)).trans ((k680 81 (by decide)).trans ((k675 81 (by decide)).trans ((k637 81 (by decide)).trans ((k632 81 (by decide)).trans ((k583 81 (by decide)).trans ((k578 81 (by decide)).trans ((k487 81 (by decide)).trans ((k471 81 (by decide)).trans ((k443 81 (by decide)).trans ((k392 81 (by decide)).trans ((k368 81 (by decide)).trans ((k326 81 (by decide)).trans ((k262 81 (by decide)).trans hc81))))))))))))))))))))))
                              have h802 : f780 82 = iz E 1536 o := (k791 82 (by decide)).trans ((k777 82 (by decide)).trans ((k770 82 (by decide)).trans ((k764 82 (by decide)).trans ((k755 82 (by decide)).trans ((k750 82 (by decide)).trans ((k741 82 (by decide)).trans ((k736 82 (by decide)).trans ((k727 82 (by decide)).trans ((k722 82 (by decide)).trans ((k680 82 (by decide)).trans ((k675 82 (by decide)).trans ((k637 82 (by decide)).trans ((k632 82 (by decide)).trans ((k583 82 (by decide)).trans ((k578 82 (by decide)).trans ((k487 82 (by decide)).trans ((k471 82 (by decide)).trans ((k443 82 (by decide)).trans ((k392 82 (by decide)).trans ((k368 82 (by decide)).trans ((k326 82 (by decide)).trans ((k262 82 (by decide)).trans hc82))))))))))))))))))))))
                              have h803 : f780 63 = iz E 1600 b := (k791 63 (by decide)).trans ((k777 63 (by decide)).trans ((k770 63 (by decide)).trans ((k764 63 (by decide)).trans ((k755 63 (by decide)).trans ((k750 63 (by decide)).trans ((k741 63 (by decide)).trans ((k736 63 (by decide)).trans ((k727 63 (by decide)).trans ((k722 63 (by decide)).trans ((k680 63 (by decide)).trans ((k675 63 (by decide)).trans h667)))))))))))
                              have h804 : f780 80 = iz E 1536 tb := (k791 80 (by decide)).trans ((k777 80 (by decide)).trans ((k770 80 (by decide)).trans ((k764 80 (by decide)).trans ((k755 80 (by decide)).trans ((k750 80 (by decide)).trans ((k741 80 (by decide)).trans ((k736 80 (by decide)).trans ((k727 80 (by decide)).trans ((k722 80 (by decide)).trans ((k680 80 (by decide)).trans ((k675 80 (by decide)).trans ((k637 80 (by decide)).trans ((k632 80 (by decide)).trans ((k583 80 (by decide)).trans ((k578 80 (by decide)).trans ((k487 80 (by decide)).trans ((k471 80 (by decide)).trans ((k443 80 (by decide)).trans ((k392 80 (by decide)).trans ((k368 80 (by decide)).trans ((k326 80 (by decide)).trans ((k262 80 (by decide)).trans hc80))))))))))))))))))))))
                              refine F_callV hX (st := []) (c_Mo_makeWindow E f780 F783 (hdK g p e mc) (if (wk g p e) % 4 = 2 then 1 else 0) N S t tb ob o old m oc (uz (uz (uz av 0 ((w3 g p e).2 + 4 * wc g p e)) (0 + 1) (((w3 g p e).2 + 4 * wc g p e) + ((w1 g p e).1))) ((0 + 1) + 1) ((((w3 g p e).2 + 4 * wc g p e) + ((w1 g p e).1)) + ((w2 g p e).1))) (uz (uz (uz (uz (uz (uz ev 0 ((w1 g p e).1)) (0 + 1) ((w2 g p e).1)) ((0 + 1) + 1) ((w3 g p e).1)) 0 (((w3 g p e).2 + 4 * wc g p e) + ((w1 g p e).1))) (0 + 1) ((((w3 g p e).2 + 4 * wc g p e) + ((w1 g p e).1)) + ((w2 g p e).1))) ((0 + 1) + 1) (((((w3 g p e).2 + 4 * wc g p e) + ((w1 g p e).1)) + ((w2 g p e).1)) + ((w3 g p e).1))) b g sE h784 (moK_fr hmk (FrF.tr (FrF.tr (FrF.tr (FrF.tr (FrF.tr (FrF.tr (FrF.tr (FrF.tr (FrF.tr (FrF.tr (FrF.tr (FrF.tr (FrF.tr (FrF.tr (FrF.rf (S := [25, 26, 27, 30, 31, 39, 40, 41, 42, 43])) k261 (by decide)) k325 (by decide)) k367 (by decide)) k391 (by decide)) k442 (by decide)) k470 (by decide)) k486 (by decide)) k577 (by decide)) k631 (by decide)) k674 (by decide)) k763 (by decide)) k769 (by decide)) k776 (by decide)) k788 (by decide)) (by decide)) h785 h786 h787 h800 h798 h797 h795 h794 h796 h799 h801 h802 h789 h790 h792 h793 h803 h804 hoo ⟨⟨by omega, hsrc.1⟩, hsrc.2.1, hsrc.2.2, by omega⟩ hold hout (by omega) (by omega) (by omega) ⟨rfl, rfl, rfl⟩ ⟨rfl, rfl, rfl⟩ htb htB ht3 hG hgb) cm_Mo_makeWindow im_Mo_makeWindow se_Mo_makeWindow rfl ml_Mo_410 d_Mo_readWindow_341 (by decide) h784 rfl rfl (Nat.le_of_ble_eq_true rfl) (by decide) ?_
                              rintro _ f805 ⟨rfl, F808, c'_809, fl'_810, o'_811, av'_812, nr'_813, sm'_814, h815, h816, h817, k818, h819, h820, h821, h822, p823, p824, p825, k826⟩
                              refine G_cast (st' := []) ?_ rfl rfl rfl rfl
                              have hmk0 := mkE0_b (hdK g p e mc) (mkF (hdK g p e mc) g t old N S m)
                              by_cases qf : fl'_810 = 0
                              · skip
                                have hgd := p824 qf
                                have hmz := p823.symm.trans qf
                                have hmk1 := mkE_1 (m := m) hmz
                                have hkK : kK (hdK g p e mc) = wc g p e := rfl
                                have hkV : kV (hdK g p e mc) = cvL g (4 * wc g p e).toNat (w3 g p e).2 0 := rfl
                                have hot : ∀ i, 0 ≤ i → i < (wZ g p e).1 → o'_811 (mc + i) = mkM m (mkF (hdK g p e mc) g t old N S m) (mc + i) := fun i h1 h2 => hgd.2 (mc + i) (by omega) (by omega)
                                have hmB : isB (mkM m (mkF (hdK g p e mc) g t old N S m)) := mkM_B hG hoB hm0
                                have h827 : F808 32 = .int (zI 0) := h817.trans (congrArg (fun z => Value.int (zI z)) (qf))
                                refine G_iload_n hX 5 rfl rfl d_Mo_readWindow_344 ?_
                                refine G_iconst hX d_Mo_readWindow_345 ?_
                                refine G_iand hX d_Mo_readWindow_346 ?_
                                refine G_top (show (zI (wk g p e) &&& zI 4) = zI (wc g p e * 4) from (zI_a4 (by omega)).trans (congrArg zI (by omega))) ?_
                                refine G_if_le_z hX (tgt := 382) d_Mo_readWindow_347 rfl (by omega) (fun c828 => ?_) (fun c829 => ?_)
                                · skip
                                  have h830 : F808 30 = .int (zI (wE g p e)) := (k818 30 (by decide)).trans ((k788 30 (by decide)).trans ((k776 30 (by decide)).trans ((k769 30 (by decide)).trans h762)))
                                  have h831 : F808 31 = .int (zI e) := (k818 31 (by decide)).trans ((k788 31 (by decide)).trans ((k776 31 (by decide)).trans h768))
                                  have h832 : f805 84 = iz E 3 (uz (uz (uz (uz (uz (uz ev 0 ((w1 g p e).1)) (0 + 1) ((w2 g p e).1)) ((0 + 1) + 1) ((w3 g p e).1)) 0 (((w3 g p e).2 + 4 * wc g p e) + ((w1 g p e).1))) (0 + 1) ((((w3 g p e).2 + 4 * wc g p e) + ((w1 g p e).1)) + ((w2 g p e).1))) ((0 + 1) + 1) (((((w3 g p e).2 + 4 * wc g p e) + ((w1 g p e).1)) + ((w2 g p e).1)) + ((w3 g p e).1))) := (k826 84 (by decide)).trans h793
                                  exact F_vret hX hE d_Mo_readWindow_382 ⟨rfl, F808, _, _, _, _, _, _, _, _, _, h815, h830, h831, h827, h816, (FrF.tr (FrF.tr (FrF.tr (FrF.tr (FrF.tr (FrF.tr (FrF.tr (FrF.tr (FrF.tr (FrF.tr (FrF.tr (FrF.tr (FrF.tr (FrF.tr (FrF.tr FrF.rf k261 (by decide)) k325 (by decide)) k367 (by decide)) k391 (by decide)) k442 (by decide)) k470 (by decide)) k486 (by decide)) k577 (by decide)) k631 (by decide)) k674 (by decide)) k763 (by decide)) k769 (by decide)) k776 (by decide)) k788 (by decide)) k818 (by decide)), h819, h821, h822, h820, h832, (by rw [hres, hmk1, if_neg (fun q => absurd q.1 (by rw [hkK]; omega))]), (fun _ => ⟨by rw [← hkk.2.2.2.1.2.2.2.2], rfl, hgd.1, hgd.2⟩), (by omega), (Fr.tr (Fr.tr (Fr.tr (Fr.tr (Fr.tr (Fr.tr (Fr.tr (Fr.tr (Fr.tr (Fr.tr (Fr.tr (Fr.tr (Fr.tr (Fr.tr (Fr.tr (Fr.tr (Fr.tr (Fr.tr (Fr.tr (Fr.tr (Fr.tr (Fr.tr (Fr.tr (Fr.tr Fr.rf k262 (by decide)) k326 (by decide)) k368 (by decide)) k392 (by decide)) k443 (by decide)) k471 (by decide)) k487 (by decide)) k578 (by decide)) k583 (by decide)) k632 (by decide)) k637 (by decide)) k675 (by decide)) k680 (by decide)) k722 (by decide)) k727 (by decide)) k736 (by decide)) k741 (by decide)) k750 (by decide)) k755 (by decide)) k764 (by decide)) k770 (by decide)) k777 (by decide)) k791 (by decide)) k826 (by decide))⟩
                                · skip
                                  refine G_aload_n hX 6 rfl rfl d_Mo_readWindow_350 ?_
                                  refine M_get hX fg_Mo_345 d_Mo_readWindow_351 h815 (by decide) h827 ?_
                                  refine G_if_ne_z hX (tgt := 382) d_Mo_readWindow_354 rfl (by omega) (fun c833 => by exfalso; omega) (fun c834 => ?_)
                                  refine G_aload_n hX 6 rfl rfl d_Mo_readWindow_357 ?_
                                  refine G_iconst hX d_Mo_readWindow_358 ?_
                                  refine G_aload_n hX 6 rfl rfl d_Mo_readWindow_359 ?_
                                  have h835 : F808 42 = .int (zI mc) := (k818 42 (by decide)).trans h796
                                  refine M_get hX fg_Mo_376 d_Mo_readWindow_360 h815 (by decide) h835 ?_
                                  refine G_aload_n hX 6 rfl rfl d_Mo_readWindow_363 ?_
                                  have h836 : F808 43 = .int (zI ((wZ g p e).1)) := (k818 43 (by decide)).trans h799
                                  refine M_get hX fg_Mo_389 d_Mo_readWindow_364 h815 (by decide) h836 ?_
                                  refine F_callV hX (st := []) (c_Mo_checkOut E f805 F808 mc ((wZ g p e).1) o'_811 (mkM m (mkF (hdK g p e mc) g t old N S m)) mc h815 (moK_fr hmk (FrF.tr (FrF.tr (FrF.tr (FrF.tr (FrF.tr (FrF.tr (FrF.tr (FrF.tr (FrF.tr (FrF.tr (FrF.tr (FrF.tr (FrF.tr (FrF.tr (FrF.tr (FrF.rf (S := [25, 26, 27, 30, 31, 32, 36, 39, 40, 41, 42, 43])) k261 (by decide)) k325 (by decide)) k367 (by decide)) k391 (by decide)) k442 (by decide)) k470 (by decide)) k486 (by decide)) k577 (by decide)) k631 (by decide)) k674 (by decide)) k763 (by decide)) k769 (by decide)) k776 (by decide)) k788 (by decide)) k818 (by decide)) (by decide)) h819 hmB hot (by omega)) cm_Mo_checkOf im_Mo_checkOf se_Mo_checkOf rfl ml_Mo_331 d_Mo_readWindow_367 (by decide) h815 rfl rfl (Nat.le_of_ble_eq_true rfl) (by decide) ?_
                                  rintro _ f837 ⟨rfl, e840⟩
                                  obtain rfl := e840.symm
                                  refine G_cast (st' := [.long (zL (adV (mkM m (mkF (hdK g p e mc) g t old N S m)) mc ((wZ g p e).1)))]) ?_ rfl rfl rfl rfl
                                  refine G_lload hX 1 rfl d_Mo_readWindow_370 ?_
                                  refine G_lcmp hX d_Mo_readWindow_372 ?_
                                  have hav := adV_b (mkM m (mkF (hdK g p e mc) g t old N S m)) mc (wZ g p e).1
                                  have hcm : lg_cmp (zL (adV (mkM m (mkF (hdK g p e mc) g t old N S m)) mc (wZ g p e).1)) (zL (0)) = 0 ↔ adV (mkM m (mkF (hdK g p e mc) g t old N S m)) mc (wZ g p e).1 = cvL g (4 * wc g p e).toNat (w3 g p e).2 0 := (lg_cmp_eq _ _).trans ((zL_eq (by rw [← hcv]; omega)).trans (by rw [hcv]))
                                  refine G_if_eq hX (tgt := 382) d_Mo_readWindow_373 rfl (fun c841 => ?_) (fun c842 => ?_)
                                  · skip
                                    have h843 : F808 30 = .int (zI (wE g p e)) := (k818 30 (by decide)).trans ((k788 30 (by decide)).trans ((k776 30 (by decide)).trans ((k769 30 (by decide)).trans h762)))
                                    have h844 : F808 31 = .int (zI e) := (k818 31 (by decide)).trans ((k788 31 (by decide)).trans ((k776 31 (by decide)).trans h768))
                                    have h845 : f805 84 = iz E 3 (uz (uz (uz (uz (uz (uz ev 0 ((w1 g p e).1)) (0 + 1) ((w2 g p e).1)) ((0 + 1) + 1) ((w3 g p e).1)) 0 (((w3 g p e).2 + 4 * wc g p e) + ((w1 g p e).1))) (0 + 1) ((((w3 g p e).2 + 4 * wc g p e) + ((w1 g p e).1)) + ((w2 g p e).1))) ((0 + 1) + 1) (((((w3 g p e).2 + 4 * wc g p e) + ((w1 g p e).1)) + ((w2 g p e).1)) + ((w3 g p e).1))) := (k826 84 (by decide)).trans h793
                                    exact F_vret hX hE d_Mo_readWindow_382 ⟨rfl, F808, _, _, _, _, _, _, _, _, _, h815, h843, h844, h827, h816, (FrF.tr (FrF.tr (FrF.tr (FrF.tr (FrF.tr (FrF.tr (FrF.tr (FrF.tr (FrF.tr (FrF.tr (FrF.tr (FrF.tr (FrF.tr (FrF.tr (FrF.tr FrF.rf k261 (by decide)) k325 (by decide)) k367 (by decide)) k391 (by decide)) k442 (by decide)) k470 (by decide)) k486 (by decide)) k577 (by decide)) k631 (by decide)) k674 (by decide)) k763 (by decide)) k769 (by decide)) k776 (by decide)) k788 (by decide)) k818 (by decide)), h819, h821, h822, h820, h845, (by rw [hres, hmk1, if_neg (fun q => q.2 (hcm.mp c841))]), (fun _ => ⟨by rw [← hkk.2.2.2.1.2.2.2.2], rfl, hgd.1, hgd.2⟩), (by omega), (Fr.tr (Fr.tr (Fr.tr (Fr.tr (Fr.tr (Fr.tr (Fr.tr (Fr.tr (Fr.tr (Fr.tr (Fr.tr (Fr.tr (Fr.tr (Fr.tr (Fr.tr (Fr.tr (Fr.tr (Fr.tr (Fr.tr (Fr.tr (Fr.tr (Fr.tr (Fr.tr (Fr.tr Fr.rf k262 (by decide)) k326 (by decide)) k368 (by decide)) k392 (by decide)) k443 (by decide)) k471 (by decide)) k487 (by decide)) k578 (by decide)) k583 (by decide)) k632 (by decide)) k637 (by decide)) k675 (by decide)) k680 (by decide)) k722 (by decide)) k727 (by decide)) k736 (by decide)) k741 (by decide)) k750 (by decide)) k755 (by decide)) k764 (by decide)) k770 (by decide)) k777 (by decide)) k791 (by decide)) k826 (by decide))⟩
                                  · skip
                                    refine G_aload_n hX 6 rfl rfl d_Mo_readWindow_376 ?_
                                    refine G_bipush hX (by decide) d_Mo_readWindow_377 ?_
                                    refine F_callV hX (st := []) (c_Mo_refuse E f805 F808 (-6) h815 (moK_fr hmk (FrF.tr (FrF.tr (FrF.tr (FrF.tr (FrF.tr (FrF.tr (FrF.tr (FrF.tr (FrF.tr (FrF.tr (FrF.tr (FrF.tr (FrF.tr (FrF.tr (FrF.tr (FrF.rf (S := [25, 26, 27, 30, 31, 32, 36, 39, 40, 41, 42, 43])) k261 (by decide)) k325 (by decide)) k367 (by decide)) k391 (by decide)) k442 (by decide)) k470 (by decide)) k486 (by decide)) k577 (by decide)) k631 (by decide)) k674 (by decide)) k763 (by decide)) k769 (by decide)) k776 (by decide)) k788 (by decide)) k818 (by decide)) (by decide)) h827) cm_Mo_refuse im_Mo_refuse se_Mo_refuse rfl ml_Mo_354 d_Mo_readWindow_379 (by decide) h815 rfl rfl (Nat.le_of_ble_eq_true rfl) (by decide) ?_
                                    rintro _ f846 ⟨rfl, F849, h850, h851, k852, k853⟩
                                    refine G_cast (st' := []) ?_ rfl rfl rfl rfl
                                    have h854 : F849 30 = .int (zI (wE g p e)) := (k852 30 (by decide)).trans ((k818 30 (by decide)).trans ((k788 30 (by decide)).trans ((k776 30 (by decide)).trans ((k769 30 (by decide)).trans h762))))
                                    have h855 : F849 31 = .int (zI e) := (k852 31 (by decide)).trans ((k818 31 (by decide)).trans ((k788 31 (by decide)).trans ((k776 31 (by decide)).trans h768)))
                                    have h856 : F849 36 = .int (zI c'_809) := (k852 36 (by decide)).trans h816
                                    have h857 : f846 82 = iz E 1536 o'_811 := (k853 82 (by decide)).trans h819
                                    have h858 : f846 78 = iz E 8 nr'_813 := (k853 78 (by decide)).trans h821
                                    have h859 : f846 79 = iz E 1024 sm'_814 := (k853 79 (by decide)).trans h822
                                    have h860 : f846 83 = iz E 3 av'_812 := (k853 83 (by decide)).trans h820
                                    have h861 : f846 84 = iz E 3 (uz (uz (uz (uz (uz (uz ev 0 ((w1 g p e).1)) (0 + 1) ((w2 g p e).1)) ((0 + 1) + 1) ((w3 g p e).1)) 0 (((w3 g p e).2 + 4 * wc g p e) + ((w1 g p e).1))) (0 + 1) ((((w3 g p e).2 + 4 * wc g p e) + ((w1 g p e).1)) + ((w2 g p e).1))) ((0 + 1) + 1) (((((w3 g p e).2 + 4 * wc g p e) + ((w1 g p e).1)) + ((w2 g p e).1)) + ((w3 g p e).1))) := (k853 84 (by decide)).trans ((k826 84 (by decide)).trans h793)
                                    exact F_vret hX hE d_Mo_readWindow_382 ⟨rfl, F849, _, _, _, _, _, _, _, _, _, h850, h854, h855, h851, h856, (FrF.tr (FrF.tr (FrF.tr (FrF.tr (FrF.tr (FrF.tr (FrF.tr (FrF.tr (FrF.tr (FrF.tr (FrF.tr (FrF.tr (FrF.tr (FrF.tr (FrF.tr (FrF.tr FrF.rf k261 (by decide)) k325 (by decide)) k367 (by decide)) k391 (by decide)) k442 (by decide)) k470 (by decide)) k486 (by decide)) k577 (by decide)) k631 (by decide)) k674 (by decide)) k763 (by decide)) k769 (by decide)) k776 (by decide)) k788 (by decide)) k818 (by decide)) k852 (by decide)), h857, h858, h859, h860, h861, (by rw [hres, hmk1, if_pos ⟨by rw [hkK]; omega, fun q => c842 (hcm.mpr q)⟩]), (fun q => absurd q (by decide)), (by omega), (Fr.tr (Fr.tr (Fr.tr (Fr.tr (Fr.tr (Fr.tr (Fr.tr (Fr.tr (Fr.tr (Fr.tr (Fr.tr (Fr.tr (Fr.tr (Fr.tr (Fr.tr (Fr.tr (Fr.tr (Fr.tr (Fr.tr (Fr.tr (Fr.tr (Fr.tr (Fr.tr (Fr.tr (Fr.tr Fr.rf k262 (by decide)) k326 (by decide)) k368 (by decide)) k392 (by decide)) k443 (by decide)) k471 (by decide)) k487 (by decide)) k578 (by decide)) k583 (by decide)) k632 (by decide)) k637 (by decide)) k675 (by decide)) k680 (by decide)) k722 (by decide)) k727 (by decide)) k736 (by decide)) k741 (by decide)) k750 (by decide)) k755 (by decide)) k764 (by decide)) k770 (by decide)) k777 (by decide)) k791 (by decide)) k826 (by decide)) k853 (by decide))⟩
                              · skip
                                have hfl2 : fl'_810 = -2 := by rw [p823] at qf ⊢; rcases hmk0 with q | q; exact absurd q qf; exact q
                                have hdd : fl'_810 = (if ¬ hdA g p e mc oc nm = 0 then hdA g p e mc oc nm else mkE (hdK g p e mc) (mkF (hdK g p e mc) g t old N S m)) := by rw [hres, mkE_0 (by rw [← p823]; exact qf)]; exact p823
                                refine G_iload_n hX 5 rfl rfl d_Mo_readWindow_344 ?_
                                refine G_iconst hX d_Mo_readWindow_345 ?_
                                refine G_iand hX d_Mo_readWindow_346 ?_
                                refine G_top (show (zI (wk g p e) &&& zI 4) = zI (wc g p e * 4) from (zI_a4 (by omega)).trans (congrArg zI (by omega))) ?_
                                refine G_if_le_z hX (tgt := 382) d_Mo_readWindow_347 rfl (by omega) (fun c862 => ?_) (fun c863 => ?_)
                                · skip
                                  have h864 : F808 30 = .int (zI (wE g p e)) := (k818 30 (by decide)).trans ((k788 30 (by decide)).trans ((k776 30 (by decide)).trans ((k769 30 (by decide)).trans h762)))
                                  have h865 : F808 31 = .int (zI e) := (k818 31 (by decide)).trans ((k788 31 (by decide)).trans ((k776 31 (by decide)).trans h768))
                                  have h866 : f805 84 = iz E 3 (uz (uz (uz (uz (uz (uz ev 0 ((w1 g p e).1)) (0 + 1) ((w2 g p e).1)) ((0 + 1) + 1) ((w3 g p e).1)) 0 (((w3 g p e).2 + 4 * wc g p e) + ((w1 g p e).1))) (0 + 1) ((((w3 g p e).2 + 4 * wc g p e) + ((w1 g p e).1)) + ((w2 g p e).1))) ((0 + 1) + 1) (((((w3 g p e).2 + 4 * wc g p e) + ((w1 g p e).1)) + ((w2 g p e).1)) + ((w3 g p e).1))) := (k826 84 (by decide)).trans h793
                                  exact F_vret hX hE d_Mo_readWindow_382 ⟨rfl, F808, _, _, _, _, _, _, _, _, _, h815, h864, h865, h817, h816, (FrF.tr (FrF.tr (FrF.tr (FrF.tr (FrF.tr (FrF.tr (FrF.tr (FrF.tr (FrF.tr (FrF.tr (FrF.tr (FrF.tr (FrF.tr (FrF.tr (FrF.tr FrF.rf k261 (by decide)) k325 (by decide)) k367 (by decide)) k391 (by decide)) k442 (by decide)) k470 (by decide)) k486 (by decide)) k577 (by decide)) k631 (by decide)) k674 (by decide)) k763 (by decide)) k769 (by decide)) k776 (by decide)) k788 (by decide)) k818 (by decide)), h819, h821, h822, h820, h866, hdd, (fun q => absurd q qf), (by omega), (Fr.tr (Fr.tr (Fr.tr (Fr.tr (Fr.tr (Fr.tr (Fr.tr (Fr.tr (Fr.tr (Fr.tr (Fr.tr (Fr.tr (Fr.tr (Fr.tr (Fr.tr (Fr.tr (Fr.tr (Fr.tr (Fr.tr (Fr.tr (Fr.tr (Fr.tr (Fr.tr (Fr.tr Fr.rf k262 (by decide)) k326 (by decide)) k368 (by decide)) k392 (by decide)) k443 (by decide)) k471 (by decide)) k487 (by decide)) k578 (by decide)) k583 (by decide)) k632 (by decide)) k637 (by decide)) k675 (by decide)) k680 (by decide)) k722 (by decide)) k727 (by decide)) k736 (by decide)) k741 (by decide)) k750 (by decide)) k755 (by decide)) k764 (by decide)) k770 (by decide)) k777 (by decide)) k791 (by decide)) k826 (by decide))⟩
                                · skip
                                  refine G_aload_n hX 6 rfl rfl d_Mo_readWindow_350 ?_
                                  refine M_get hX fg_Mo_345 d_Mo_readWindow_351 h815 (by decide) h817 ?_
                                  refine G_if_ne_z hX (tgt := 382) d_Mo_readWindow_354 rfl (by omega) (fun c867 => ?_) (fun c868 => by exfalso; omega)
                                  have h869 : F808 30 = .int (zI (wE g p e)) := (k818 30 (by decide)).trans ((k788 30 (by decide)).trans ((k776 30 (by decide)).trans ((k769 30 (by decide)).trans h762)))
                                  have h870 : F808 31 = .int (zI e) := (k818 31 (by decide)).trans ((k788 31 (by decide)).trans ((k776 31 (by decide)).trans h768))
                                  have h871 : f805 84 = iz E 3 (uz (uz (uz (uz (uz (uz ev 0 ((w1 g p e).1)) (0 + 1) ((w2 g p e).1)) ((0 + 1) + 1) ((w3 g p e).1)) 0 (((w3 g p e).2 + 4 * wc g p e) + ((w1 g p e).1))) (0 + 1) ((((w3 g p e).2 + 4 * wc g p e) + ((w1 g p e).1)) + ((w2 g p e).1))) ((0 + 1) + 1) (((((w3 g p e).2 + 4 * wc g p e) + ((w1 g p e).1)) + ((w2 g p e).1)) + ((w3 g p e).1))) := (k826 84 (by decide)).trans h793
                                  exact F_vret hX hE d_Mo_readWindow_382 ⟨rfl, F808, _, _, _, _, _, _, _, _, _, h815, h869, h870, h817, h816, (FrF.tr (FrF.tr (FrF.tr (FrF.tr (FrF.tr (FrF.tr (FrF.tr (FrF.tr (FrF.tr (FrF.tr (FrF.tr (FrF.tr (FrF.tr (FrF.tr (FrF.tr FrF.rf k261 (by decide)) k325 (by decide)) k367 (by decide)) k391 (by decide)) k442 (by decide)) k470 (by decide)) k486 (by decide)) k577 (by decide)) k631 (by decide)) k674 (by decide)) k763 (by decide)) k769 (by decide)) k776 (by decide)) k788 (by decide)) k818 (by decide)), h819, h821, h822, h820, h871, hdd, (fun q => absurd q qf), (by omega), (Fr.tr (Fr.tr (Fr.tr (Fr.tr (Fr.tr (Fr.tr (Fr.tr (Fr.tr (Fr.tr (Fr.tr (Fr.tr (Fr.tr (Fr.tr (Fr.tr (Fr.tr (Fr.tr (Fr.tr (Fr.tr (Fr.tr (Fr.tr (Fr.tr (Fr.tr (Fr.tr (Fr.tr Fr.rf k262 (by decide)) k326 (by decide)) k368 (by decide)) k392 (by decide)) k443 (by decide)) k471 (by decide)) k487 (by decide)) k578 (by decide)) k583 (by decide)) k632 (by decide)) k637 (by decide)) k675 (by decide)) k680 (by decide)) k722 (by decide)) k727 (by decide)) k736 (by decide)) k741 (by decide)) k750 (by decide)) k755 (by decide)) k764 (by decide)) k770 (by decide)) k777 (by decide)) k791 (by decide)) k826 (by decide))⟩
                          · skip
                            have hwc1 : wc g p e = 1 := by omega
                            by_cases q4 : (w3 g p e).2 + 4 ≤ wE g p e
                            · skip
                              refine G_lconst hX (v := zL 0) (by decide) d_Mo_readWindow_158 ?_
                              refine G_lstore hX (lv' := [(7, .long (zL 0)), (6, .int (zI (wQ g p e))), (5, .int (zI ((wY g p e).1))), (4, .int (zI e)), (3, .int (zI (wk g p e))), (0, .ref (eA E 61)), (1, .int (zI N)), (2, .int (zI S))]) (by decide) rfl d_Mo_readWindow_159 ?_
                              refine G_iconst hX d_Mo_readWindow_161 ?_
                              refine G_istore hX (lv' := [(9, .int (zI 0)), (7, .long (zL 0)), (6, .int (zI (wQ g p e))), (5, .int (zI ((wY g p e).1))), (4, .int (zI e)), (3, .int (zI (wk g p e))), (0, .ref (eA E 61)), (1, .int (zI N)), (2, .int (zI S))]) (by decide) rfl d_Mo_readWindow_162 ?_
                              refine G_iload hX 0 rfl d_Mo_readWindow_164 ?_
                              refine G_iconst hX d_Mo_readWindow_166 ?_
                              refine G_icmp_ge_z hX (tgt := 196) d_Mo_readWindow_167 rfl (by omega) (fun c872 => by exfalso; omega) (fun c873 => ?_)
                              refine G_iload_n hX 5 rfl rfl d_Mo_readWindow_170 ?_
                              refine G_iconst hX d_Mo_readWindow_171 ?_
                              refine G_iand hX d_Mo_readWindow_172 ?_
                              refine G_top (show (zI (wk g p e) &&& zI 4) = zI 4 from (zI_a4 (by omega)).trans (congrArg zI (by omega))) ?_
                              refine G_if_le_z hX (tgt := 196) d_Mo_readWindow_173 rfl (by omega) (fun c874 => by exfalso; omega) (fun c875 => ?_)
                              refine G_ldc2 hX kn_Mo_180 d_Mo_readWindow_176 ?_
                              refine G_topl (show (256 : Int64) = zL (256) from by decide) ?_
                              refine G_lload hX 1 rfl d_Mo_readWindow_179 ?_
                              refine G_lmul_z hX d_Mo_readWindow_181 ?_
                              have b876 := hG ((w3 g p e).2)
                              refine G_aload_n hX 6 rfl rfl d_Mo_readWindow_182 ?_
                              have h877 : f678 61 = mob F671 := (k680 61 (by decide)).trans h672
                              have h878 : F671 31 = .int (zI (wE g p e)) := (k674 31 (by decide)).trans h665
                              have h879 : F671 32 = .int (zI 0) := (k674 32 (by decide)).trans h666
                              have h880 : f678 63 = iz E 1600 b := (k680 63 (by decide)).trans ((k675 63 (by decide)).trans h667)
                              refine F_callV hX (st := [.long (zL (256 * 0))]) (c_Mo_readByte_ok E f678 F671 ((w3 g p e).2) (wE g p e) b g sE h877 (moK_fr hmk (FrF.tr (FrF.tr (FrF.tr (FrF.tr (FrF.tr (FrF.tr (FrF.tr (FrF.tr (FrF.tr (FrF.tr (FrF.rf (S := [30, 31, 39, 40, 41, 43])) k261 (by decide)) k325 (by decide)) k367 (by decide)) k391 (by decide)) k442 (by decide)) k470 (by decide)) k486 (by decide)) k577 (by decide)) k631 (by decide)) k674 (by decide)) (by decide)) h676 h878 h879 h880 hG hgb (by omega)) cm_Mo_readByte im_Mo_readByte se_Mo_readByte rfl ml_Mo_357 d_Mo_readWindow_183 (by decide) h877 rfl rfl (Nat.le_of_ble_eq_true rfl) (by decide) ?_
                              rintro _ f881 ⟨rfl, F884, h885, h886, k887, k888⟩
                              refine G_cast (st' := [.int (zI (g ((w3 g p e).2))), .long (zL (256 * 0))]) ?_ rfl rfl rfl rfl
                              refine G_i2l hX (v := zL (g ((w3 g p e).2))) (zI_l (by omega)) d_Mo_readWindow_186 ?_
                              refine G_ladd_z hX d_Mo_readWindow_187 ?_
                              refine G_lstore hX (lv' := [(7, .long (zL ((256 * 0) + (g ((w3 g p e).2))))), (9, .int (zI 0)), (6, .int (zI (wQ g p e))), (5, .int (zI ((wY g p e).1))), (4, .int (zI e)), (3, .int (zI (wk g p e))), (0, .ref (eA E 61)), (1, .int (zI N)), (2, .int (zI S))]) (by decide) rfl d_Mo_readWindow_188 ?_
                              refine G_iinc_z hX (lv' := [(9, .int (zI (0 + 1))), (7, .long (zL ((256 * 0) + (g ((w3 g p e).2))))), (6, .int (zI (wQ g p e))), (5, .int (zI ((wY g p e).1))), (4, .int (zI e)), (3, .int (zI (wk g p e))), (0, .ref (eA E 61)), (1, .int (zI N)), (2, .int (zI S))]) 1 rfl (by decide) rfl d_Mo_readWindow_190 ?_
                              refine G_goto hX (tgt := 164) d_Mo_readWindow_193 rfl ?_
                              refine G_iload hX 0 rfl d_Mo_readWindow_164 ?_
                              refine G_iconst hX d_Mo_readWindow_166 ?_
                              refine G_icmp_ge_z hX (tgt := 196) d_Mo_readWindow_167 rfl (by omega) (fun c889 => by exfalso; omega) (fun c890 => ?_)
                              refine G_iload_n hX 5 rfl rfl d_Mo_readWindow_170 ?_
                              refine G_iconst hX d_Mo_readWindow_171 ?_
                              refine G_iand hX d_Mo_readWindow_172 ?_
                              refine G_top (show (zI (wk g p e) &&& zI 4) = zI 4 from (zI_a4 (by omega)).trans (congrArg zI (by omega))) ?_
                              refine G_if_le_z hX (tgt := 196) d_Mo_readWindow_173 rfl (by omega) (fun c891 => by exfalso; omega) (fun c892 => ?_)
                              refine G_ldc2 hX kn_Mo_180 d_Mo_readWindow_176 ?_
                              refine G_topl (show (256 : Int64) = zL (256) from by decide) ?_
                              refine G_lload hX 1 rfl d_Mo_readWindow_179 ?_
                              refine G_lmul_z hX d_Mo_readWindow_181 ?_
                              have b893 := hG (((w3 g p e).2) + 1)
                              refine G_aload_n hX 6 rfl rfl d_Mo_readWindow_182 ?_
                              have h894 : F884 31 = .int (zI (wE g p e)) := (k887 31 (by decide)).trans h878
                              have h895 : F884 32 = .int (zI 0) := (k887 32 (by decide)).trans h879
                              have h896 : f881 63 = iz E 1600 b := (k888 63 (by decide)).trans h880
                              refine F_callV hX (st := [.long (zL (256 * ((256 * 0) + (g ((w3 g p e).2)))))]) (c_Mo_readByte_ok E f881 F884 (((w3 g p e).2) + 1) (wE g p e) b g sE h885 (moK_fr hmk (FrF.tr (FrF.tr (FrF.tr (FrF.tr (FrF.tr (FrF.tr (FrF.tr (FrF.tr (FrF.tr (FrF.tr (FrF.tr (FrF.rf (S := [30, 31, 39, 40, 41, 43])) k261 (by decide)) k325 (by decide)) k367 (by decide)) k391 (by decide)) k442 (by decide)) k470 (by decide)) k486 (by decide)) k577 (by decide)) k631 (by decide)) k674 (by decide)) k887 (by decide)) (by decide)) h886 h894 h895 h896 hG hgb (by omega)) cm_Mo_readByte im_Mo_readByte se_Mo_readByte rfl ml_Mo_357 d_Mo_readWindow_183 (by decide) h885 rfl rfl (Nat.le_of_ble_eq_true rfl) (by decide) ?_
                              rintro _ f897 ⟨rfl, F900, h901, h902, k903, k904⟩
                              refine G_cast (st' := [.int (zI (g (((w3 g p e).2) + 1))), .long (zL (256 * ((256 * 0) + (g ((w3 g p e).2)))))]) ?_ rfl rfl rfl rfl
                              refine G_i2l hX (v := zL (g (((w3 g p e).2) + 1))) (zI_l (by omega)) d_Mo_readWindow_186 ?_
                              refine G_ladd_z hX d_Mo_readWindow_187 ?_
                              refine G_lstore hX (lv' := [(7, .long (zL ((256 * ((256 * 0) + (g ((w3 g p e).2)))) + (g (((w3 g p e).2) + 1))))), (9, .int (zI (0 + 1))), (6, .int (zI (wQ g p e))), (5, .int (zI ((wY g p e).1))), (4, .int (zI e)), (3, .int (zI (wk g p e))), (0, .ref (eA E 61)), (1, .int (zI N)), (2, .int (zI S))]) (by decide) rfl d_Mo_readWindow_188 ?_
                              refine G_iinc_z hX (lv' := [(9, .int (zI ((0 + 1) + 1))), (7, .long (zL ((256 * ((256 * 0) + (g ((w3 g p e).2)))) + (g (((w3 g p e).2) + 1))))), (6, .int (zI (wQ g p e))), (5, .int (zI ((wY g p e).1))), (4, .int (zI e)), (3, .int (zI (wk g p e))), (0, .ref (eA E 61)), (1, .int (zI N)), (2, .int (zI S))]) 1 rfl (by decide) rfl d_Mo_readWindow_190 ?_
                              refine G_goto hX (tgt := 164) d_Mo_readWindow_193 rfl ?_
                              refine G_iload hX 0 rfl d_Mo_readWindow_164 ?_
                              refine G_iconst hX d_Mo_readWindow_166 ?_
                              refine G_icmp_ge_z hX (tgt := 196) d_Mo_readWindow_167 rfl (by omega) (fun c905 => by exfalso; omega) (fun c906 => ?_)
                              refine G_iload_n hX 5 rfl rfl d_Mo_readWindow_170 ?_
                              refine G_iconst hX d_Mo_readWindow_171 ?_
                              refine G_iand hX d_Mo_readWindow_172 ?_
                              refine G_top (show (zI (wk g p e) &&& zI 4) = zI 4 from (zI_a4 (by omega)).trans (congrArg zI (by omega))) ?_
                              refine G_if_le_z hX (tgt := 196) d_Mo_readWindow_173 rfl (by omega) (fun c907 => by exfalso; omega) (fun c908 => ?_)
                              refine G_ldc2 hX kn_Mo_180 d_Mo_readWindow_176 ?_
                              refine G_topl (show (256 : Int64) = zL (256) from by decide) ?_
                              refine G_lload hX 1 rfl d_Mo_readWindow_179 ?_
                              refine G_lmul_z hX d_Mo_readWindow_181 ?_
                              have b909 := hG ((((w3 g p e).2) + 1) + 1)
                              refine G_aload_n hX 6 rfl rfl d_Mo_readWindow_182 ?_
                              have h910 : F900 31 = .int (zI (wE g p e)) := (k903 31 (by decide)).trans h894
                              have h911 : F900 32 = .int (zI 0) := (k903 32 (by decide)).trans h895
                              have h912 : f897 63 = iz E 1600 b := (k904 63 (by decide)).trans h896
                              refine F_callV hX (st := [.long (zL (256 * ((256 * ((256 * 0) + (g ((w3 g p e).2)))) + (g (((w3 g p e).2) + 1)))))]) (c_Mo_readByte_ok E f897 F900 ((((w3 g p e).2) + 1) + 1) (wE g p e) b g sE h901 (moK_fr hmk (FrF.tr (FrF.tr (FrF.tr (FrF.tr (FrF.tr (FrF.tr (FrF.tr (FrF.tr (FrF.tr (FrF.tr (FrF.tr (FrF.tr (FrF.rf (S := [30, 31, 39, 40, 41, 43])) k261 (by decide)) k325 (by decide)) k367 (by decide)) k391 (by decide)) k442 (by decide)) k470 (by decide)) k486 (by decide)) k577 (by decide)) k631 (by decide)) k674 (by decide)) k887 (by decide)) k903 (by decide)) (by decide)) h902 h910 h911 h912 hG hgb (by omega)) cm_Mo_readByte im_Mo_readByte se_Mo_readByte rfl ml_Mo_357 d_Mo_readWindow_183 (by decide) h901 rfl rfl (Nat.le_of_ble_eq_true rfl) (by decide) ?_
                              rintro _ f913 ⟨rfl, F916, h917, h918, k919, k920⟩
                              refine G_cast (st' := [.int (zI (g ((((w3 g p e).2) + 1) + 1))), .long (zL (256 * ((256 * ((256 * 0) + (g ((w3 g p e).2)))) + (g (((w3 g p e).2) + 1)))))]) ?_ rfl rfl rfl rfl
                              refine G_i2l hX (v := zL (g ((((w3 g p e).2) + 1) + 1))) (zI_l (by omega)) d_Mo_readWindow_186 ?_
                              refine G_ladd_z hX d_Mo_readWindow_187 ?_
                              refine G_lstore hX (lv' := [(7, .long (zL ((256 * ((256 * ((256 * 0) + (g ((w3 g p e).2)))) + (g (((w3 g p e).2) + 1)))) + (g ((((w3 g p e).2) + 1) + 1))))), (9, .int (zI ((0 + 1) + 1))), (6, .int (zI (wQ g p e))), (5, .int (zI ((wY g p e).1))), (4, .int (zI e)), (3, .int (zI (wk g p e))), (0, .ref (eA E 61)), (1, .int (zI N)), (2, .int (zI S))]) (by decide) rfl d_Mo_readWindow_188 ?_
                              refine G_iinc_z hX (lv' := [(9, .int (zI (((0 + 1) + 1) + 1))), (7, .long (zL ((256 * ((256 * ((256 * 0) + (g ((w3 g p e).2)))) + (g (((w3 g p e).2) + 1)))) + (g ((((w3 g p e).2) + 1) + 1))))), (6, .int (zI (wQ g p e))), (5, .int (zI ((wY g p e).1))), (4, .int (zI e)), (3, .int (zI (wk g p e))), (0, .ref (eA E 61)), (1, .int (zI N)), (2, .int (zI S))]) 1 rfl (by decide) rfl d_Mo_readWindow_190 ?_
                              refine G_goto hX (tgt := 164) d_Mo_readWindow_193 rfl ?_
                              refine G_iload hX 0 rfl d_Mo_readWindow_164 ?_
                              refine G_iconst hX d_Mo_readWindow_166 ?_
                              refine G_icmp_ge_z hX (tgt := 196) d_Mo_readWindow_167 rfl (by omega) (fun c921 => by exfalso; omega) (fun c922 => ?_)
                              refine G_iload_n hX 5 rfl rfl d_Mo_readWindow_170 ?_
                              refine G_iconst hX d_Mo_readWindow_171 ?_
                              refine G_iand hX d_Mo_readWindow_172 ?_
                              refine G_top (show (zI (wk g p e) &&& zI 4) = zI 4 from (zI_a4 (by omega)).trans (congrArg zI (by omega))) ?_
                              refine G_if_le_z hX (tgt := 196) d_Mo_readWindow_173 rfl (by omega) (fun c923 => by exfalso; omega) (fun c924 => ?_)
                              refine G_ldc2 hX kn_Mo_180 d_Mo_readWindow_176 ?_
                              refine G_topl (show (256 : Int64) = zL (256) from by decide) ?_
                              refine G_lload hX 1 rfl d_Mo_readWindow_179 ?_
                              refine G_lmul_z hX d_Mo_readWindow_181 ?_
                              have b925 := hG (((((w3 g p e).2) + 1) + 1) + 1)
                              refine G_aload_n hX 6 rfl rfl d_Mo_readWindow_182 ?_
                              have h926 : F916 31 = .int (zI (wE g p e)) := (k919 31 (by decide)).trans h910
                              have h927 : F916 32 = .int (zI 0) := (k919 32 (by decide)).trans h911
                              have h928 : f913 63 = iz E 1600 b := (k920 63 (by decide)).trans h912
                              refine F_callV hX (st := [.long (zL (256 * ((256 * ((256 * ((256 * 0) + (g ((w3 g p e).2)))) + (g (((w3 g p e).2) + 1)))) + (g ((((w3 g p e).2) + 1) + 1)))))]) (c_Mo_readByte_ok E f913 F916 (((((w3 g p e).2) + 1) + 1) + 1) (wE g p e) b g sE h917 (moK_fr hmk (FrF.tr (FrF.tr (FrF.tr (FrF.tr (FrF.tr (FrF.tr (FrF.tr (FrF.tr (FrF.tr (FrF.tr (FrF.tr (FrF.tr (FrF.tr (FrF.rf (S := [30, 31, 39, 40, 41, 43])) k261 (by decide)) k325 (by decide)) k367 (by decide)) k391 (by decide)) k442 (by decide)) k470 (by decide)) k486 (by decide)) k577 (by decide)) k631 (by decide)) k674 (by decide)) k887 (by decide)) k903 (by decide)) k919 (by decide)) (by decide)) h918 h926 h927 h928 hG hgb (by omega)) cm_Mo_readByte im_Mo_readByte se_Mo_readByte rfl ml_Mo_357 d_Mo_readWindow_183 (by decide) h917 rfl rfl (Nat.le_of_ble_eq_true rfl) (by decide) ?_
                              rintro _ f929 ⟨rfl, F932, h933, h934, k935, k936⟩
                              refine G_cast (st' := [.int (zI (g (((((w3 g p e).2) + 1) + 1) + 1))), .long (zL (256 * ((256 * ((256 * ((256 * 0) + (g ((w3 g p e).2)))) + (g (((w3 g p e).2) + 1)))) + (g ((((w3 g p e).2) + 1) + 1)))))]) ?_ rfl rfl rfl rfl
                              refine G_i2l hX (v := zL (g (((((w3 g p e).2) + 1) + 1) + 1))) (zI_l (by omega)) d_Mo_readWindow_186 ?_
                              refine G_ladd_z hX d_Mo_readWindow_187 ?_
                              refine G_lstore hX (lv' := [(7, .long (zL ((256 * ((256 * ((256 * ((256 * 0) + (g ((w3 g p e).2)))) + (g (((w3 g p e).2) + 1)))) + (g ((((w3 g p e).2) + 1) + 1)))) + (g (((((w3 g p e).2) + 1) + 1) + 1))))), (9, .int (zI (((0 + 1) + 1) + 1))), (6, .int (zI (wQ g p e))), (5, .int (zI ((wY g p e).1))), (4, .int (zI e)), (3, .int (zI (wk g p e))), (0, .ref (eA E 61)), (1, .int (zI N)), (2, .int (zI S))]) (by decide) rfl d_Mo_readWindow_188 ?_
                              refine G_iinc_z hX (lv' := [(9, .int (zI ((((0 + 1) + 1) + 1) + 1))), (7, .long (zL ((256 * ((256 * ((256 * ((256 * 0) + (g ((w3 g p e).2)))) + (g (((w3 g p e).2) + 1)))) + (g ((((w3 g p e).2) + 1) + 1)))) + (g (((((w3 g p e).2) + 1) + 1) + 1))))), (6, .int (zI (wQ g p e))), (5, .int (zI ((wY g p e).1))), (4, .int (zI e)), (3, .int (zI (wk g p e))), (0, .ref (eA E 61)), (1, .int (zI N)), (2, .int (zI S))]) 1 rfl (by decide) rfl d_Mo_readWindow_190 ?_
                              refine G_goto hX (tgt := 164) d_Mo_readWindow_193 rfl ?_
                              refine G_iload hX 0 rfl d_Mo_readWindow_164 ?_
                              refine G_iconst hX d_Mo_readWindow_166 ?_
                              refine G_icmp_ge_z hX (tgt := 196) d_Mo_readWindow_167 rfl (by omega) (fun c937 => ?_) (fun c938 => by exfalso; omega)
                              have hcv : cvL g (4 * wc g p e).toNat (w3 g p e).2 0 = (256 * ((256 * ((256 * ((256 * 0) + (g ((w3 g p e).2)))) + (g (((w3 g p e).2) + 1)))) + (g ((((w3 g p e).2) + 1) + 1)))) + (g (((((w3 g p e).2) + 1) + 1) + 1)) := by rw [hwc1]; rfl
                              have hvb : 0 ≤ cvL g (4 * wc g p e).toNat (w3 g p e).2 0 ∧ cvL g (4 * wc g p e).toNat (w3 g p e).2 0 < 4294967296 := by
                                rw [hwc1]
                                exact cvL_b hG _
                              have h939 : F932 30 = .int (zI ((w3 g p e).2 + 4 * wc g p e)) := h934.trans (congrArg (fun z => Value.int (zI z)) ((by omega)))
                              refine G_aload_n hX 6 rfl rfl d_Mo_readWindow_196 ?_
                              have h940 : F932 32 = .int (zI 0) := (k935 32 (by decide)).trans h927
                              refine M_get hX fg_Mo_345 d_Mo_readWindow_197 h933 (by decide) h940 ?_
                              refine G_if_ne_z hX (tgt := 240) d_Mo_readWindow_200 rfl (by omega) (fun c941 => by exfalso; omega) (fun c942 => ?_)
                              refine G_aload_n hX 6 rfl rfl d_Mo_readWindow_203 ?_
                              have h943 : F932 45 = .ref (eA E 84) := (k935 45 (by decide)).trans ((k919 45 (by decide)).trans ((k903 45 (by decide)).trans ((k887 45 (by decide)).trans ((k674 45 (by decide)).trans h641))))
                              refine M_get hX fg_Mo_148 d_Mo_readWindow_204 h933 (by decide) h943 ?_
                              refine G_iconst hX d_Mo_readWindow_207 ?_
                              have h944 : f929 84 = iz E 3 (uz (uz (uz ev 0 ((w1 g p e).1)) (0 + 1) ((w2 g p e).1)) ((0 + 1) + 1) ((w3 g p e).1)) := (k936 84 (by decide)).trans ((k920 84 (by decide)).trans ((k904 84 (by decide)).trans ((k888 84 (by decide)).trans h679)))
                              refine F_iald hX d_Mo_readWindow_208 84 (by decide) h944 (by omega) ?_
                              refine G_top (show zI ((uz (uz (uz ev 0 ((w1 g p e).1)) (0 + 1) ((w2 g p e).1)) ((0 + 1) + 1) ((w3 g p e).1)) 0) = zI ((w1 g p e).1) from rfl) ?_
                              refine G_i2l hX (v := zL ((w1 g p e).1)) (zI_l (by omega)) d_Mo_readWindow_209 ?_
                              refine G_aload_n hX 6 rfl rfl d_Mo_readWindow_210 ?_
                              refine M_get hX fg_Mo_148 d_Mo_readWindow_211 h933 (by decide) h943 ?_
                              refine G_iconst hX d_Mo_readWindow_214 ?_
                              refine F_iald hX d_Mo_readWindow_215 84 (by decide) h944 (by omega) ?_
                              refine G_top (show zI ((uz (uz (uz ev 0 ((w1 g p e).1)) (0 + 1) ((w2 g p e).1)) ((0 + 1) + 1) ((w3 g p e).1)) 1) = zI ((w2 g p e).1) from rfl) ?_
                              refine G_i2l hX (v := zL ((w2 g p e).1)) (zI_l (by omega)) d_Mo_readWindow_216 ?_
                              refine G_ladd_z hX d_Mo_readWindow_217 ?_
                              refine G_aload_n hX 6 rfl rfl d_Mo_readWindow_218 ?_
                              refine M_get hX fg_Mo_148 d_Mo_readWindow_219 h933 (by decide) h943 ?_
                              refine G_iconst hX d_Mo_readWindow_222 ?_
                              refine F_iald hX d_Mo_readWindow_223 84 (by decide) h944 (by omega) ?_
                              refine G_top (show zI ((uz (uz (uz ev 0 ((w1 g p e).1)) (0 + 1) ((w2 g p e).1)) ((0 + 1) + 1) ((w3 g p e).1)) 2) = zI ((w3 g p e).1) from rfl) ?_
                              refine G_i2l hX (v := zL ((w3 g p e).1)) (zI_l (by omega)) d_Mo_readWindow_224 ?_
                              refine G_ladd_z hX d_Mo_readWindow_225 ?_
                              refine G_aload_n hX 6 rfl rfl d_Mo_readWindow_226 ?_
                              have h945 : F932 31 = .int (zI (wE g p e)) := (k935 31 (by decide)).trans h926
                              refine M_get hX fg_Mo_351 d_Mo_readWindow_227 h933 (by decide) h945 ?_
                              refine G_aload_n hX 6 rfl rfl d_Mo_readWindow_230 ?_
                              refine M_get hX fg_Mo_348 d_Mo_readWindow_231 h933 (by decide) h939 ?_
                              refine G_isub_z hX d_Mo_readWindow_234 ?_
                              refine G_i2l hX (v := zL ((wE g p e) - ((w3 g p e).2 + 4 * wc g p e))) (zI_l (by omega)) d_Mo_readWindow_235 ?_
                              have hcm : lg_cmp (zL ((((w1 g p e).1) + ((w2 g p e).1)) + ((w3 g p e).1))) (zL ((wE g p e) - ((w3 g p e).2 + 4 * wc g p e))) = 0 ↔ (((w1 g p e).1) + ((w2 g p e).1)) + ((w3 g p e).1) = (wE g p e) - ((w3 g p e).2 + 4 * wc g p e) := (lg_cmp_eq _ _).trans (zL_eq (by omega))
                              by_cases hc9 : ¬ (w1 g p e).1 + (w2 g p e).1 + (w3 g p e).1 + 4 * wc g p e = wE g p e - (w3 g p e).2
                              · skip
                                have hda : hdA g p e mc oc nm = -2 := by unfold hdA; rw [if_neg hc1, if_neg hc2, if_neg hc3, if_neg hc4, if_neg hc5, if_neg hc6, if_neg hc7, if_neg hc8, if_pos hc9]
                                have hdd : (if ¬ hdA g p e mc oc nm = 0 then hdA g p e mc oc nm else mkE (hdK g p e mc) (mkF (hdK g p e mc) g t old N S m)) = -2 := by rw [hda]; exact if_pos (by decide)
                                refine G_lcmp hX d_Mo_readWindow_236 ?_
                                refine G_if_eq hX (tgt := 247) d_Mo_readWindow_237 rfl (fun c946 => by exact (hc9 (by have := hcm.mp c946; omega)).elim) (fun c947 => ?_)
                                refine G_aload_n hX 6 rfl rfl d_Mo_readWindow_240 ?_
                                refine G_bipush hX (by decide) d_Mo_readWindow_241 ?_
                                refine F_callV hX (st := []) (c_Mo_refuse E f929 F932 (-2) h933 (moK_fr hmk (FrF.tr (FrF.tr (FrF.tr (FrF.tr (FrF.tr (FrF.tr (FrF.tr (FrF.tr (FrF.tr (FrF.tr (FrF.tr (FrF.tr (FrF.tr (FrF.tr (FrF.rf (S := [30, 31, 39, 40, 41, 43])) k261 (by decide)) k325 (by decide)) k367 (by decide)) k391 (by decide)) k442 (by decide)) k470 (by decide)) k486 (by decide)) k577 (by decide)) k631 (by decide)) k674 (by decide)) k887 (by decide)) k903 (by decide)) k919 (by decide)) k935 (by decide)) (by decide)) h940) cm_Mo_refuse im_Mo_refuse se_Mo_refuse rfl ml_Mo_354 d_Mo_readWindow_243 (by decide) h933 rfl rfl (Nat.le_of_ble_eq_true rfl) (by decide) ?_
                                rintro _ f948 ⟨rfl, F951, h952, h953, k954, k955⟩
                                refine G_cast (st' := []) ?_ rfl rfl rfl rfl
                                have h956 : F951 30 = .int (zI ((w3 g p e).2 + 4 * wc g p e)) := (k954 30 (by decide)).trans h939
                                have h957 : F951 31 = .int (zI (wE g p e)) := (k954 31 (by decide)).trans h945
                                have h958 : F951 36 = .int (zI mc) := (k954 36 (by decide)).trans ((k935 36 (by decide)).trans ((k919 36 (by decide)).trans ((k903 36 (by decide)).trans ((k887 36 (by decide)).trans ((k674 36 (by decide)).trans ((k631 36 (by decide)).trans ((k577 36 (by decide)).trans ((k486 36 (by decide)).trans h472))))))))
                                have h959 : f948 82 = iz E 1536 o := (k955 82 (by decide)).trans ((k936 82 (by decide)).trans ((k920 82 (by decide)).trans ((k904 82 (by decide)).trans ((k888 82 (by decide)).trans ((k680 82 (by decide)).trans ((k675 82 (by decide)).trans ((k637 82 (by decide)).trans ((k632 82 (by decide)).trans ((k583 82 (by decide)).trans ((k578 82 (by decide)).trans ((k487 82 (by decide)).trans ((k471 82 (by decide)).trans ((k443 82 (by decide)).trans ((k392 82 (by decide)).trans ((k368 82 (by decide)).trans ((k326 82 (by decide)).trans ((k262 82 (by decide)).trans hc82)))))))))))))))))
                                have h960 : f948 78 = iz E 8 nr := (k955 78 (by decide)).trans ((k936 78 (by decide)).trans ((k920 78 (by decide)).trans ((k904 78 (by decide)).trans ((k888 78 (by decide)).trans ((k680 78 (by decide)).trans ((k675 78 (by decide)).trans ((k637 78 (by decide)).trans ((k632 78 (by decide)).trans ((k583 78 (by decide)).trans ((k578 78 (by decide)).trans ((k487 78 (by decide)).trans ((k471 78 (by decide)).trans ((k443 78 (by decide)).trans ((k392 78 (by decide)).trans ((k368 78 (by decide)).trans ((k326 78 (by decide)).trans ((k262 78 (by decide)).trans hc78)))))))))))))))))
                                have h961 : f948 79 = iz E 1024 sm := (k955 79 (by decide)).trans ((k936 79 (by decide)).trans ((k920 79 (by decide)).trans ((k904 79 (by decide)).trans ((k888 79 (by decide)).trans ((k680 79 (by decide)).trans ((k675 79 (by decide)).trans ((k637 79 (by decide)).trans ((k632 79 (by decide)).trans ((k583 79 (by decide)).trans ((k578 79 (by decide)).trans ((k487 79 (by decide)).trans ((k471 79 (by decide)).trans ((k443 79 (by decide)).trans ((k392 79 (by decide)).trans ((k368 79 (by decide)).trans ((k326 79 (by decide)).trans ((k262 79 (by decide)).trans hc79)))))))))))))))))
                                have h962 : f948 83 = iz E 3 av := (k955 83 (by decide)).trans ((k936 83 (by decide)).trans ((k920 83 (by decide)).trans ((k904 83 (by decide)).trans ((k888 83 (by decide)).trans ((k680 83 (by decide)).trans ((k675 83 (by decide)).trans ((k637 83 (by decide)).trans ((k632 83 (by decide)).trans ((k583 83 (by decide)).trans ((k578 83 (by decide)).trans ((k487 83 (by decide)).trans ((k471 83 (by decide)).trans ((k443 83 (by decide)).trans ((k392 83 (by decide)).trans ((k368 83 (by decide)).trans ((k326 83 (by decide)).trans ((k262 83 (by decide)).trans hc83)))))))))))))))))
                                have h963 : f948 84 = iz E 3 (uz (uz (uz ev 0 ((w1 g p e).1)) (0 + 1) ((w2 g p e).1)) ((0 + 1) + 1) ((w3 g p e).1)) := (k955 84 (by decide)).trans h944
                                exact F_vret hX hE d_Mo_readWindow_246 ⟨rfl, F951, _, _, _, _, _, _, _, _, _, h952, h956, h957, h953, h958, (FrF.tr (FrF.tr (FrF.tr (FrF.tr (FrF.tr (FrF.tr (FrF.tr (FrF.tr (FrF.tr (FrF.tr (FrF.tr (FrF.tr (FrF.tr (FrF.tr (FrF.tr FrF.rf k261 (by decide)) k325 (by decide)) k367 (by decide)) k391 (by decide)) k442 (by decide)) k470 (by decide)) k486 (by decide)) k577 (by decide)) k631 (by decide)) k674 (by decide)) k887 (by decide)) k903 (by decide)) k919 (by decide)) k935 (by decide)) k954 (by decide)), h959, h960, h961, h962, h963, hdd.symm, (fun q => absurd q (by decide)), (by omega), (Fr.tr (Fr.tr (Fr.tr (Fr.tr (Fr.tr (Fr.tr (Fr.tr (Fr.tr (Fr.tr (Fr.tr (Fr.tr (Fr.tr (Fr.tr (Fr.tr (Fr.tr (Fr.tr (Fr.tr (Fr.tr Fr.rf k262 (by decide)) k326 (by decide)) k368 (by decide)) k392 (by decide)) k443 (by decide)) k471 (by decide)) k487 (by decide)) k578 (by decide)) k583 (by decide)) k632 (by decide)) k637 (by decide)) k675 (by decide)) k680 (by decide)) k888 (by decide)) k904 (by decide)) k920 (by decide)) k936 (by decide)) k955 (by decide))⟩
                              · skip
                                have hda : hdA g p e mc oc nm = 0 := by unfold hdA; rw [if_neg hc1, if_neg hc2, if_neg hc3, if_neg hc4, if_neg hc5, if_neg hc6, if_neg hc7, if_neg hc8, if_neg hc9]
                                refine G_lcmp hX d_Mo_readWindow_236 ?_
                                refine G_if_eq hX (tgt := 247) d_Mo_readWindow_237 rfl (fun c964 => ?_) (fun c965 => by exact absurd (hcm.mpr (by omega)) c965)
                                have hkk := hdK_ok hG (show 0 ≤ p ∧ p ≤ e ∧ e ≤ 700 by omega) hda
                                have hz5 : kZ (hdK g p e mc) = (wZ g p e).1 := rfl
                                refine G_iconst hX d_Mo_readWindow_247 ?_
                                refine G_istore hX (lv' := [(9, .int (zI 0)), (7, .long (zL ((256 * ((256 * ((256 * ((256 * 0) + (g ((w3 g p e).2)))) + (g (((w3 g p e).2) + 1)))) + (g ((((w3 g p e).2) + 1) + 1)))) + (g (((((w3 g p e).2) + 1) + 1) + 1))))), (6, .int (zI (wQ g p e))), (5, .int (zI ((wY g p e).1))), (4, .int (zI e)), (3, .int (zI (wk g p e))), (0, .ref (eA E 61)), (1, .int (zI N)), (2, .int (zI S))]) (by decide) rfl d_Mo_readWindow_248 ?_
                                refine G_iload hX 0 rfl d_Mo_readWindow_250 ?_
                                refine G_iconst hX d_Mo_readWindow_252 ?_
                                refine G_icmp_ge_z hX (tgt := 312) d_Mo_readWindow_253 rfl (by omega) (fun c966 => by exfalso; omega) (fun c967 => ?_)
                                refine G_aload_n hX 6 rfl rfl d_Mo_readWindow_256 ?_
                                have h968 : F932 44 = .ref (eA E 83) := (k935 44 (by decide)).trans ((k919 44 (by decide)).trans ((k903 44 (by decide)).trans ((k887 44 (by decide)).trans ((k674 44 (by decide)).trans ((k631 44 (by decide)).trans ((k577 44 (by decide)).trans ((k486 44 (by decide)).trans ((k470 44 (by decide)).trans ((k442 44 (by decide)).trans ((k391 44 (by decide)).trans ((k367 44 (by decide)).trans ((k325 44 (by decide)).trans ((k261 44 (by decide)).trans (hmk 44 83 (by decide)))))))))))))))
                                refine M_get hX fg_Mo_145 d_Mo_readWindow_257 h933 (by decide) h968 ?_
                                refine G_iload hX 0 rfl d_Mo_readWindow_260 ?_
                                refine G_iload hX 0 rfl d_Mo_readWindow_262 ?_
                                refine G_if_ne_z hX (tgt := 274) d_Mo_readWindow_264 rfl (by omega) (fun c969 => by exfalso; omega) (fun c970 => ?_)
                                refine G_aload_n hX 6 rfl rfl d_Mo_readWindow_267 ?_
                                refine M_get hX fg_Mo_348 d_Mo_readWindow_268 h933 (by decide) h939 ?_
                                refine G_goto hX (tgt := 283) d_Mo_readWindow_271 rfl ?_
                                have h971 : f929 83 = iz E 3 av := (k936 83 (by decide)).trans ((k920 83 (by decide)).trans ((k904 83 (by decide)).trans ((k888 83 (by decide)).trans ((k680 83 (by decide)).trans ((k675 83 (by decide)).trans ((k637 83 (by decide)).trans ((k632 83 (by decide)).trans ((k583 83 (by decide)).trans ((k578 83 (by decide)).trans ((k487 83 (by decide)).trans ((k471 83 (by decide)).trans ((k443 83 (by decide)).trans ((k392 83 (by decide)).trans ((k368 83 (by decide)).trans ((k326 83 (by decide)).trans ((k262 83 (by decide)).trans hc83))))))))))))))))
                                refine F_iast hX d_Mo_readWindow_283 83 (by decide) h971 (by omega) (fun f972 h973 k974 => ?_)
                                refine G_aload_n hX 6 rfl rfl d_Mo_readWindow_284 ?_
                                have h975 : f972 61 = mob F932 := (k974 61 (by decide)).trans h933
                                refine M_get hX fg_Mo_148 d_Mo_readWindow_285 h975 (by decide) h943 ?_
                                refine G_iload hX 0 rfl d_Mo_readWindow_288 ?_
                                refine G_aload_n hX 6 rfl rfl d_Mo_readWindow_290 ?_
                                refine M_get hX fg_Mo_145 d_Mo_readWindow_291 h975 (by decide) h968 ?_
                                refine G_iload hX 0 rfl d_Mo_readWindow_294 ?_
                                refine F_iald hX d_Mo_readWindow_296 83 (by decide) h973 (by omega) ?_
                                refine G_top (show zI ((uz av 0 ((w3 g p e).2 + 4 * wc g p e)) 0) = zI ((w3 g p e).2 + 4 * wc g p e) from rfl) ?_
                                refine G_aload_n hX 6 rfl rfl d_Mo_readWindow_297 ?_
                                refine M_get hX fg_Mo_148 d_Mo_readWindow_298 h975 (by decide) h943 ?_
                                refine G_iload hX 0 rfl d_Mo_readWindow_301 ?_
                                have h976 : f972 84 = iz E 3 (uz (uz (uz ev 0 ((w1 g p e).1)) (0 + 1) ((w2 g p e).1)) ((0 + 1) + 1) ((w3 g p e).1)) := (k974 84 (by decide)).trans h944
                                refine F_iald hX d_Mo_readWindow_303 84 (by decide) h976 (by omega) ?_
                                refine G_top (show zI ((uz (uz (uz ev 0 ((w1 g p e).1)) (0 + 1) ((w2 g p e).1)) ((0 + 1) + 1) ((w3 g p e).1)) 0) = zI ((w1 g p e).1) from rfl) ?_
                                refine G_iadd_z hX d_Mo_readWindow_304 ?_
                                refine F_iast hX d_Mo_readWindow_305 84 (by decide) h976 (by omega) (fun f977 h978 k979 => ?_)
                                refine G_iinc_z hX (lv' := [(9, .int (zI (0 + 1))), (7, .long (zL ((256 * ((256 * ((256 * ((256 * 0) + (g ((w3 g p e).2)))) + (g (((w3 g p e).2) + 1)))) + (g ((((w3 g p e).2) + 1) + 1)))) + (g (((((w3 g p e).2) + 1) + 1) + 1))))), (6, .int (zI (wQ g p e))), (5, .int (zI ((wY g p e).1))), (4, .int (zI e)), (3, .int (zI (wk g p e))), (0, .ref (eA E 61)), (1, .int (zI N)), (2, .int (zI S))]) 0 rfl (by decide) rfl d_Mo_readWindow_306 ?_
                                refine G_goto hX (tgt := 250) d_Mo_readWindow_309 rfl ?_
                                refine G_iload hX 0 rfl d_Mo_readWindow_250 ?_
                                refine G_iconst hX d_Mo_readWindow_252 ?_
                                refine G_icmp_ge_z hX (tgt := 312) d_Mo_readWindow_253 rfl (by omega) (fun c980 => by exfalso; omega) (fun c981 => ?_)
                                refine G_aload_n hX 6 rfl rfl d_Mo_readWindow_256 ?_
                                have h982 : f977 61 = mob F932 := (k979 61 (by decide)).trans h975
                                refine M_get hX fg_Mo_145 d_Mo_readWindow_257 h982 (by decide) h968 ?_
                                refine G_iload hX 0 rfl d_Mo_readWindow_260 ?_
                                refine G_iload hX 0 rfl d_Mo_readWindow_262 ?_
                                refine G_if_ne_z hX (tgt := 274) d_Mo_readWindow_264 rfl (by omega) (fun c983 => ?_) (fun c984 => by exfalso; omega)
                                refine G_aload_n hX 6 rfl rfl d_Mo_readWindow_274 ?_
                                refine M_get hX fg_Mo_148 d_Mo_readWindow_275 h982 (by decide) h943 ?_
                                refine G_iload hX 0 rfl d_Mo_readWindow_278 ?_
                                refine G_iconst hX d_Mo_readWindow_280 ?_
                                refine G_isub_z hX d_Mo_readWindow_281 ?_
                                refine F_iald hX d_Mo_readWindow_282 84 (by decide) h978 (by omega) ?_
                                refine G_top (show zI ((uz (uz (uz (uz ev 0 ((w1 g p e).1)) (0 + 1) ((w2 g p e).1)) ((0 + 1) + 1) ((w3 g p e).1)) 0 (((w3 g p e).2 + 4 * wc g p e) + ((w1 g p e).1))) ((0 + 1) - 1)) = zI (((w3 g p e).2 + 4 * wc g p e) + ((w1 g p e).1)) from rfl) ?_
                                have h985 : f977 83 = iz E 3 (uz av 0 ((w3 g p e).2 + 4 * wc g p e)) := (k979 83 (by decide)).trans h973
                                refine F_iast hX d_Mo_readWindow_283 83 (by decide) h985 (by omega) (fun f986 h987 k988 => ?_)
                                refine G_aload_n hX 6 rfl rfl d_Mo_readWindow_284 ?_
                                have h989 : f986 61 = mob F932 := (k988 61 (by decide)).trans h982
                                refine M_get hX fg_Mo_148 d_Mo_readWindow_285 h989 (by decide) h943 ?_
                                refine G_iload hX 0 rfl d_Mo_readWindow_288 ?_
                                refine G_aload_n hX 6 rfl rfl d_Mo_readWindow_290 ?_
                                refine M_get hX fg_Mo_145 d_Mo_readWindow_291 h989 (by decide) h968 ?_
                                refine G_iload hX 0 rfl d_Mo_readWindow_294 ?_
                                refine F_iald hX d_Mo_readWindow_296 83 (by decide) h987 (by omega) ?_
                                refine G_top (show zI ((uz (uz av 0 ((w3 g p e).2 + 4 * wc g p e)) (0 + 1) (((w3 g p e).2 + 4 * wc g p e) + ((w1 g p e).1))) (0 + 1)) = zI (((w3 g p e).2 + 4 * wc g p e) + ((w1 g p e).1)) from rfl) ?_
                                refine G_aload_n hX 6 rfl rfl d_Mo_readWindow_297 ?_
                                refine M_get hX fg_Mo_148 d_Mo_readWindow_298 h989 (by decide) h943 ?_
                                refine G_iload hX 0 rfl d_Mo_readWindow_301 ?_
                                have h990 : f986 84 = iz E 3 (uz (uz (uz (uz ev 0 ((w1 g p e).1)) (0 + 1) ((w2 g p e).1)) ((0 + 1) + 1) ((w3 g p e).1)) 0 (((w3 g p e).2 + 4 * wc g p e) + ((w1 g p e).1))) := (k988 84 (by decide)).trans h978
                                refine F_iald hX d_Mo_readWindow_303 84 (by decide) h990 (by omega) ?_
                                refine G_top (show zI ((uz (uz (uz (uz ev 0 ((w1 g p e).1)) (0 + 1) ((w2 g p e).1)) ((0 + 1) + 1) ((w3 g p e).1)) 0 (((w3 g p e).2 + 4 * wc g p e) + ((w1 g p e).1))) (0 + 1)) = zI ((w2 g p e).1) from rfl) ?_
                                refine G_iadd_z hX d_Mo_readWindow_304 ?_
                                refine F_iast hX d_Mo_readWindow_305 84 (by decide) h990 (by omega) (fun f991 h992 k993 => ?_)
                                refine G_iinc_z hX (lv' := [(9, .int (zI ((0 + 1) + 1))), (7, .long (zL ((256 * ((256 * ((256 * ((256 * 0) + (g ((w3 g p e).2)))) + (g (((w3 g p e).2) + 1)))) + (g ((((w3 g p e).2) + 1) + 1)))) + (g (((((w3 g p e).2) + 1) + 1) + 1))))), (6, .int (zI (wQ g p e))), (5, .int (zI ((wY g p e).1))), (4, .int (zI e)), (3, .int (zI (wk g p e))), (0, .ref (eA E 61)), (1, .int (zI N)), (2, .int (zI S))]) 0 rfl (by decide) rfl d_Mo_readWindow_306 ?_
                                refine G_goto hX (tgt := 250) d_Mo_readWindow_309 rfl ?_
                                refine G_iload hX 0 rfl d_Mo_readWindow_250 ?_
                                refine G_iconst hX d_Mo_readWindow_252 ?_
                                refine G_icmp_ge_z hX (tgt := 312) d_Mo_readWindow_253 rfl (by omega) (fun c994 => by exfalso; omega) (fun c995 => ?_)
                                refine G_aload_n hX 6 rfl rfl d_Mo_readWindow_256 ?_
                                have h996 : f991 61 = mob F932 := (k993 61 (by decide)).trans h989
                                refine M_get hX fg_Mo_145 d_Mo_readWindow_257 h996 (by decide) h968 ?_
                                refine G_iload hX 0 rfl d_Mo_readWindow_260 ?_
                                refine G_iload hX 0 rfl d_Mo_readWindow_262 ?_
                                refine G_if_ne_z hX (tgt := 274) d_Mo_readWindow_264 rfl (by omega) (fun c997 => ?_) (fun c998 => by exfalso; omega)
                                refine G_aload_n hX 6 rfl rfl d_Mo_readWindow_274 ?_
                                refine M_get hX fg_Mo_148 d_Mo_readWindow_275 h996 (by decide) h943 ?_
                                refine G_iload hX 0 rfl d_Mo_readWindow_278 ?_
                                refine G_iconst hX d_Mo_readWindow_280 ?_
                                refine G_isub_z hX d_Mo_readWindow_281 ?_
                                refine F_iald hX d_Mo_readWindow_282 84 (by decide) h992 (by omega) ?_
                                refine G_top (show zI ((uz (uz (uz (uz (uz ev 0 ((w1 g p e).1)) (0 + 1) ((w2 g p e).1)) ((0 + 1) + 1) ((w3 g p e).1)) 0 (((w3 g p e).2 + 4 * wc g p e) + ((w1 g p e).1))) (0 + 1) ((((w3 g p e).2 + 4 * wc g p e) + ((w1 g p e).1)) + ((w2 g p e).1))) (((0 + 1) + 1) - 1)) = zI ((((w3 g p e).2 + 4 * wc g p e) + ((w1 g p e).1)) + ((w2 g p e).1)) from rfl) ?_
                                have h999 : f991 83 = iz E 3 (uz (uz av 0 ((w3 g p e).2 + 4 * wc g p e)) (0 + 1) (((w3 g p e).2 + 4 * wc g p e) + ((w1 g p e).1))) := (k993 83 (by decide)).trans h987
                                refine F_iast hX d_Mo_readWindow_283 83 (by decide) h999 (by omega) (fun f1000 h1001 k1002 => ?_)
                                refine G_aload_n hX 6 rfl rfl d_Mo_readWindow_284 ?_
                                have h1003 : f1000 61 = mob F932 := (k1002 61 (by decide)).trans h996
                                refine M_get hX fg_Mo_148 d_Mo_readWindow_285 h1003 (by decide) h943 ?_
                                refine G_iload hX 0 rfl d_Mo_readWindow_288 ?_
                                refine G_aload_n hX 6 rfl rfl d_Mo_readWindow_290 ?_
                                refine M_get hX fg_Mo_145 d_Mo_readWindow_291 h1003 (by decide) h968 ?_
                                refine G_iload hX 0 rfl d_Mo_readWindow_294 ?_
                                refine F_iald hX d_Mo_readWindow_296 83 (by decide) h1001 (by omega) ?_
                                refine G_top (show zI ((uz (uz (uz av 0 ((w3 g p e).2 + 4 * wc g p e)) (0 + 1) (((w3 g p e).2 + 4 * wc g p e) + ((w1 g p e).1))) ((0 + 1) + 1) ((((w3 g p e).2 + 4 * wc g p e) + ((w1 g p e).1)) + ((w2 g p e).1))) ((0 + 1) + 1)) = zI ((((w3 g p e).2 + 4 * wc g p e) + ((w1 g p e).1)) + ((w2 g p e).1)) from rfl) ?_
                                refine G_aload_n hX 6 rfl rfl d_Mo_readWindow_297 ?_
                                refine M_get hX fg_Mo_148 d_Mo_readWindow_298 h1003 (by decide) h943 ?_
                                refine G_iload hX 0 rfl d_Mo_readWindow_301 ?_
                                have h1004 : f1000 84 = iz E 3 (uz (uz (uz (uz (uz ev 0 ((w1 g p e).1)) (0 + 1) ((w2 g p e).1)) ((0 + 1) + 1) ((w3 g p e).1)) 0 (((w3 g p e).2 + 4 * wc g p e) + ((w1 g p e).1))) (0 + 1) ((((w3 g p e).2 + 4 * wc g p e) + ((w1 g p e).1)) + ((w2 g p e).1))) := (k1002 84 (by decide)).trans h992
                                refine F_iald hX d_Mo_readWindow_303 84 (by decide) h1004 (by omega) ?_
                                refine G_top (show zI ((uz (uz (uz (uz (uz ev 0 ((w1 g p e).1)) (0 + 1) ((w2 g p e).1)) ((0 + 1) + 1) ((w3 g p e).1)) 0 (((w3 g p e).2 + 4 * wc g p e) + ((w1 g p e).1))) (0 + 1) ((((w3 g p e).2 + 4 * wc g p e) + ((w1 g p e).1)) + ((w2 g p e).1))) ((0 + 1) + 1)) = zI ((w3 g p e).1) from rfl) ?_
                                refine G_iadd_z hX d_Mo_readWindow_304 ?_
                                refine F_iast hX d_Mo_readWindow_305 84 (by decide) h1004 (by omega) (fun f1005 h1006 k1007 => ?_)
                                refine G_iinc_z hX (lv' := [(9, .int (zI (((0 + 1) + 1) + 1))), (7, .long (zL ((256 * ((256 * ((256 * ((256 * 0) + (g ((w3 g p e).2)))) + (g (((w3 g p e).2) + 1)))) + (g ((((w3 g p e).2) + 1) + 1)))) + (g (((((w3 g p e).2) + 1) + 1) + 1))))), (6, .int (zI (wQ g p e))), (5, .int (zI ((wY g p e).1))), (4, .int (zI e)), (3, .int (zI (wk g p e))), (0, .ref (eA E 61)), (1, .int (zI N)), (2, .int (zI S))]) 0 rfl (by decide) rfl d_Mo_readWindow_306 ?_
                                refine G_goto hX (tgt := 250) d_Mo_readWindow_309 rfl ?_
                                refine G_iload hX 0 rfl d_Mo_readWindow_250 ?_
                                refine G_iconst hX d_Mo_readWindow_252 ?_
                                refine G_icmp_ge_z hX (tgt := 312) d_Mo_readWindow_253 rfl (by omega) (fun c1008 => ?_) (fun c1009 => by exfalso; omega)
                                refine G_aload_n hX 6 rfl rfl d_Mo_readWindow_312 ?_
                                refine G_aload_n hX 6 rfl rfl d_Mo_readWindow_313 ?_
                                have h1010 : f1005 61 = mob F932 := (k1007 61 (by decide)).trans h1003
                                refine M_get hX fg_Mo_351 d_Mo_readWindow_314 h1010 (by decide) h945 ?_
                                refine M_put hX fg_Mo_348 fp_Mo_30 d_Mo_readWindow_317 h1010 rfl rfl (by decide) (fun f1011 F1012 h1013 h1014 k1015 k1016 => ?_)
                                refine G_aload_n hX 6 rfl rfl d_Mo_readWindow_320 ?_
                                refine G_iload hX 4 rfl d_Mo_readWindow_321 ?_
                                refine M_put hX fg_Mo_351 fp_Mo_31 d_Mo_readWindow_323 h1013 rfl rfl (by decide) (fun f1017 F1018 h1019 h1020 k1021 k1022 => ?_)
                                refine G_aload_n hX 6 rfl rfl d_Mo_readWindow_326 ?_
                                refine G_aload_n hX 6 rfl rfl d_Mo_readWindow_327 ?_
                                have h1023 : F1018 36 = .int (zI mc) := (k1021 36 (by decide)).trans ((k1015 36 (by decide)).trans ((k935 36 (by decide)).trans ((k919 36 (by decide)).trans ((k903 36 (by decide)).trans ((k887 36 (by decide)).trans ((k674 36 (by decide)).trans ((k631 36 (by decide)).trans ((k577 36 (by decide)).trans ((k486 36 (by decide)).trans h472)))))))))
                                refine M_get hX fg_Mo_386 d_Mo_readWindow_328 h1019 (by decide) h1023 ?_
                                refine M_put hX fg_Mo_376 fp_Mo_42 d_Mo_readWindow_331 h1019 rfl rfl (by decide) (fun f1024 F1025 h1026 h1027 k1028 k1029 => ?_)
                                refine G_aload_n hX 6 rfl rfl d_Mo_readWindow_334 ?_
                                refine G_iload_n hX 7 rfl rfl d_Mo_readWindow_335 ?_
                                refine G_iload_n hX 8 rfl rfl d_Mo_readWindow_336 ?_
                                have h1030 : f1024 78 = iz E 8 nr := (k1029 78 (by decide)).trans ((k1022 78 (by decide)).trans ((k1016 78 (by decide)).trans ((k1007 78 (by decide)).trans ((k1002 78 (by decide)).trans ((k993 78 (by decide)).trans ((k988 78 (by decide)).trans ((k979 78 (by decide)).trans ((k974 78 (by decide)).trans ((k936 78 (by decide)).trans ((k920 78 (by decide)).trans ((k904 78 (by decide)).trans ((k888 78 (by decide)).trans ((k680 78 (by decide)).trans ((k675 78 (by decide)).trans ((k637 78 (by decide)).trans ((k632 78 (by decide)).trans ((k583 78 (by decide)).trans ((k578 78 (by decide)).trans ((k487 78 (by decide)).trans ((k471 78 (by decide)).trans ((k443 78 (by decide)).trans ((k392 78 (by decide)).trans ((k368 78 (by decide)).trans ((k326 78 (by decide)).trans ((k262 78 (by decide)).trans hc78)))))))))))))))))))))))))
                                have h1031 : f1024 79 = iz E 1024 sm := (k1029 79 (by decide)).trans ((k1022 79 (by decide)).trans ((k1016 79 (by decide)).trans ((k1007 79 (by decide)).trans ((k1002 79 (by decide)).trans ((k993 79 (by decide)).trans ((k988 79 (by decide)).trans ((k979 79 (by decide)).trans ((k974 79 (by decide)).trans ((k936 79 (by decide)).trans ((k920 79 (by decide)).trans ((k904 79 (by decide)).trans ((k888 79 (by decide)).trans ((k680 79 (by decide)).trans ((k675 79 (by decide)).trans ((k637 79 (by decide)).trans ((k632 79 (by decide)).trans ((k583 79 (by decide)).trans ((k578 79 (by decide)).trans ((k487 79 (by decide)).trans ((k471 79 (by decide)).trans ((k443 79 (by decide)).trans ((k392 79 (by decide)).trans ((k368 79 (by decide)).trans ((k326 79 (by decide)).trans ((k262 79 (by decide)).trans hc79)))))))))))))))))))))))))
                                refine F_callV hX (st := []) (c_Mo_beginRows E f1024 F1025 N S nr sm h1026 (moK_fr hmk (FrF.tr (FrF.tr (FrF.tr (FrF.tr (FrF.tr (FrF.tr (FrF.tr (FrF.tr (FrF.tr (FrF.tr (FrF.tr (FrF.tr (FrF.tr (FrF.tr (FrF.tr (FrF.tr (FrF.tr (FrF.rf (S := [30, 31, 39, 40, 41, 42, 43])) k261 (by decide)) k325 (by decide)) k367 (by decide)) k391 (by decide)) k442 (by decide)) k470 (by decide)) k486 (by decide)) k577 (by decide)) k631 (by decide)) k674 (by decide)) k887 (by decide)) k903 (by decide)) k919 (by decide)) k935 (by decide)) k1015 (by decide)) k1021 (by decide)) k1028 (by decide)) (by decide)) h1030 h1031) cm_Mo_beginRows im_Mo_beginRows se_Mo_beginRows rfl ml_Mo_319 d_Mo_readWindow_337 (by decide) h1026 rfl rfl (Nat.le_of_ble_eq_true rfl) (by decide) ?_
                                rintro _ f1032 ⟨rfl, F1035, h1036, h1037, h1038, h1039, k1040, h1041, h1042, k1043⟩
                                refine G_cast (st' := []) ?_ rfl rfl rfl rfl
                                have h1044 : f1032 83 = iz E 3 (uz (uz (uz av 0 ((w3 g p e).2 + 4 * wc g p e)) (0 + 1) (((w3 g p e).2 + 4 * wc g p e) + ((w1 g p e).1))) ((0 + 1) + 1) ((((w3 g p e).2 + 4 * wc g p e) + ((w1 g p e).1)) + ((w2 g p e).1))) := (k1043 83 (by decide)).trans ((k1029 83 (by decide)).trans ((k1022 83 (by decide)).trans ((k1016 83 (by decide)).trans ((k1007 83 (by decide)).trans h1001))))
                                have h1045 : f1032 84 = iz E 3 (uz (uz (uz (uz (uz (uz ev 0 ((w1 g p e).1)) (0 + 1) ((w2 g p e).1)) ((0 + 1) + 1) ((w3 g p e).1)) 0 (((w3 g p e).2 + 4 * wc g p e) + ((w1 g p e).1))) (0 + 1) ((((w3 g p e).2 + 4 * wc g p e) + ((w1 g p e).1)) + ((w2 g p e).1))) ((0 + 1) + 1) (((((w3 g p e).2 + 4 * wc g p e) + ((w1 g p e).1)) + ((w2 g p e).1)) + ((w3 g p e).1))) := (k1043 84 (by decide)).trans ((k1029 84 (by decide)).trans ((k1022 84 (by decide)).trans ((k1016 84 (by decide)).trans h1006)))
                                have hkO : kO (hdK g p e mc) = wk g p e % 4 := rfl
                                have hkF : kF (hdK g p e mc) = (wS g p e).1 := rfl
                                have hkS : kS (hdK g p e mc) = (wS g p e).2.1 := rfl
                                have hkT : kT (hdK g p e mc) = mc := rfl
                                have hres : (if ¬ hdA g p e mc oc nm = 0 then hdA g p e mc oc nm else mkE (hdK g p e mc) (mkF (hdK g p e mc) g t old N S m)) = mkE (hdK g p e mc) (mkF (hdK g p e mc) g t old N S m) := if_neg (fun q => q hda)
                                have hsrc : (0 ≤ (wS g p e).2.1 ∧ 0 ≤ (wS g p e).1) ∧ (wk g p e % 4 = 2 → (wS g p e).1 + (wS g p e).2.1 ≤ mc) ∧ (¬ wk g p e % 4 = 2 → (wS g p e).1 + (wS g p e).2.1 ≤ oc) := by
                                  show (0 ≤ (sR g e (nxP p e) (wk g p e % 4)).2.1 ∧ 0 ≤ (sR g e (nxP p e) (wk g p e % 4)).1) ∧ (wk g p e % 4 = 2 → (sR g e (nxP p e) (wk g p e % 4)).1 + (sR g e (nxP p e) (wk g p e % 4)).2.1 ≤ mc) ∧ (¬ wk g p e % 4 = 2 → (sR g e (nxP p e) (wk g p e % 4)).1 + (sR g e (nxP p e) (wk g p e % 4)).2.1 ≤ oc)
                                  unfold sR
                                  by_cases q : wk g p e % 4 = 0
                                  · rw [if_pos q]; exact ⟨⟨Int.le_refl 0, Int.le_refl 0⟩, fun q2 => by omega, fun _ => show (0 : Int) + 0 ≤ oc by omega⟩
                                  · rw [if_neg q]
                                    have q5 := hc2p.resolve_left q
                                    refine ⟨⟨q5.1, q5.2.1⟩, fun q2 => ?_, fun q2 => ?_⟩
                                    · have q6 := q5.2.2; rw [if_pos q2] at q6; exact q6
                                    · have q6 := q5.2.2; rw [if_neg q2] at q6; exact q6
                                have h1046 : F1035 41 = .int (zI (if (wk g p e) % 4 = 2 then 1 else 0)) := (k1040 41 (by decide)).trans ((k1028 41 (by decide)).trans ((k1021 41 (by decide)).trans ((k1015 41 (by decide)).trans ((k935 41 (by decide)).trans ((k919 41 (by decide)).trans ((k903 41 (by decide)).trans ((k887 41 (by decide)).trans ((k674 41 (by decide)).trans ((k631 41 (by decide)).trans ((k577 41 (by decide)).trans ((k486 41 (by decide)).trans ((k470 41 (by decide)).trans ((k442 41 (by decide)).trans ((k391 41 (by decide)).trans ((k367 41 (by decide)).trans h321)))))))))))))))
                                have hoo : ((if (wk g p e) % 4 = 2 then 1 else 0 : Int) = 1 ∧ kO (hdK g p e mc) = 2) ∨ ((if (wk g p e) % 4 = 2 then 1 else 0 : Int) = 0 ∧ ¬ kO (hdK g p e mc) = 2) := by rw [hkO]; by_cases q : wk g p e % 4 = 2; exact Or.inl ⟨if_pos q, q⟩; exact Or.inr ⟨if_neg q, q⟩
                                refine G_aload_n hX 6 rfl rfl d_Mo_readWindow_340 ?_
                                have h1047 : F1035 40 = .int (zI ((wS g p e).2.1)) := (k1040 40 (by decide)).trans ((k1028 40 (by decide)).trans ((k1021 40 (by decide)).trans ((k1015 40 (by decide)).trans ((k935 40 (by decide)).trans ((k919 40 (by decide)).trans ((k903 40 (by decide)).trans ((k887 40 (by decide)).trans ((k674 40 (by decide)).trans ((k631 40 (by decide)).trans ((k577 40 (by decide)).trans ((k486 40 (by decide)).trans ((k470 40 (by decide)).trans ((k442 40 (by decide)).trans ((k391 40 (by decide)).trans ((k367 40 (by decide)).trans h329)))))))))))))))
                                have h1048 : F1035 42 = .int (zI mc) := (k1040 42 (by decide)).trans h1027
                                have h1049 : F1035 39 = .int (zI ((wS g p e).1)) := (k1040 39 (by decide)).trans ((k1028 39 (by decide)).trans ((k1021 39 (by decide)).trans ((k1015 39 (by decide)).trans ((k935 39 (by decide)).trans ((k919 39 (by decide)).trans ((k903 39 (by decide)).trans ((k887 39 (by decide)).trans ((k674 39 (by decide)).trans ((k631 39 (by decide)).trans ((k577 39 (by decide)).trans ((k486 39 (by decide)).trans ((k470 39 (by decide)).trans ((k442 39 (by decide)).trans ((k391 39 (by decide)).trans ((k367 39 (by decide)).trans h328)))))))))))))))
                                have h1050 : F1035 36 = .int (zI mc) := (k1040 36 (by decide)).trans ((k1028 36 (by decide)).trans h1023)
                                have h1051 : F1035 43 = .int (zI ((wZ g p e).1)) := (k1040 43 (by decide)).trans ((k1028 43 (by decide)).trans ((k1021 43 (by decide)).trans ((k1015 43 (by decide)).trans ((k935 43 (by decide)).trans ((k919 43 (by decide)).trans ((k903 43 (by decide)).trans ((k887 43 (by decide)).trans ((k674 43 (by decide)).trans ((k631 43 (by decide)).trans ((k577 43 (by decide)).trans ((k486 43 (by decide)).trans h469)))))))))))
                                have h1052 : F1035 32 = .int (zI 0) := (k1040 32 (by decide)).trans ((k1028 32 (by decide)).trans ((k1021 32 (by decide)).trans ((k1015 32 (by decide)).trans h940)))
                                have h1053 : f1032 81 = iz E 1536 ob := (k1043 81 (by decide)).trans ((k1029 81 (by decide)).trans ((k1022 81 (by decide)).trans ((k1016 81 (by decide)).trans ((k1007 81 (by decide)).trans ((k1002 81 (by decide)).trans ((k993 81 (by decide)).trans ((k988 81 (by decide)).trans ((k979 81 (by decide)).trans ((k974 81 (by decide)).trans ((k936 81 (by decide)).trans ((k920 81 (by decide)).trans ((k904 81 (by decide)).trans ((k888 81 (by decide)).trans ((k680 81 (by decide)).trans ((k675 81 (by decide)).trans ((k637 81 (by decide)).trans ((k632 81 (by decide)).trans ((k583 81 (by decide)).trans ((k578 81 (by decide)).trans ((k487 81 (by decide)).trans ((k471 81 (by decide)).trans ((k443 81 (by decide)).trans ((k392 81 (by decide)).trans ((k368 81 (by decide)).trans ((k326 81 (by decide)).trans ((k262 81 (by decide)).trans hc81))))))))))))))))))))))))))
                                have h1054 : f1032 82 = iz E 1536 o := (k1043 82 (by decide)).trans ((k1029 82 (by decide)).trans ((k1022 82 (by decide)).trans ((k1016 82 (by decide)).trans ((k1007 82 (by decide)).trans ((k1002 82 (by decide)).trans ((k993 82 (by decide)).trans ((k988 82 (by decide)).trans ((k979 82 (by decide)).trans ((k974 82 (by decide)).trans ((k936 82 (by decide)).trans ((k920 82 (by decide)).trans ((k904 82 (by decide)).trans ((k888 82 (by decide)).trans ((k680 82 (by decide)).trans ((k675 82 (by decide)).trans ((k637 82 (by decide)).trans ((k632 82 (by decide)).trans ((k583 82 (by decide)).trans ((k578 82 (by decide)).trans ((k487 82 (by decide)).trans ((k471 82 (by decide)).trans ((k443 82 (by decide)).trans ((k392 82 (by decide)).trans ((k368 82 (by decide)).trans ((k326 82 (by decide)).trans ((k262 82 (by decide)).trans hc82))))))))))))))))))))))))))
                                have h1055 : f1032 63 = iz E 1600 b := (k1043 63 (by decide)).trans ((k1029 63 (by decide)).trans ((k1022 63 (by decide)).trans ((k1016 63 (by decide)).trans ((k1007 63 (by decide)).trans ((k1002 63 (by decide)).trans ((k993 63 (by decide)).trans ((k988 63 (by decide)).trans ((k979 63 (by decide)).trans ((k974 63 (by decide)).trans ((k936 63 (by decide)).trans h928))))))))))
                                have h1056 : f1032 80 = iz E 1536 tb := (k1043 80 (by decide)).trans ((k1029 80 (by decide)).trans ((k1022 80 (by decide)).trans ((k1016 80 (by decide)).trans ((k1007 80 (by decide)).trans ((k1002 80 (by decide)).trans ((k993 80 (by decide)).trans ((k988 80 (by decide)).trans ((k979 80 (by decide)).trans ((k974 80 (by decide)).trans ((k936 80 (by decide)).trans ((k920 80 (by decide)).trans ((k904 80 (by decide)).trans ((k888 80 (by decide)).trans ((k680 80 (by decide)).trans ((k675 80 (by decide)).trans ((k637 80 (by decide)).trans ((k632 80 (by decide)).trans ((k583 80 (by decide)).trans ((k578 80 (by decide)).trans ((k487 80 (by decide)).trans ((k471 80 (by decide)).trans ((k443 80 (by decide)).trans ((k392 80 (by decide)).trans ((k368 80 (by decide)).trans ((k326 80 (by decide)).trans ((k262 80 (by decide)).trans hc80))))))))))))))))))))))))))
                                refine F_callV hX (st := []) (c_Mo_makeWindow E f1032 F1035 (hdK g p e mc) (if (wk g p e) % 4 = 2 then 1 else 0) N S t tb ob o old m oc (uz (uz (uz av 0 ((w3 g p e).2 + 4 * wc g p e)) (0 + 1) (((w3 g p e).2 + 4 * wc g p e) + ((w1 g p e).1))) ((0 + 1) + 1) ((((w3 g p e).2 + 4 * wc g p e) + ((w1 g p e).1)) + ((w2 g p e).1))) (uz (uz (uz (uz (uz (uz ev 0 ((w1 g p e).1)) (0 + 1) ((w2 g p e).1)) ((0 + 1) + 1) ((w3 g p e).1)) 0 (((w3 g p e).2 + 4 * wc g p e) + ((w1 g p e).1))) (0 + 1) ((((w3 g p e).2 + 4 * wc g p e) + ((w1 g p e).1)) + ((w2 g p e).1))) ((0 + 1) + 1) (((((w3 g p e).2 + 4 * wc g p e) + ((w1 g p e).1)) + ((w2 g p e).1)) + ((w3 g p e).1))) b g sE h1036 (moK_fr hmk (FrF.tr (FrF.tr (FrF.tr (FrF.tr (FrF.tr (FrF.tr (FrF.tr (FrF.tr (FrF.tr (FrF.tr (FrF.tr (FrF.tr (FrF.tr (FrF.tr (FrF.tr (FrF.tr (FrF.tr (FrF.tr (FrF.rf (S := [25, 26, 27, 30, 31, 39, 40, 41, 42, 43])) k261 (by decide)) k325 (by decide)) k367 (by decide)) k391 (by decide)) k442 (by decide)) k470 (by decide)) k486 (by decide)) k577 (by decide)) k631 (by decide)) k674 (by decide)) k887 (by decide)) k903 (by decide)) k919 (by decide)) k935 (by decide)) k1015 (by decide)) k1021 (by decide)) k1028 (by decide)) k1040 (by decide)) (by decide)) h1037 h1038 h1039 h1052 h1050 h1049 h1047 h1046 h1048 h1051 h1053 h1054 h1041 h1042 h1044 h1045 h1055 h1056 hoo ⟨⟨by omega, hsrc.1⟩, hsrc.2.1, hsrc.2.2, by omega⟩ hold hout (by omega) (by omega) (by omega) ⟨rfl, rfl, rfl⟩ ⟨rfl, rfl, rfl⟩ htb htB ht3 hG hgb) cm_Mo_makeWindow im_Mo_makeWindow se_Mo_makeWindow rfl ml_Mo_410 d_Mo_readWindow_341 (by decide) h1036 rfl rfl (Nat.le_of_ble_eq_true rfl) (by decide) ?_
                                rintro _ f1057 ⟨rfl, F1060, c'_1061, fl'_1062, o'_1063, av'_1064, nr'_1065, sm'_1066, h1067, h1068, h1069, k1070, h1071, h1072, h1073, h1074, p1075, p1076, p1077, k1078⟩
                                refine G_cast (st' := []) ?_ rfl rfl rfl rfl
                                have hmk0 := mkE0_b (hdK g p e mc) (mkF (hdK g p e mc) g t old N S m)
                                by_cases qf : fl'_1062 = 0
                                · skip
                                  have hgd := p1076 qf
                                  have hmz := p1075.symm.trans qf
                                  have hmk1 := mkE_1 (m := m) hmz
                                  have hkK : kK (hdK g p e mc) = wc g p e := rfl
                                  have hkV : kV (hdK g p e mc) = cvL g (4 * wc g p e).toNat (w3 g p e).2 0 := rfl
                                  have hot : ∀ i, 0 ≤ i → i < (wZ g p e).1 → o'_1063 (mc + i) = mkM m (mkF (hdK g p e mc) g t old N S m) (mc + i) := fun i h1 h2 => hgd.2 (mc + i) (by omega) (by omega)
                                  have hmB : isB (mkM m (mkF (hdK g p e mc) g t old N S m)) := mkM_B hG hoB hm0
                                  have h1079 : F1060 32 = .int (zI 0) := h1069.trans (congrArg (fun z => Value.int (zI z)) (qf))
                                  refine G_iload_n hX 5 rfl rfl d_Mo_readWindow_344 ?_
                                  refine G_iconst hX d_Mo_readWindow_345 ?_
                                  refine G_iand hX d_Mo_readWindow_346 ?_
                                  refine G_top (show (zI (wk g p e) &&& zI 4) = zI (wc g p e * 4) from (zI_a4 (by omega)).trans (congrArg zI (by omega))) ?_
                                  refine G_if_le_z hX (tgt := 382) d_Mo_readWindow_347 rfl (by omega) (fun c1080 => ?_) (fun c1081 => ?_)
                                  · skip
                                    have h1082 : F1060 30 = .int (zI (wE g p e)) := (k1070 30 (by decide)).trans ((k1040 30 (by decide)).trans ((k1028 30 (by decide)).trans ((k1021 30 (by decide)).trans h1014)))
                                    have h1083 : F1060 31 = .int (zI e) := (k1070 31 (by decide)).trans ((k1040 31 (by decide)).trans ((k1028 31 (by decide)).trans h1020))
                                    have h1084 : f1057 84 = iz E 3 (uz (uz (uz (uz (uz (uz ev 0 ((w1 g p e).1)) (0 + 1) ((w2 g p e).1)) ((0 + 1) + 1) ((w3 g p e).1)) 0 (((w3 g p e).2 + 4 * wc g p e) + ((w1 g p e).1))) (0 + 1) ((((w3 g p e).2 + 4 * wc g p e) + ((w1 g p e).1)) + ((w2 g p e).1))) ((0 + 1) + 1) (((((w3 g p e).2 + 4 * wc g p e) + ((w1 g p e).1)) + ((w2 g p e).1)) + ((w3 g p e).1))) := (k1078 84 (by decide)).trans h1045
                                    exact F_vret hX hE d_Mo_readWindow_382 ⟨rfl, F1060, _, _, _, _, _, _, _, _, _, h1067, h1082, h1083, h1079, h1068, (FrF.tr (FrF.tr (FrF.tr (FrF.tr (FrF.tr (FrF.tr (FrF.tr (FrF.tr (FrF.tr (FrF.tr (FrF.tr (FrF.tr (FrF.tr (FrF.tr (FrF.tr (FrF.tr (FrF.tr (FrF.tr (FrF.tr FrF.rf k261 (by decide)) k325 (by decide)) k367 (by decide)) k391 (by decide)) k442 (by decide)) k470 (by decide)) k486 (by decide)) k577 (by decide)) k631 (by decide)) k674 (by decide)) k887 (by decide)) k903 (by decide)) k919 (by decide)) k935 (by decide)) k1015 (by decide)) k1021 (by decide)) k1028 (by decide)) k1040 (by decide)) k1070 (by decide)), h1071, h1073, h1074, h1072, h1084, (by rw [hres, hmk1, if_neg (fun q => absurd q.1 (by rw [hkK]; omega))]), (fun _ => ⟨by rw [← hkk.2.2.2.1.2.2.2.2], rfl, hgd.1, hgd.2⟩), (by omega), (Fr.tr (Fr.tr (Fr.tr (Fr.tr (Fr.tr (Fr.tr (Fr.tr (Fr.tr (Fr.tr (Fr.tr (Fr.tr (Fr.tr (Fr.tr (Fr.tr (Fr.tr (Fr.tr (Fr.tr (Fr.tr (Fr.tr (Fr.tr (Fr.tr (Fr.tr (Fr.tr (Fr.tr (Fr.tr (Fr.tr (Fr.tr (Fr.tr Fr.rf k262 (by decide)) k326 (by decide)) k368 (by decide)) k392 (by decide)) k443 (by decide)) k471 (by decide)) k487 (by decide)) k578 (by decide)) k583 (by decide)) k632 (by decide)) k637 (by decide)) k675 (by decide)) k680 (by decide)) k888 (by decide)) k904 (by decide)) k920 (by decide)) k936 (by decide)) k974 (by decide)) k979 (by decide)) k988 (by decide)) k993 (by decide)) k1002 (by decide)) k1007 (by decide)) k1016 (by decide)) k1022 (by decide)) k1029 (by decide)) k1043 (by decide)) k1078 (by decide))⟩
                                  · skip
                                    refine G_aload_n hX 6 rfl rfl d_Mo_readWindow_350 ?_
                                    refine M_get hX fg_Mo_345 d_Mo_readWindow_351 h1067 (by decide) h1079 ?_
                                    refine G_if_ne_z hX (tgt := 382) d_Mo_readWindow_354 rfl (by omega) (fun c1085 => by exfalso; omega) (fun c1086 => ?_)
                                    refine G_aload_n hX 6 rfl rfl d_Mo_readWindow_357 ?_
                                    refine G_iconst hX d_Mo_readWindow_358 ?_
                                    refine G_aload_n hX 6 rfl rfl d_Mo_readWindow_359 ?_
                                    have h1087 : F1060 42 = .int (zI mc) := (k1070 42 (by decide)).trans h1048
                                    refine M_get hX fg_Mo_376 d_Mo_readWindow_360 h1067 (by decide) h1087 ?_
                                    refine G_aload_n hX 6 rfl rfl d_Mo_readWindow_363 ?_
                                    have h1088 : F1060 43 = .int (zI ((wZ g p e).1)) := (k1070 43 (by decide)).trans h1051
                                    refine M_get hX fg_Mo_389 d_Mo_readWindow_364 h1067 (by decide) h1088 ?_
                                    refine F_callV hX (st := []) (c_Mo_checkOut E f1057 F1060 mc ((wZ g p e).1) o'_1063 (mkM m (mkF (hdK g p e mc) g t old N S m)) mc h1067 (moK_fr hmk (FrF.tr (FrF.tr (FrF.tr (FrF.tr (FrF.tr (FrF.tr (FrF.tr (FrF.tr (FrF.tr (FrF.tr (FrF.tr (FrF.tr (FrF.tr (FrF.tr (FrF.tr (FrF.tr (FrF.tr (FrF.tr (FrF.tr (FrF.rf (S := [25, 26, 27, 30, 31, 32, 36, 39, 40, 41, 42, 43])) k261 (by decide)) k325 (by decide)) k367 (by decide)) k391 (by decide)) k442 (by decide)) k470 (by decide)) k486 (by decide)) k577 (by decide)) k631 (by decide)) k674 (by decide)) k887 (by decide)) k903 (by decide)) k919 (by decide)) k935 (by decide)) k1015 (by decide)) k1021 (by decide)) k1028 (by decide)) k1040 (by decide)) k1070 (by decide)) (by decide)) h1071 hmB hot (by omega)) cm_Mo_checkOf im_Mo_checkOf se_Mo_checkOf rfl ml_Mo_331 d_Mo_readWindow_367 (by decide) h1067 rfl rfl (Nat.le_of_ble_eq_true rfl) (by decide) ?_
                                    rintro _ f1089 ⟨rfl, e1092⟩
                                    obtain rfl := e1092.symm
                                    refine G_cast (st' := [.long (zL (adV (mkM m (mkF (hdK g p e mc) g t old N S m)) mc ((wZ g p e).1)))]) ?_ rfl rfl rfl rfl
                                    refine G_lload hX 1 rfl d_Mo_readWindow_370 ?_
                                    refine G_lcmp hX d_Mo_readWindow_372 ?_
                                    have hav := adV_b (mkM m (mkF (hdK g p e mc) g t old N S m)) mc (wZ g p e).1
                                    have hcm : lg_cmp (zL (adV (mkM m (mkF (hdK g p e mc) g t old N S m)) mc (wZ g p e).1)) (zL ((256 * ((256 * ((256 * ((256 * 0) + (g ((w3 g p e).2)))) + (g (((w3 g p e).2) + 1)))) + (g ((((w3 g p e).2) + 1) + 1)))) + (g (((((w3 g p e).2) + 1) + 1) + 1)))) = 0 ↔ adV (mkM m (mkF (hdK g p e mc) g t old N S m)) mc (wZ g p e).1 = cvL g (4 * wc g p e).toNat (w3 g p e).2 0 := (lg_cmp_eq _ _).trans ((zL_eq (by rw [← hcv]; omega)).trans (by rw [hcv]))
                                    refine G_if_eq hX (tgt := 382) d_Mo_readWindow_373 rfl (fun c1093 => ?_) (fun c1094 => ?_)
                                    · skip
                                      have h1095 : F1060 30 = .int (zI (wE g p e)) := (k1070 30 (by decide)).trans ((k1040 30 (by decide)).trans ((k1028 30 (by decide)).trans ((k1021 30 (by decide)).trans h1014)))
                                      have h1096 : F1060 31 = .int (zI e) := (k1070 31 (by decide)).trans ((k1040 31 (by decide)).trans ((k1028 31 (by decide)).trans h1020))
                                      have h1097 : f1057 84 = iz E 3 (uz (uz (uz (uz (uz (uz ev 0 ((w1 g p e).1)) (0 + 1) ((w2 g p e).1)) ((0 + 1) + 1) ((w3 g p e).1)) 0 (((w3 g p e).2 + 4 * wc g p e) + ((w1 g p e).1))) (0 + 1) ((((w3 g p e).2 + 4 * wc g p e) + ((w1 g p e).1)) + ((w2 g p e).1))) ((0 + 1) + 1) (((((w3 g p e).2 + 4 * wc g p e) + ((w1 g p e).1)) + ((w2 g p e).1)) + ((w3 g p e).1))) := (k1078 84 (by decide)).trans h1045
                                      exact F_vret hX hE d_Mo_readWindow_382 ⟨rfl, F1060, _, _, _, _, _, _, _, _, _, h1067, h1095, h1096, h1079, h1068, (FrF.tr (FrF.tr (FrF.tr (FrF.tr (FrF.tr (FrF.tr (FrF.tr (FrF.tr (FrF.tr (FrF.tr (FrF.tr (FrF.tr (FrF.tr (FrF.tr (FrF.tr (FrF.tr (FrF.tr (FrF.tr (FrF.tr FrF.rf k261 (by decide)) k325 (by decide)) k367 (by decide)) k391 (by decide)) k442 (by decide)) k470 (by decide)) k486 (by decide)) k577 (by decide)) k631 (by decide)) k674 (by decide)) k887 (by decide)) k903 (by decide)) k919 (by decide)) k935 (by decide)) k1015 (by decide)) k1021 (by decide)) k1028 (by decide)) k1040 (by decide)) k1070 (by decide)), h1071, h1073, h1074, h1072, h1097, (by rw [hres, hmk1, if_neg (fun q => q.2 (hcm.mp c1093))]), (fun _ => ⟨by rw [← hkk.2.2.2.1.2.2.2.2], rfl, hgd.1, hgd.2⟩), (by omega), (Fr.tr (Fr.tr (Fr.tr (Fr.tr (Fr.tr (Fr.tr (Fr.tr (Fr.tr (Fr.tr (Fr.tr (Fr.tr (Fr.tr (Fr.tr (Fr.tr (Fr.tr (Fr.tr (Fr.tr (Fr.tr (Fr.tr (Fr.tr (Fr.tr (Fr.tr (Fr.tr (Fr.tr (Fr.tr (Fr.tr (Fr.tr (Fr.tr Fr.rf k262 (by decide)) k326 (by decide)) k368 (by decide)) k392 (by decide)) k443 (by decide)) k471 (by decide)) k487 (by decide)) k578 (by decide)) k583 (by decide)) k632 (by decide)) k637 (by decide)) k675 (by decide)) k680 (by decide)) k888 (by decide)) k904 (by decide)) k920 (by decide)) k936 (by decide)) k974 (by decide)) k979 (by decide)) k988 (by decide)) k993 (by decide)) k1002 (by decide)) k1007 (by decide)) k1016 (by decide)) k1022 (by decide)) k1029 (by decide)) k1043 (by decide)) k1078 (by decide))⟩
                                    · skip
                                      refine G_aload_n hX 6 rfl rfl d_Mo_readWindow_376 ?_
                                      refine G_bipush hX (by decide) d_Mo_readWindow_377 ?_
                                      refine F_callV hX (st := []) (c_Mo_refuse E f1057 F1060 (-6) h1067 (moK_fr hmk (FrF.tr (FrF.tr (FrF.tr (FrF.tr (FrF.tr (FrF.tr (FrF.tr (FrF.tr (FrF.tr (FrF.tr (FrF.tr (FrF.tr (FrF.tr (FrF.tr (FrF.tr (FrF.tr (FrF.tr (FrF.tr (FrF.tr (FrF.rf (S := [25, 26, 27, 30, 31, 32, 36, 39, 40, 41, 42, 43])) k261 (by decide)) k325 (by decide)) k367 (by decide)) k391 (by decide)) k442 (by decide)) k470 (by decide)) k486 (by decide)) k577 (by decide)) k631 (by decide)) k674 (by decide)) k887 (by decide)) k903 (by decide)) k919 (by decide)) k935 (by decide)) k1015 (by decide)) k1021 (by decide)) k1028 (by decide)) k1040 (by decide)) k1070 (by decide)) (by decide)) h1079) cm_Mo_refuse im_Mo_refuse se_Mo_refuse rfl ml_Mo_354 d_Mo_readWindow_379 (by decide) h1067 rfl rfl (Nat.le_of_ble_eq_true rfl) (by decide) ?_
                                      rintro _ f1098 ⟨rfl, F1101, h1102, h1103, k1104, k1105⟩
                                      refine G_cast (st' := []) ?_ rfl rfl rfl rfl
                                      have h1106 : F1101 30 = .int (zI (wE g p e)) := (k1104 30 (by decide)).trans ((k1070 30 (by decide)).trans ((k1040 30 (by decide)).trans ((k1028 30 (by decide)).trans ((k1021 30 (by decide)).trans h1014))))
                                      have h1107 : F1101 31 = .int (zI e) := (k1104 31 (by decide)).trans ((k1070 31 (by decide)).trans ((k1040 31 (by decide)).trans ((k1028 31 (by decide)).trans h1020)))
                                      have h1108 : F1101 36 = .int (zI c'_1061) := (k1104 36 (by decide)).trans h1068
                                      have h1109 : f1098 82 = iz E 1536 o'_1063 := (k1105 82 (by decide)).trans h1071
                                      have h1110 : f1098 78 = iz E 8 nr'_1065 := (k1105 78 (by decide)).trans h1073
                                      have h1111 : f1098 79 = iz E 1024 sm'_1066 := (k1105 79 (by decide)).trans h1074
                                      have h1112 : f1098 83 = iz E 3 av'_1064 := (k1105 83 (by decide)).trans h1072
                                      have h1113 : f1098 84 = iz E 3 (uz (uz (uz (uz (uz (uz ev 0 ((w1 g p e).1)) (0 + 1) ((w2 g p e).1)) ((0 + 1) + 1) ((w3 g p e).1)) 0 (((w3 g p e).2 + 4 * wc g p e) + ((w1 g p e).1))) (0 + 1) ((((w3 g p e).2 + 4 * wc g p e) + ((w1 g p e).1)) + ((w2 g p e).1))) ((0 + 1) + 1) (((((w3 g p e).2 + 4 * wc g p e) + ((w1 g p e).1)) + ((w2 g p e).1)) + ((w3 g p e).1))) := (k1105 84 (by decide)).trans ((k1078 84 (by decide)).trans h1045)
                                      exact F_vret hX hE d_Mo_readWindow_382 ⟨rfl, F1101, _, _, _, _, _, _, _, _, _, h1102, h1106, h1107, h1103, h1108, (FrF.tr (FrF.tr (FrF.tr (FrF.tr (FrF.tr (FrF.tr (FrF.tr (FrF.tr (FrF.tr (FrF.tr (FrF.tr (FrF.tr (FrF.tr (FrF.tr (FrF.tr (FrF.tr (FrF.tr (FrF.tr (FrF.tr (FrF.tr FrF.rf k261 (by decide)) k325 (by decide)) k367 (by decide)) k391 (by decide)) k442 (by decide)) k470 (by decide)) k486 (by decide)) k577 (by decide)) k631 (by decide)) k674 (by decide)) k887 (by decide)) k903 (by decide)) k919 (by decide)) k935 (by decide)) k1015 (by decide)) k1021 (by decide)) k1028 (by decide)) k1040 (by decide)) k1070 (by decide)) k1104 (by decide)), h1109, h1110, h1111, h1112, h1113, (by rw [hres, hmk1, if_pos ⟨by rw [hkK]; omega, fun q => c1094 (hcm.mpr q)⟩]), (fun q => absurd q (by decide)), (by omega), (Fr.tr (Fr.tr (Fr.tr (Fr.tr (Fr.tr (Fr.tr (Fr.tr (Fr.tr (Fr.tr (Fr.tr (Fr.tr (Fr.tr (Fr.tr (Fr.tr (Fr.tr (Fr.tr (Fr.tr (Fr.tr (Fr.tr (Fr.tr (Fr.tr (Fr.tr (Fr.tr (Fr.tr (Fr.tr (Fr.tr (Fr.tr (Fr.tr (Fr.tr Fr.rf k262 (by decide)) k326 (by decide)) k368 (by decide)) k392 (by decide)) k443 (by decide)) k471 (by decide)) k487 (by decide)) k578 (by decide)) k583 (by decide)) k632 (by decide)) k637 (by decide)) k675 (by decide)) k680 (by decide)) k888 (by decide)) k904 (by decide)) k920 (by decide)) k936 (by decide)) k974 (by decide)) k979 (by decide)) k988 (by decide)) k993 (by decide)) k1002 (by decide)) k1007 (by decide)) k1016 (by decide)) k1022 (by decide)) k1029 (by decide)) k1043 (by decide)) k1078 (by decide)) k1105 (by decide))⟩
                                · skip
                                  have hfl2 : fl'_1062 = -2 := by rw [p1075] at qf ⊢; rcases hmk0 with q | q; exact absurd q qf; exact q
                                  have hdd : fl'_1062 = (if ¬ hdA g p e mc oc nm = 0 then hdA g p e mc oc nm else mkE (hdK g p e mc) (mkF (hdK g p e mc) g t old N S m)) := by rw [hres, mkE_0 (by rw [← p1075]; exact qf)]; exact p1075
                                  refine G_iload_n hX 5 rfl rfl d_Mo_readWindow_344 ?_
                                  refine G_iconst hX d_Mo_readWindow_345 ?_
                                  refine G_iand hX d_Mo_readWindow_346 ?_
                                  refine G_top (show (zI (wk g p e) &&& zI 4) = zI (wc g p e * 4) from (zI_a4 (by omega)).trans (congrArg zI (by omega))) ?_
                                  refine G_if_le_z hX (tgt := 382) d_Mo_readWindow_347 rfl (by omega) (fun c1114 => ?_) (fun c1115 => ?_)
                                  · skip
                                    have h1116 : F1060 30 = .int (zI (wE g p e)) := (k1070 30 (by decide)).trans ((k1040 30 (by decide)).trans ((k1028 30 (by decide)).trans ((k1021 30 (by decide)).trans h1014)))
                                    have h1117 : F1060 31 = .int (zI e) := (k1070 31 (by decide)).trans ((k1040 31 (by decide)).trans ((k1028 31 (by decide)).trans h1020))
                                    have h1118 : f1057 84 = iz E 3 (uz (uz (uz (uz (uz (uz ev 0 ((w1 g p e).1)) (0 + 1) ((w2 g p e).1)) ((0 + 1) + 1) ((w3 g p e).1)) 0 (((w3 g p e).2 + 4 * wc g p e) + ((w1 g p e).1))) (0 + 1) ((((w3 g p e).2 + 4 * wc g p e) + ((w1 g p e).1)) + ((w2 g p e).1))) ((0 + 1) + 1) (((((w3 g p e).2 + 4 * wc g p e) + ((w1 g p e).1)) + ((w2 g p e).1)) + ((w3 g p e).1))) := (k1078 84 (by decide)).trans h1045
                                    exact F_vret hX hE d_Mo_readWindow_382 ⟨rfl, F1060, _, _, _, _, _, _, _, _, _, h1067, h1116, h1117, h1069, h1068, (FrF.tr (FrF.tr (FrF.tr (FrF.tr (FrF.tr (FrF.tr (FrF.tr (FrF.tr (FrF.tr (FrF.tr (FrF.tr (FrF.tr (FrF.tr (FrF.tr (FrF.tr (FrF.tr (FrF.tr (FrF.tr (FrF.tr FrF.rf k261 (by decide)) k325 (by decide)) k367 (by decide)) k391 (by decide)) k442 (by decide)) k470 (by decide)) k486 (by decide)) k577 (by decide)) k631 (by decide)) k674 (by decide)) k887 (by decide)) k903 (by decide)) k919 (by decide)) k935 (by decide)) k1015 (by decide)) k1021 (by decide)) k1028 (by decide)) k1040 (by decide)) k1070 (by decide)), h1071, h1073, h1074, h1072, h1118, hdd, (fun q => absurd q qf), (by omega), (Fr.tr (Fr.tr (Fr.tr (Fr.tr (Fr.tr (Fr.tr (Fr.tr (Fr.tr (Fr.tr (Fr.tr (Fr.tr (Fr.tr (Fr.tr (Fr.tr (Fr.tr (Fr.tr (Fr.tr (Fr.tr (Fr.tr (Fr.tr (Fr.tr (Fr.tr (Fr.tr (Fr.tr (Fr.tr (Fr.tr (Fr.tr (Fr.tr Fr.rf k262 (by decide)) k326 (by decide)) k368 (by decide)) k392 (by decide)) k443 (by decide)) k471 (by decide)) k487 (by decide)) k578 (by decide)) k583 (by decide)) k632 (by decide)) k637 (by decide)) k675 (by decide)) k680 (by decide)) k888 (by decide)) k904 (by decide)) k920 (by decide)) k936 (by decide)) k974 (by decide)) k979 (by decide)) k988 (by decide)) k993 (by decide)) k1002 (by decide)) k1007 (by decide)) k1016 (by decide)) k1022 (by decide)) k1029 (by decide)) k1043 (by decide)) k1078 (by decide))⟩
                                  · skip
                                    refine G_aload_n hX 6 rfl rfl d_Mo_readWindow_350 ?_
                                    refine M_get hX fg_Mo_345 d_Mo_readWindow_351 h1067 (by decide) h1069 ?_
                                    refine G_if_ne_z hX (tgt := 382) d_Mo_readWindow_354 rfl (by omega) (fun c1119 => ?_) (fun c1120 => by exfalso; omega)
                                    have h1121 : F1060 30 = .int (zI (wE g p e)) := (k1070 30 (by decide)).trans ((k1040 30 (by decide)).trans ((k1028 30 (by decide)).trans ((k1021 30 (by decide)).trans h1014)))
                                    have h1122 : F1060 31 = .int (zI e) := (k1070 31 (by decide)).trans ((k1040 31 (by decide)).trans ((k1028 31 (by decide)).trans h1020))
                                    have h1123 : f1057 84 = iz E 3 (uz (uz (uz (uz (uz (uz ev 0 ((w1 g p e).1)) (0 + 1) ((w2 g p e).1)) ((0 + 1) + 1) ((w3 g p e).1)) 0 (((w3 g p e).2 + 4 * wc g p e) + ((w1 g p e).1))) (0 + 1) ((((w3 g p e).2 + 4 * wc g p e) + ((w1 g p e).1)) + ((w2 g p e).1))) ((0 + 1) + 1) (((((w3 g p e).2 + 4 * wc g p e) + ((w1 g p e).1)) + ((w2 g p e).1)) + ((w3 g p e).1))) := (k1078 84 (by decide)).trans h1045
                                    exact F_vret hX hE d_Mo_readWindow_382 ⟨rfl, F1060, _, _, _, _, _, _, _, _, _, h1067, h1121, h1122, h1069, h1068, (FrF.tr (FrF.tr (FrF.tr (FrF.tr (FrF.tr (FrF.tr (FrF.tr (FrF.tr (FrF.tr (FrF.tr (FrF.tr (FrF.tr (FrF.tr (FrF.tr (FrF.tr (FrF.tr (FrF.tr (FrF.tr (FrF.tr FrF.rf k261 (by decide)) k325 (by decide)) k367 (by decide)) k391 (by decide)) k442 (by decide)) k470 (by decide)) k486 (by decide)) k577 (by decide)) k631 (by decide)) k674 (by decide)) k887 (by decide)) k903 (by decide)) k919 (by decide)) k935 (by decide)) k1015 (by decide)) k1021 (by decide)) k1028 (by decide)) k1040 (by decide)) k1070 (by decide)), h1071, h1073, h1074, h1072, h1123, hdd, (fun q => absurd q qf), (by omega), (Fr.tr (Fr.tr (Fr.tr (Fr.tr (Fr.tr (Fr.tr (Fr.tr (Fr.tr (Fr.tr (Fr.tr (Fr.tr (Fr.tr (Fr.tr (Fr.tr (Fr.tr (Fr.tr (Fr.tr (Fr.tr (Fr.tr (Fr.tr (Fr.tr (Fr.tr (Fr.tr (Fr.tr (Fr.tr (Fr.tr (Fr.tr (Fr.tr Fr.rf k262 (by decide)) k326 (by decide)) k368 (by decide)) k392 (by decide)) k443 (by decide)) k471 (by decide)) k487 (by decide)) k578 (by decide)) k583 (by decide)) k632 (by decide)) k637 (by decide)) k675 (by decide)) k680 (by decide)) k888 (by decide)) k904 (by decide)) k920 (by decide)) k936 (by decide)) k974 (by decide)) k979 (by decide)) k988 (by decide)) k993 (by decide)) k1002 (by decide)) k1007 (by decide)) k1016 (by decide)) k1022 (by decide)) k1029 (by decide)) k1043 (by decide)) k1078 (by decide))⟩
                            · skip
                              have hc9 : ¬ (w1 g p e).1 + (w2 g p e).1 + (w3 g p e).1 + 4 * wc g p e = wE g p e - (w3 g p e).2 := by omega
                              have hda : hdA g p e mc oc nm = -2 := by unfold hdA; rw [if_neg hc1, if_neg hc2, if_neg hc3, if_neg hc4, if_neg hc5, if_neg hc6, if_neg hc7, if_neg hc8, if_pos hc9]
                              have hdd : (if ¬ hdA g p e mc oc nm = 0 then hdA g p e mc oc nm else mkE (hdK g p e mc) (mkF (hdK g p e mc) g t old N S m)) = -2 := by rw [hda]; exact if_pos (by decide)
                              refine G_lconst hX (v := zL 0) (by decide) d_Mo_readWindow_158 ?_
                              refine G_lstore hX (lv' := [(7, .long (zL 0)), (6, .int (zI (wQ g p e))), (5, .int (zI ((wY g p e).1))), (4, .int (zI e)), (3, .int (zI (wk g p e))), (0, .ref (eA E 61)), (1, .int (zI N)), (2, .int (zI S))]) (by decide) rfl d_Mo_readWindow_159 ?_
                              refine G_iconst hX d_Mo_readWindow_161 ?_
                              refine G_istore hX (lv' := [(9, .int (zI 0)), (7, .long (zL 0)), (6, .int (zI (wQ g p e))), (5, .int (zI ((wY g p e).1))), (4, .int (zI e)), (3, .int (zI (wk g p e))), (0, .ref (eA E 61)), (1, .int (zI N)), (2, .int (zI S))]) (by decide) rfl d_Mo_readWindow_162 ?_
                              refine G_iload hX 0 rfl d_Mo_readWindow_164 ?_
                              refine G_iconst hX d_Mo_readWindow_166 ?_
                              refine G_icmp_ge_z hX (tgt := 196) d_Mo_readWindow_167 rfl (by omega) (fun c1124 => by exfalso; omega) (fun c1125 => ?_)
                              refine G_iload_n hX 5 rfl rfl d_Mo_readWindow_170 ?_
                              refine G_iconst hX d_Mo_readWindow_171 ?_
                              refine G_iand hX d_Mo_readWindow_172 ?_
                              refine G_top (show (zI (wk g p e) &&& zI 4) = zI 4 from (zI_a4 (by omega)).trans (congrArg zI (by omega))) ?_
                              refine G_if_le_z hX (tgt := 196) d_Mo_readWindow_173 rfl (by omega) (fun c1126 => by exfalso; omega) (fun c1127 => ?_)
                              refine G_ldc2 hX kn_Mo_180 d_Mo_readWindow_176 ?_
                              refine G_topl (show (256 : Int64) = zL (256) from by decide) ?_
                              refine G_lload hX 1 rfl d_Mo_readWindow_179 ?_
                              refine G_lmul_z hX d_Mo_readWindow_181 ?_
                              have h1128 : F671 32 = .int (zI 0) := (k674 32 (by decide)).trans h666
                              by_cases qb1129 : (w3 g p e).2 < wE g p e
                              · skip
                                have b1130 := hG ((w3 g p e).2)
                                refine G_aload_n hX 6 rfl rfl d_Mo_readWindow_182 ?_
                                have h1131 : f678 61 = mob F671 := (k680 61 (by decide)).trans h672
                                have h1132 : F671 31 = .int (zI (wE g p e)) := (k674 31 (by decide)).trans h665
                                have h1133 : f678 63 = iz E 1600 b := (k680 63 (by decide)).trans ((k675 63 (by decide)).trans h667)
                                refine F_callV hX (st := [.long (zL (256 * 0))]) (c_Mo_readByte_ok E f678 F671 ((w3 g p e).2) (wE g p e) b g sE h1131 (moK_fr hmk (FrF.tr (FrF.tr (FrF.tr (FrF.tr (FrF.tr (FrF.tr (FrF.tr (FrF.tr (FrF.tr (FrF.tr (FrF.rf (S := [30, 31, 39, 40, 41, 43])) k261 (by decide)) k325 (by decide)) k367 (by decide)) k391 (by decide)) k442 (by decide)) k470 (by decide)) k486 (by decide)) k577 (by decide)) k631 (by decide)) k674 (by decide)) (by decide)) h676 h1132 h1128 h1133 hG hgb (by omega)) cm_Mo_readByte im_Mo_readByte se_Mo_readByte rfl ml_Mo_357 d_Mo_readWindow_183 (by decide) h1131 rfl rfl (Nat.le_of_ble_eq_true rfl) (by decide) ?_
                                rintro _ f1134 ⟨rfl, F1137, h1138, h1139, k1140, k1141⟩
                                refine G_cast (st' := [.int (zI (g ((w3 g p e).2))), .long (zL (256 * 0))]) ?_ rfl rfl rfl rfl
                                refine G_i2l hX (v := zL (g ((w3 g p e).2))) (zI_l (by omega)) d_Mo_readWindow_186 ?_
                                refine G_ladd_z hX d_Mo_readWindow_187 ?_
                                refine G_lstore hX (lv' := [(7, .long (zL ((256 * 0) + (g ((w3 g p e).2))))), (9, .int (zI 0)), (6, .int (zI (wQ g p e))), (5, .int (zI ((wY g p e).1))), (4, .int (zI e)), (3, .int (zI (wk g p e))), (0, .ref (eA E 61)), (1, .int (zI N)), (2, .int (zI S))]) (by decide) rfl d_Mo_readWindow_188 ?_
                                refine G_iinc_z hX (lv' := [(9, .int (zI (0 + 1))), (7, .long (zL ((256 * 0) + (g ((w3 g p e).2))))), (6, .int (zI (wQ g p e))), (5, .int (zI ((wY g p e).1))), (4, .int (zI e)), (3, .int (zI (wk g p e))), (0, .ref (eA E 61)), (1, .int (zI N)), (2, .int (zI S))]) 1 rfl (by decide) rfl d_Mo_readWindow_190 ?_
                                refine G_goto hX (tgt := 164) d_Mo_readWindow_193 rfl ?_
                                refine G_iload hX 0 rfl d_Mo_readWindow_164 ?_
                                refine G_iconst hX d_Mo_readWindow_166 ?_
                                refine G_icmp_ge_z hX (tgt := 196) d_Mo_readWindow_167 rfl (by omega) (fun c1142 => by exfalso; omega) (fun c1143 => ?_)
                                refine G_iload_n hX 5 rfl rfl d_Mo_readWindow_170 ?_
                                refine G_iconst hX d_Mo_readWindow_171 ?_
                                refine G_iand hX d_Mo_readWindow_172 ?_
                                refine G_top (show (zI (wk g p e) &&& zI 4) = zI 4 from (zI_a4 (by omega)).trans (congrArg zI (by omega))) ?_
                                refine G_if_le_z hX (tgt := 196) d_Mo_readWindow_173 rfl (by omega) (fun c1144 => by exfalso; omega) (fun c1145 => ?_)
                                refine G_ldc2 hX kn_Mo_180 d_Mo_readWindow_176 ?_
                                refine G_topl (show (256 : Int64) = zL (256) from by decide) ?_
                                refine G_lload hX 1 rfl d_Mo_readWindow_179 ?_
                                refine G_lmul_z hX d_Mo_readWindow_181 ?_
                                have h1146 : F1137 32 = .int (zI 0) := (k1140 32 (by decide)).trans h1128
                                by_cases qb1147 : ((w3 g p e).2) + 1 < wE g p e
                                · skip
                                  have b1148 := hG (((w3 g p e).2) + 1)
                                  refine G_aload_n hX 6 rfl rfl d_Mo_readWindow_182 ?_
                                  have h1149 : F1137 31 = .int (zI (wE g p e)) := (k1140 31 (by decide)).trans h1132
                                  have h1150 : f1134 63 = iz E 1600 b := (k1141 63 (by decide)).trans h1133
                                  refine F_callV hX (st := [.long (zL (256 * ((256 * 0) + (g ((w3 g p e).2)))))]) (c_Mo_readByte_ok E f1134 F1137 (((w3 g p e).2) + 1) (wE g p e) b g sE h1138 (moK_fr hmk (FrF.tr (FrF.tr (FrF.tr (FrF.tr (FrF.tr (FrF.tr (FrF.tr (FrF.tr (FrF.tr (FrF.tr (FrF.tr (FrF.rf (S := [30, 31, 39, 40, 41, 43])) k261 (by decide)) k325 (by decide)) k367 (by decide)) k391 (by decide)) k442 (by decide)) k470 (by decide)) k486 (by decide)) k577 (by decide)) k631 (by decide)) k674 (by decide)) k1140 (by decide)) (by decide)) h1139 h1149 h1146 h1150 hG hgb (by omega)) cm_Mo_readByte im_Mo_readByte se_Mo_readByte rfl ml_Mo_357 d_Mo_readWindow_183 (by decide) h1138 rfl rfl (Nat.le_of_ble_eq_true rfl) (by decide) ?_
                                  rintro _ f1151 ⟨rfl, F1154, h1155, h1156, k1157, k1158⟩
                                  refine G_cast (st' := [.int (zI (g (((w3 g p e).2) + 1))), .long (zL (256 * ((256 * 0) + (g ((w3 g p e).2)))))]) ?_ rfl rfl rfl rfl
                                  refine G_i2l hX (v := zL (g (((w3 g p e).2) + 1))) (zI_l (by omega)) d_Mo_readWindow_186 ?_
                                  refine G_ladd_z hX d_Mo_readWindow_187 ?_
                                  refine G_lstore hX (lv' := [(7, .long (zL ((256 * ((256 * 0) + (g ((w3 g p e).2)))) + (g (((w3 g p e).2) + 1))))), (9, .int (zI (0 + 1))), (6, .int (zI (wQ g p e))), (5, .int (zI ((wY g p e).1))), (4, .int (zI e)), (3, .int (zI (wk g p e))), (0, .ref (eA E 61)), (1, .int (zI N)), (2, .int (zI S))]) (by decide) rfl d_Mo_readWindow_188 ?_
                                  refine G_iinc_z hX (lv' := [(9, .int (zI ((0 + 1) + 1))), (7, .long (zL ((256 * ((256 * 0) + (g ((w3 g p e).2)))) + (g (((w3 g p e).2) + 1))))), (6, .int (zI (wQ g p e))), (5, .int (zI ((wY g p e).1))), (4, .int (zI e)), (3, .int (zI (wk g p e))), (0, .ref (eA E 61)), (1, .int (zI N)), (2, .int (zI S))]) 1 rfl (by decide) rfl d_Mo_readWindow_190 ?_
                                  refine G_goto hX (tgt := 164) d_Mo_readWindow_193 rfl ?_
                                  refine G_iload hX 0 rfl d_Mo_readWindow_164 ?_
                                  refine G_iconst hX d_Mo_readWindow_166 ?_
                                  refine G_icmp_ge_z hX (tgt := 196) d_Mo_readWindow_167 rfl (by omega) (fun c1159 => by exfalso; omega) (fun c1160 => ?_)
                                  refine G_iload_n hX 5 rfl rfl d_Mo_readWindow_170 ?_
                                  refine G_iconst hX d_Mo_readWindow_171 ?_
                                  refine G_iand hX d_Mo_readWindow_172 ?_
                                  refine G_top (show (zI (wk g p e) &&& zI 4) = zI 4 from (zI_a4 (by omega)).trans (congrArg zI (by omega))) ?_
                                  refine G_if_le_z hX (tgt := 196) d_Mo_readWindow_173 rfl (by omega) (fun c1161 => by exfalso; omega) (fun c1162 => ?_)
                                  refine G_ldc2 hX kn_Mo_180 d_Mo_readWindow_176 ?_
                                  refine G_topl (show (256 : Int64) = zL (256) from by decide) ?_
                                  refine G_lload hX 1 rfl d_Mo_readWindow_179 ?_
                                  refine G_lmul_z hX d_Mo_readWindow_181 ?_
                                  have h1163 : F1154 32 = .int (zI 0) := (k1157 32 (by decide)).trans h1146
                                  by_cases qb1164 : (((w3 g p e).2) + 1) + 1 < wE g p e
                                  · skip
                                    have b1165 := hG ((((w3 g p e).2) + 1) + 1)
                                    refine G_aload_n hX 6 rfl rfl d_Mo_readWindow_182 ?_
                                    have h1166 : F1154 31 = .int (zI (wE g p e)) := (k1157 31 (by decide)).trans h1149
                                    have h1167 : f1151 63 = iz E 1600 b := (k1158 63 (by decide)).trans h1150
                                    refine F_callV hX (st := [.long (zL (256 * ((256 * ((256 * 0) + (g ((w3 g p e).2)))) + (g (((w3 g p e).2) + 1)))))]) (c_Mo_readByte_ok E f1151 F1154 ((((w3 g p e).2) + 1) + 1) (wE g p e) b g sE h1155 (moK_fr hmk (FrF.tr (FrF.tr (FrF.tr (FrF.tr (FrF.tr (FrF.tr (FrF.tr (FrF.tr (FrF.tr (FrF.tr (FrF.tr (FrF.tr (FrF.rf (S := [30, 31, 39, 40, 41, 43])) k261 (by decide)) k325 (by decide)) k367 (by decide)) k391 (by decide)) k442 (by decide)) k470 (by decide)) k486 (by decide)) k577 (by decide)) k631 (by decide)) k674 (by decide)) k1140 (by decide)) k1157 (by decide)) (by decide)) h1156 h1166 h1163 h1167 hG hgb (by omega)) cm_Mo_readByte im_Mo_readByte se_Mo_readByte rfl ml_Mo_357 d_Mo_readWindow_183 (by decide) h1155 rfl rfl (Nat.le_of_ble_eq_true rfl) (by decide) ?_
                                    rintro _ f1168 ⟨rfl, F1171, h1172, h1173, k1174, k1175⟩
                                    refine G_cast (st' := [.int (zI (g ((((w3 g p e).2) + 1) + 1))), .long (zL (256 * ((256 * ((256 * 0) + (g ((w3 g p e).2)))) + (g (((w3 g p e).2) + 1)))))]) ?_ rfl rfl rfl rfl
                                    refine G_i2l hX (v := zL (g ((((w3 g p e).2) + 1) + 1))) (zI_l (by omega)) d_Mo_readWindow_186 ?_
                                    refine G_ladd_z hX d_Mo_readWindow_187 ?_
                                    refine G_lstore hX (lv' := [(7, .long (zL ((256 * ((256 * ((256 * 0) + (g ((w3 g p e).2)))) + (g (((w3 g p e).2) + 1)))) + (g ((((w3 g p e).2) + 1) + 1))))), (9, .int (zI ((0 + 1) + 1))), (6, .int (zI (wQ g p e))), (5, .int (zI ((wY g p e).1))), (4, .int (zI e)), (3, .int (zI (wk g p e))), (0, .ref (eA E 61)), (1, .int (zI N)), (2, .int (zI S))]) (by decide) rfl d_Mo_readWindow_188 ?_
                                    refine G_iinc_z hX (lv' := [(9, .int (zI (((0 + 1) + 1) + 1))), (7, .long (zL ((256 * ((256 * ((256 * 0) + (g ((w3 g p e).2)))) + (g (((w3 g p e).2) + 1)))) + (g ((((w3 g p e).2) + 1) + 1))))), (6, .int (zI (wQ g p e))), (5, .int (zI ((wY g p e).1))), (4, .int (zI e)), (3, .int (zI (wk g p e))), (0, .ref (eA E 61)), (1, .int (zI N)), (2, .int (zI S))]) 1 rfl (by decide) rfl d_Mo_readWindow_190 ?_
                                    refine G_goto hX (tgt := 164) d_Mo_readWindow_193 rfl ?_
                                    refine G_iload hX 0 rfl d_Mo_readWindow_164 ?_
                                    refine G_iconst hX d_Mo_readWindow_166 ?_
                                    refine G_icmp_ge_z hX (tgt := 196) d_Mo_readWindow_167 rfl (by omega) (fun c1176 => by exfalso; omega) (fun c1177 => ?_)
                                    refine G_iload_n hX 5 rfl rfl d_Mo_readWindow_170 ?_
                                    refine G_iconst hX d_Mo_readWindow_171 ?_
                                    refine G_iand hX d_Mo_readWindow_172 ?_
                                    refine G_top (show (zI (wk g p e) &&& zI 4) = zI 4 from (zI_a4 (by omega)).trans (congrArg zI (by omega))) ?_
                                    refine G_if_le_z hX (tgt := 196) d_Mo_readWindow_173 rfl (by omega) (fun c1178 => by exfalso; omega) (fun c1179 => ?_)
                                    refine G_ldc2 hX kn_Mo_180 d_Mo_readWindow_176 ?_
                                    refine G_topl (show (256 : Int64) = zL (256) from by decide) ?_
                                    refine G_lload hX 1 rfl d_Mo_readWindow_179 ?_
                                    refine G_lmul_z hX d_Mo_readWindow_181 ?_
                                    have h1180 : F1171 32 = .int (zI 0) := (k1174 32 (by decide)).trans h1163
                                    by_cases qb1181 : ((((w3 g p e).2) + 1) + 1) + 1 < wE g p e
                                    · skip
                                      have b1182 := hG (((((w3 g p e).2) + 1) + 1) + 1)
                                      refine G_aload_n hX 6 rfl rfl d_Mo_readWindow_182 ?_
                                      have h1183 : F1171 31 = .int (zI (wE g p e)) := (k1174 31 (by decide)).trans h1166
                                      have h1184 : f1168 63 = iz E 1600 b := (k1175 63 (by decide)).trans h1167
                                      refine F_callV hX (st := [.long (zL (256 * ((256 * ((256 * ((256 * 0) + (g ((w3 g p e).2)))) + (g (((w3 g p e).2) + 1)))) + (g ((((w3 g p e).2) + 1) + 1)))))]) (c_Mo_readByte_ok E f1168 F1171 (((((w3 g p e).2) + 1) + 1) + 1) (wE g p e) b g sE h1172 (moK_fr hmk (FrF.tr (FrF.tr (FrF.tr (FrF.tr (FrF.tr (FrF.tr (FrF.tr (FrF.tr (FrF.tr (FrF.tr (FrF.tr (FrF.tr (FrF.tr (FrF.rf (S := [30, 31, 39, 40, 41, 43])) k261 (by decide)) k325 (by decide)) k367 (by decide)) k391 (by decide)) k442 (by decide)) k470 (by decide)) k486 (by decide)) k577 (by decide)) k631 (by decide)) k674 (by decide)) k1140 (by decide)) k1157 (by decide)) k1174 (by decide)) (by decide)) h1173 h1183 h1180 h1184 hG hgb (by omega)) cm_Mo_readByte im_Mo_readByte se_Mo_readByte rfl ml_Mo_357 d_Mo_readWindow_183 (by decide) h1172 rfl rfl (Nat.le_of_ble_eq_true rfl) (by decide) ?_
                                      rintro _ f1185 ⟨rfl, F1188, h1189, h1190, k1191, k1192⟩
                                      refine G_cast (st' := [.int (zI (g (((((w3 g p e).2) + 1) + 1) + 1))), .long (zL (256 * ((256 * ((256 * ((256 * 0) + (g ((w3 g p e).2)))) + (g (((w3 g p e).2) + 1)))) + (g ((((w3 g p e).2) + 1) + 1)))))]) ?_ rfl rfl rfl rfl
                                      refine G_i2l hX (v := zL (g (((((w3 g p e).2) + 1) + 1) + 1))) (zI_l (by omega)) d_Mo_readWindow_186 ?_
                                      refine G_ladd_z hX d_Mo_readWindow_187 ?_
                                      refine G_lstore hX (lv' := [(7, .long (zL ((256 * ((256 * ((256 * ((256 * 0) + (g ((w3 g p e).2)))) + (g (((w3 g p e).2) + 1)))) + (g ((((w3 g p e).2) + 1) + 1)))) + (g (((((w3 g p e).2) + 1) + 1) + 1))))), (9, .int (zI (((0 + 1) + 1) + 1))), (6, .int (zI (wQ g p e))), (5, .int (zI ((wY g p e).1))), (4, .int (zI e)), (3, .int (zI (wk g p e))), (0, .ref (eA E 61)), (1, .int (zI N)), (2, .int (zI S))]) (by decide) rfl d_Mo_readWindow_188 ?_
                                      refine G_iinc_z hX (lv' := [(9, .int (zI ((((0 + 1) + 1) + 1) + 1))), (7, .long (zL ((256 * ((256 * ((256 * ((256 * 0) + (g ((w3 g p e).2)))) + (g (((w3 g p e).2) + 1)))) + (g ((((w3 g p e).2) + 1) + 1)))) + (g (((((w3 g p e).2) + 1) + 1) + 1))))), (6, .int (zI (wQ g p e))), (5, .int (zI ((wY g p e).1))), (4, .int (zI e)), (3, .int (zI (wk g p e))), (0, .ref (eA E 61)), (1, .int (zI N)), (2, .int (zI S))]) 1 rfl (by decide) rfl d_Mo_readWindow_190 ?_
                                      refine G_goto hX (tgt := 164) d_Mo_readWindow_193 rfl ?_
                                      refine G_iload hX 0 rfl d_Mo_readWindow_164 ?_
                                      refine G_iconst hX d_Mo_readWindow_166 ?_
                                      refine G_icmp_ge_z hX (tgt := 196) d_Mo_readWindow_167 rfl (by omega) (fun c1193 => ?_) (fun c1194 => by exfalso; omega)
                                      have h1195 : F1188 32 = .int (zI 0) := (k1191 32 (by decide)).trans h1180
                                      exfalso; omega
                                    · skip
                                      refine G_aload_n hX 6 rfl rfl d_Mo_readWindow_182 ?_
                                      have h1196 : F1171 31 = .int (zI (wE g p e)) := (k1174 31 (by decide)).trans h1166
                                      refine F_callV hX (st := [.long (zL (256 * ((256 * ((256 * ((256 * 0) + (g ((w3 g p e).2)))) + (g (((w3 g p e).2) + 1)))) + (g ((((w3 g p e).2) + 1) + 1)))))]) (c_Mo_readByte_no E f1168 F1171 (((((w3 g p e).2) + 1) + 1) + 1) (wE g p e) h1172 (moK_fr hmk (FrF.tr (FrF.tr (FrF.tr (FrF.tr (FrF.tr (FrF.tr (FrF.tr (FrF.tr (FrF.tr (FrF.tr (FrF.tr (FrF.tr (FrF.tr (FrF.rf (S := [30, 31, 39, 40, 41, 43])) k261 (by decide)) k325 (by decide)) k367 (by decide)) k391 (by decide)) k442 (by decide)) k470 (by decide)) k486 (by decide)) k577 (by decide)) k631 (by decide)) k674 (by decide)) k1140 (by decide)) k1157 (by decide)) k1174 (by decide)) (by decide)) h1173 h1196 h1180 (by omega)) cm_Mo_readByte im_Mo_readByte se_Mo_readByte rfl ml_Mo_357 d_Mo_readWindow_183 (by decide) h1172 rfl rfl (Nat.le_of_ble_eq_true rfl) (by decide) ?_
                                      rintro _ f1197 ⟨rfl, F1200, h1201, h1202, k1203, k1204⟩
                                      refine G_cast (st' := [.int (zI 0), .long (zL (256 * ((256 * ((256 * ((256 * 0) + (g ((w3 g p e).2)))) + (g (((w3 g p e).2) + 1)))) + (g ((((w3 g p e).2) + 1) + 1)))))]) ?_ rfl rfl rfl rfl
                                      refine G_i2l hX (v := zL 0) (zI_l (by omega)) d_Mo_readWindow_186 ?_
                                      refine G_ladd_z hX d_Mo_readWindow_187 ?_
                                      refine G_lstore hX (lv' := [(7, .long (zL ((256 * ((256 * ((256 * ((256 * 0) + (g ((w3 g p e).2)))) + (g (((w3 g p e).2) + 1)))) + (g ((((w3 g p e).2) + 1) + 1)))) + 0))), (9, .int (zI (((0 + 1) + 1) + 1))), (6, .int (zI (wQ g p e))), (5, .int (zI ((wY g p e).1))), (4, .int (zI e)), (3, .int (zI (wk g p e))), (0, .ref (eA E 61)), (1, .int (zI N)), (2, .int (zI S))]) (by decide) rfl d_Mo_readWindow_188 ?_
                                      refine G_iinc_z hX (lv' := [(9, .int (zI ((((0 + 1) + 1) + 1) + 1))), (7, .long (zL ((256 * ((256 * ((256 * ((256 * 0) + (g ((w3 g p e).2)))) + (g (((w3 g p e).2) + 1)))) + (g ((((w3 g p e).2) + 1) + 1)))) + 0))), (6, .int (zI (wQ g p e))), (5, .int (zI ((wY g p e).1))), (4, .int (zI e)), (3, .int (zI (wk g p e))), (0, .ref (eA E 61)), (1, .int (zI N)), (2, .int (zI S))]) 1 rfl (by decide) rfl d_Mo_readWindow_190 ?_
                                      refine G_goto hX (tgt := 164) d_Mo_readWindow_193 rfl ?_
                                      refine G_iload hX 0 rfl d_Mo_readWindow_164 ?_
                                      refine G_iconst hX d_Mo_readWindow_166 ?_
                                      refine G_icmp_ge_z hX (tgt := 196) d_Mo_readWindow_167 rfl (by omega) (fun c1205 => ?_) (fun c1206 => by exfalso; omega)
                                      have h1207 : F1200 30 = .int (zI (((((w3 g p e).2) + 1) + 1) + 1)) := (k1203 30 (by decide)).trans h1173
                                      have h1208 : F1200 31 = .int (zI (wE g p e)) := (k1203 31 (by decide)).trans h1196
                                      have h1209 : f1197 84 = iz E 3 (uz (uz (uz ev 0 ((w1 g p e).1)) (0 + 1) ((w2 g p e).1)) ((0 + 1) + 1) ((w3 g p e).1)) := (k1204 84 (by decide)).trans ((k1175 84 (by decide)).trans ((k1158 84 (by decide)).trans ((k1141 84 (by decide)).trans h679)))
                                      refine G_loc (lv' := [(0, .ref (eA E 61))]) [6] rfl ?_
                                      exact join6 (-2) (((((w3 g p e).2) + 1) + 1) + 1) (wE g p e) (uz (uz (uz ev 0 ((w1 g p e).1)) (0 + 1) ((w2 g p e).1)) ((0 + 1) + 1) ((w3 g p e).1)) F1200 f1197  (by decide) hdd (by omega) h1202 h1207 h1208 (FrF.tr (FrF.tr (FrF.tr (FrF.tr (FrF.tr (FrF.tr (FrF.tr (FrF.tr (FrF.tr (FrF.tr (FrF.tr (FrF.tr (FrF.tr (FrF.tr FrF.rf k261 (by decide)) k325 (by decide)) k367 (by decide)) k391 (by decide)) k442 (by decide)) k470 (by decide)) k486 (by decide)) k577 (by decide)) k631 (by decide)) k674 (by decide)) k1140 (by decide)) k1157 (by decide)) k1174 (by decide)) k1203 (by decide)) h1209 h1201 (Fr.tr (Fr.tr (Fr.tr (Fr.tr (Fr.tr (Fr.tr (Fr.tr (Fr.tr (Fr.tr (Fr.tr (Fr.tr (Fr.tr (Fr.tr (Fr.tr (Fr.tr (Fr.tr (Fr.tr Fr.rf k262 (by decide)) k326 (by decide)) k368 (by decide)) k392 (by decide)) k443 (by decide)) k471 (by decide)) k487 (by decide)) k578 (by decide)) k583 (by decide)) k632 (by decide)) k637 (by decide)) k675 (by decide)) k680 (by decide)) k1141 (by decide)) k1158 (by decide)) k1175 (by decide)) k1204 (by decide))
                                  · skip
                                    refine G_aload_n hX 6 rfl rfl d_Mo_readWindow_182 ?_
                                    have h1210 : F1154 31 = .int (zI (wE g p e)) := (k1157 31 (by decide)).trans h1149
                                    refine F_callV hX (st := [.long (zL (256 * ((256 * ((256 * 0) + (g ((w3 g p e).2)))) + (g (((w3 g p e).2) + 1)))))]) (c_Mo_readByte_no E f1151 F1154 ((((w3 g p e).2) + 1) + 1) (wE g p e) h1155 (moK_fr hmk (FrF.tr (FrF.tr (FrF.tr (FrF.tr (FrF.tr (FrF.tr (FrF.tr (FrF.tr (FrF.tr (FrF.tr (FrF.tr (FrF.tr (FrF.rf (S := [30, 31, 39, 40, 41, 43])) k261 (by decide)) k325 (by decide)) k367 (by decide)) k391 (by decide)) k442 (by decide)) k470 (by decide)) k486 (by decide)) k577 (by decide)) k631 (by decide)) k674 (by decide)) k1140 (by decide)) k1157 (by decide)) (by decide)) h1156 h1210 h1163 (by omega)) cm_Mo_readByte im_Mo_readByte se_Mo_readByte rfl ml_Mo_357 d_Mo_readWindow_183 (by decide) h1155 rfl rfl (Nat.le_of_ble_eq_true rfl) (by decide) ?_
                                    rintro _ f1211 ⟨rfl, F1214, h1215, h1216, k1217, k1218⟩
                                    refine G_cast (st' := [.int (zI 0), .long (zL (256 * ((256 * ((256 * 0) + (g ((w3 g p e).2)))) + (g (((w3 g p e).2) + 1)))))]) ?_ rfl rfl rfl rfl
                                    refine G_i2l hX (v := zL 0) (zI_l (by omega)) d_Mo_readWindow_186 ?_
                                    refine G_ladd_z hX d_Mo_readWindow_187 ?_
                                    refine G_lstore hX (lv' := [(7, .long (zL ((256 * ((256 * ((256 * 0) + (g ((w3 g p e).2)))) + (g (((w3 g p e).2) + 1)))) + 0))), (9, .int (zI ((0 + 1) + 1))), (6, .int (zI (wQ g p e))), (5, .int (zI ((wY g p e).1))), (4, .int (zI e)), (3, .int (zI (wk g p e))), (0, .ref (eA E 61)), (1, .int (zI N)), (2, .int (zI S))]) (by decide) rfl d_Mo_readWindow_188 ?_
                                    refine G_iinc_z hX (lv' := [(9, .int (zI (((0 + 1) + 1) + 1))), (7, .long (zL ((256 * ((256 * ((256 * 0) + (g ((w3 g p e).2)))) + (g (((w3 g p e).2) + 1)))) + 0))), (6, .int (zI (wQ g p e))), (5, .int (zI ((wY g p e).1))), (4, .int (zI e)), (3, .int (zI (wk g p e))), (0, .ref (eA E 61)), (1, .int (zI N)), (2, .int (zI S))]) 1 rfl (by decide) rfl d_Mo_readWindow_190 ?_
                                    refine G_goto hX (tgt := 164) d_Mo_readWindow_193 rfl ?_
                                    refine G_iload hX 0 rfl d_Mo_readWindow_164 ?_
                                    refine G_iconst hX d_Mo_readWindow_166 ?_
                                    refine G_icmp_ge_z hX (tgt := 196) d_Mo_readWindow_167 rfl (by omega) (fun c1219 => by exfalso; omega) (fun c1220 => ?_)
                                    refine G_iload_n hX 5 rfl rfl d_Mo_readWindow_170 ?_
                                    refine G_iconst hX d_Mo_readWindow_171 ?_
                                    refine G_iand hX d_Mo_readWindow_172 ?_
                                    refine G_top (show (zI (wk g p e) &&& zI 4) = zI 4 from (zI_a4 (by omega)).trans (congrArg zI (by omega))) ?_
                                    refine G_if_le_z hX (tgt := 196) d_Mo_readWindow_173 rfl (by omega) (fun c1221 => by exfalso; omega) (fun c1222 => ?_)
                                    refine G_ldc2 hX kn_Mo_180 d_Mo_readWindow_176 ?_
                                    refine G_topl (show (256 : Int64) = zL (256) from by decide) ?_
                                    refine G_lload hX 1 rfl d_Mo_readWindow_179 ?_
                                    refine G_lmul_z hX d_Mo_readWindow_181 ?_
                                    refine G_aload_n hX 6 rfl rfl d_Mo_readWindow_182 ?_
                                    refine F_callV hX (st := [.long (zL (256 * ((256 * ((256 * ((256 * 0) + (g ((w3 g p e).2)))) + (g (((w3 g p e).2) + 1)))) + 0)))]) (c_Mo_readByte_f E f1211 F1214 (-2) h1215 (moK_fr hmk (FrF.tr (FrF.tr (FrF.tr (FrF.tr (FrF.tr (FrF.tr (FrF.tr (FrF.tr (FrF.tr (FrF.tr (FrF.tr (FrF.tr (FrF.tr (FrF.rf (S := [30, 31, 32, 39, 40, 41, 43])) k261 (by decide)) k325 (by decide)) k367 (by decide)) k391 (by decide)) k442 (by decide)) k470 (by decide)) k486 (by decide)) k577 (by decide)) k631 (by decide)) k674 (by decide)) k1140 (by decide)) k1157 (by decide)) k1217 (by decide)) (by decide)) h1216 (by omega)) cm_Mo_readByte im_Mo_readByte se_Mo_readByte rfl ml_Mo_357 d_Mo_readWindow_183 (by decide) h1215 rfl rfl (Nat.le_of_ble_eq_true rfl) (by decide) ?_
                                    rintro _ f1223 ⟨rfl, F1226, h1227, h1228, k1229, k1230⟩
                                    refine G_cast (st' := [.int (zI 0), .long (zL (256 * ((256 * ((256 * ((256 * 0) + (g ((w3 g p e).2)))) + (g (((w3 g p e).2) + 1)))) + 0)))]) ?_ rfl rfl rfl rfl
                                    refine G_i2l hX (v := zL 0) (zI_l (by omega)) d_Mo_readWindow_186 ?_
                                    refine G_ladd_z hX d_Mo_readWindow_187 ?_
                                    refine G_lstore hX (lv' := [(7, .long (zL ((256 * ((256 * ((256 * ((256 * 0) + (g ((w3 g p e).2)))) + (g (((w3 g p e).2) + 1)))) + 0)) + 0))), (9, .int (zI (((0 + 1) + 1) + 1))), (6, .int (zI (wQ g p e))), (5, .int (zI ((wY g p e).1))), (4, .int (zI e)), (3, .int (zI (wk g p e))), (0, .ref (eA E 61)), (1, .int (zI N)), (2, .int (zI S))]) (by decide) rfl d_Mo_readWindow_188 ?_
                                    refine G_iinc_z hX (lv' := [(9, .int (zI ((((0 + 1) + 1) + 1) + 1))), (7, .long (zL ((256 * ((256 * ((256 * ((256 * 0) + (g ((w3 g p e).2)))) + (g (((w3 g p e).2) + 1)))) + 0)) + 0))), (6, .int (zI (wQ g p e))), (5, .int (zI ((wY g p e).1))), (4, .int (zI e)), (3, .int (zI (wk g p e))), (0, .ref (eA E 61)), (1, .int (zI N)), (2, .int (zI S))]) 1 rfl (by decide) rfl d_Mo_readWindow_190 ?_
                                    refine G_goto hX (tgt := 164) d_Mo_readWindow_193 rfl ?_
                                    refine G_iload hX 0 rfl d_Mo_readWindow_164 ?_
                                    refine G_iconst hX d_Mo_readWindow_166 ?_
                                    refine G_icmp_ge_z hX (tgt := 196) d_Mo_readWindow_167 rfl (by omega) (fun c1231 => ?_) (fun c1232 => by exfalso; omega)
                                    have h1233 : F1226 30 = .int (zI ((((w3 g p e).2) + 1) + 1)) := (k1229 30 (by decide)).trans ((k1217 30 (by decide)).trans h1156)
                                    have h1234 : F1226 31 = .int (zI (wE g p e)) := (k1229 31 (by decide)).trans ((k1217 31 (by decide)).trans h1210)
                                    have h1235 : f1223 84 = iz E 3 (uz (uz (uz ev 0 ((w1 g p e).1)) (0 + 1) ((w2 g p e).1)) ((0 + 1) + 1) ((w3 g p e).1)) := (k1230 84 (by decide)).trans ((k1218 84 (by decide)).trans ((k1158 84 (by decide)).trans ((k1141 84 (by decide)).trans h679)))
                                    refine G_loc (lv' := [(0, .ref (eA E 61))]) [6] rfl ?_
                                    exact join6 (-2) ((((w3 g p e).2) + 1) + 1) (wE g p e) (uz (uz (uz ev 0 ((w1 g p e).1)) (0 + 1) ((w2 g p e).1)) ((0 + 1) + 1) ((w3 g p e).1)) F1226 f1223  (by decide) hdd (by omega) h1228 h1233 h1234 (FrF.tr (FrF.tr (FrF.tr (FrF.tr (FrF.tr (FrF.tr (FrF.tr (FrF.tr (FrF.tr (FrF.tr (FrF.tr (FrF.tr (FrF.tr (FrF.tr FrF.rf k261 (by decide)) k325 (by decide)) k367 (by decide)) k391 (by decide)) k442 (by decide)) k470 (by decide)) k486 (by decide)) k577 (by decide)) k631 (by decide)) k674 (by decide)) k1140 (by decide)) k1157 (by decide)) k1217 (by decide)) k1229 (by decide)) h1235 h1227 (Fr.tr (Fr.tr (Fr.tr (Fr.tr (Fr.tr (Fr.tr (Fr.tr (Fr.tr (Fr.tr (Fr.tr (Fr.tr (Fr.tr (Fr.tr (Fr.tr (Fr.tr (Fr.tr (Fr.tr Fr.rf k262 (by decide)) k326 (by decide)) k368 (by decide)) k392 (by decide)) k443 (by decide)) k471 (by decide)) k487 (by decide)) k578 (by decide)) k583 (by decide)) k632 (by decide)) k637 (by decide)) k675 (by decide)) k680 (by decide)) k1141 (by decide)) k1158 (by decide)) k1218 (by decide)) k1230 (by decide))
                                · skip
                                  refine G_aload_n hX 6 rfl rfl d_Mo_readWindow_182 ?_
                                  have h1236 : F1137 31 = .int (zI (wE g p e)) := (k1140 31 (by decide)).trans h1132
                                  refine F_callV hX (st := [.long (zL (256 * ((256 * 0) + (g ((w3 g p e).2)))))]) (c_Mo_readByte_no E f1134 F1137 (((w3 g p e).2) + 1) (wE g p e) h1138 (moK_fr hmk (FrF.tr (FrF.tr (FrF.tr (FrF.tr (FrF.tr (FrF.tr (FrF.tr (FrF.tr (FrF.tr (FrF.tr (FrF.tr (FrF.rf (S := [30, 31, 39, 40, 41, 43])) k261 (by decide)) k325 (by decide)) k367 (by decide)) k391 (by decide)) k442 (by decide)) k470 (by decide)) k486 (by decide)) k577 (by decide)) k631 (by decide)) k674 (by decide)) k1140 (by decide)) (by decide)) h1139 h1236 h1146 (by omega)) cm_Mo_readByte im_Mo_readByte se_Mo_readByte rfl ml_Mo_357 d_Mo_readWindow_183 (by decide) h1138 rfl rfl (Nat.le_of_ble_eq_true rfl) (by decide) ?_
                                  rintro _ f1237 ⟨rfl, F1240, h1241, h1242, k1243, k1244⟩
                                  refine G_cast (st' := [.int (zI 0), .long (zL (256 * ((256 * 0) + (g ((w3 g p e).2)))))]) ?_ rfl rfl rfl rfl
                                  refine G_i2l hX (v := zL 0) (zI_l (by omega)) d_Mo_readWindow_186 ?_
                                  refine G_ladd_z hX d_Mo_readWindow_187 ?_
                                  refine G_lstore hX (lv' := [(7, .long (zL ((256 * ((256 * 0) + (g ((w3 g p e).2)))) + 0))), (9, .int (zI (0 + 1))), (6, .int (zI (wQ g p e))), (5, .int (zI ((wY g p e).1))), (4, .int (zI e)), (3, .int (zI (wk g p e))), (0, .ref (eA E 61)), (1, .int (zI N)), (2, .int (zI S))]) (by decide) rfl d_Mo_readWindow_188 ?_
                                  refine G_iinc_z hX (lv' := [(9, .int (zI ((0 + 1) + 1))), (7, .long (zL ((256 * ((256 * 0) + (g ((w3 g p e).2)))) + 0))), (6, .int (zI (wQ g p e))), (5, .int (zI ((wY g p e).1))), (4, .int (zI e)), (3, .int (zI (wk g p e))), (0, .ref (eA E 61)), (1, .int (zI N)), (2, .int (zI S))]) 1 rfl (by decide) rfl d_Mo_readWindow_190 ?_
                                  refine G_goto hX (tgt := 164) d_Mo_readWindow_193 rfl ?_
                                  refine G_iload hX 0 rfl d_Mo_readWindow_164 ?_
                                  refine G_iconst hX d_Mo_readWindow_166 ?_
                                  refine G_icmp_ge_z hX (tgt := 196) d_Mo_readWindow_167 rfl (by omega) (fun c1245 => by exfalso; omega) (fun c1246 => ?_)
                                  refine G_iload_n hX 5 rfl rfl d_Mo_readWindow_170 ?_
                                  refine G_iconst hX d_Mo_readWindow_171 ?_
                                  refine G_iand hX d_Mo_readWindow_172 ?_
                                  refine G_top (show (zI (wk g p e) &&& zI 4) = zI 4 from (zI_a4 (by omega)).trans (congrArg zI (by omega))) ?_
                                  refine G_if_le_z hX (tgt := 196) d_Mo_readWindow_173 rfl (by omega) (fun c1247 => by exfalso; omega) (fun c1248 => ?_)
                                  refine G_ldc2 hX kn_Mo_180 d_Mo_readWindow_176 ?_
                                  refine G_topl (show (256 : Int64) = zL (256) from by decide) ?_
                                  refine G_lload hX 1 rfl d_Mo_readWindow_179 ?_
                                  refine G_lmul_z hX d_Mo_readWindow_181 ?_
                                  refine G_aload_n hX 6 rfl rfl d_Mo_readWindow_182 ?_
                                  refine F_callV hX (st := [.long (zL (256 * ((256 * ((256 * 0) + (g ((w3 g p e).2)))) + 0)))]) (c_Mo_readByte_f E f1237 F1240 (-2) h1241 (moK_fr hmk (FrF.tr (FrF.tr (FrF.tr (FrF.tr (FrF.tr (FrF.tr (FrF.tr (FrF.tr (FrF.tr (FrF.tr (FrF.tr (FrF.tr (FrF.rf (S := [30, 31, 32, 39, 40, 41, 43])) k261 (by decide)) k325 (by decide)) k367 (by decide)) k391 (by decide)) k442 (by decide)) k470 (by decide)) k486 (by decide)) k577 (by decide)) k631 (by decide)) k674 (by decide)) k1140 (by decide)) k1243 (by decide)) (by decide)) h1242 (by omega)) cm_Mo_readByte im_Mo_readByte se_Mo_readByte rfl ml_Mo_357 d_Mo_readWindow_183 (by decide) h1241 rfl rfl (Nat.le_of_ble_eq_true rfl) (by decide) ?_
                                  rintro _ f1249 ⟨rfl, F1252, h1253, h1254, k1255, k1256⟩
                                  refine G_cast (st' := [.int (zI 0), .long (zL (256 * ((256 * ((256 * 0) + (g ((w3 g p e).2)))) + 0)))]) ?_ rfl rfl rfl rfl
                                  refine G_i2l hX (v := zL 0) (zI_l (by omega)) d_Mo_readWindow_186 ?_
                                  refine G_ladd_z hX d_Mo_readWindow_187 ?_
                                  refine G_lstore hX (lv' := [(7, .long (zL ((256 * ((256 * ((256 * 0) + (g ((w3 g p e).2)))) + 0)) + 0))), (9, .int (zI ((0 + 1) + 1))), (6, .int (zI (wQ g p e))), (5, .int (zI ((wY g p e).1))), (4, .int (zI e)), (3, .int (zI (wk g p e))), (0, .ref (eA E 61)), (1, .int (zI N)), (2, .int (zI S))]) (by decide) rfl d_Mo_readWindow_188 ?_
                                  refine G_iinc_z hX (lv' := [(9, .int (zI (((0 + 1) + 1) + 1))), (7, .long (zL ((256 * ((256 * ((256 * 0) + (g ((w3 g p e).2)))) + 0)) + 0))), (6, .int (zI (wQ g p e))), (5, .int (zI ((wY g p e).1))), (4, .int (zI e)), (3, .int (zI (wk g p e))), (0, .ref (eA E 61)), (1, .int (zI N)), (2, .int (zI S))]) 1 rfl (by decide) rfl d_Mo_readWindow_190 ?_
                                  refine G_goto hX (tgt := 164) d_Mo_readWindow_193 rfl ?_
                                  refine G_iload hX 0 rfl d_Mo_readWindow_164 ?_
                                  refine G_iconst hX d_Mo_readWindow_166 ?_
                                  refine G_icmp_ge_z hX (tgt := 196) d_Mo_readWindow_167 rfl (by omega) (fun c1257 => by exfalso; omega) (fun c1258 => ?_)
                                  refine G_iload_n hX 5 rfl rfl d_Mo_readWindow_170 ?_
                                  refine G_iconst hX d_Mo_readWindow_171 ?_
                                  refine G_iand hX d_Mo_readWindow_172 ?_
                                  refine G_top (show (zI (wk g p e) &&& zI 4) = zI 4 from (zI_a4 (by omega)).trans (congrArg zI (by omega))) ?_
                                  refine G_if_le_z hX (tgt := 196) d_Mo_readWindow_173 rfl (by omega) (fun c1259 => by exfalso; omega) (fun c1260 => ?_)
                                  refine G_ldc2 hX kn_Mo_180 d_Mo_readWindow_176 ?_
                                  refine G_topl (show (256 : Int64) = zL (256) from by decide) ?_
                                  refine G_lload hX 1 rfl d_Mo_readWindow_179 ?_
                                  refine G_lmul_z hX d_Mo_readWindow_181 ?_
                                  refine G_aload_n hX 6 rfl rfl d_Mo_readWindow_182 ?_
                                  refine F_callV hX (st := [.long (zL (256 * ((256 * ((256 * ((256 * 0) + (g ((w3 g p e).2)))) + 0)) + 0)))]) (c_Mo_readByte_f E f1249 F1252 (-2) h1253 (moK_fr hmk (FrF.tr (FrF.tr (FrF.tr (FrF.tr (FrF.tr (FrF.tr (FrF.tr (FrF.tr (FrF.tr (FrF.tr (FrF.tr (FrF.tr (FrF.tr (FrF.rf (S := [30, 31, 32, 39, 40, 41, 43])) k261 (by decide)) k325 (by decide)) k367 (by decide)) k391 (by decide)) k442 (by decide)) k470 (by decide)) k486 (by decide)) k577 (by decide)) k631 (by decide)) k674 (by decide)) k1140 (by decide)) k1243 (by decide)) k1255 (by decide)) (by decide)) h1254 (by omega)) cm_Mo_readByte im_Mo_readByte se_Mo_readByte rfl ml_Mo_357 d_Mo_readWindow_183 (by decide) h1253 rfl rfl (Nat.le_of_ble_eq_true rfl) (by decide) ?_
                                  rintro _ f1261 ⟨rfl, F1264, h1265, h1266, k1267, k1268⟩
                                  refine G_cast (st' := [.int (zI 0), .long (zL (256 * ((256 * ((256 * ((256 * 0) + (g ((w3 g p e).2)))) + 0)) + 0)))]) ?_ rfl rfl rfl rfl
                                  refine G_i2l hX (v := zL 0) (zI_l (by omega)) d_Mo_readWindow_186 ?_
                                  refine G_ladd_z hX d_Mo_readWindow_187 ?_
                                  refine G_lstore hX (lv' := [(7, .long (zL ((256 * ((256 * ((256 * ((256 * 0) + (g ((w3 g p e).2)))) + 0)) + 0)) + 0))), (9, .int (zI (((0 + 1) + 1) + 1))), (6, .int (zI (wQ g p e))), (5, .int (zI ((wY g p e).1))), (4, .int (zI e)), (3, .int (zI (wk g p e))), (0, .ref (eA E 61)), (1, .int (zI N)), (2, .int (zI S))]) (by decide) rfl d_Mo_readWindow_188 ?_
                                  refine G_iinc_z hX (lv' := [(9, .int (zI ((((0 + 1) + 1) + 1) + 1))), (7, .long (zL ((256 * ((256 * ((256 * ((256 * 0) + (g ((w3 g p e).2)))) + 0)) + 0)) + 0))), (6, .int (zI (wQ g p e))), (5, .int (zI ((wY g p e).1))), (4, .int (zI e)), (3, .int (zI (wk g p e))), (0, .ref (eA E 61)), (1, .int (zI N)), (2, .int (zI S))]) 1 rfl (by decide) rfl d_Mo_readWindow_190 ?_
                                  refine G_goto hX (tgt := 164) d_Mo_readWindow_193 rfl ?_
                                  refine G_iload hX 0 rfl d_Mo_readWindow_164 ?_
                                  refine G_iconst hX d_Mo_readWindow_166 ?_
                                  refine G_icmp_ge_z hX (tgt := 196) d_Mo_readWindow_167 rfl (by omega) (fun c1269 => ?_) (fun c1270 => by exfalso; omega)
                                  have h1271 : F1264 30 = .int (zI (((w3 g p e).2) + 1)) := (k1267 30 (by decide)).trans ((k1255 30 (by decide)).trans ((k1243 30 (by decide)).trans h1139))
                                  have h1272 : F1264 31 = .int (zI (wE g p e)) := (k1267 31 (by decide)).trans ((k1255 31 (by decide)).trans ((k1243 31 (by decide)).trans h1236))
                                  have h1273 : f1261 84 = iz E 3 (uz (uz (uz ev 0 ((w1 g p e).1)) (0 + 1) ((w2 g p e).1)) ((0 + 1) + 1) ((w3 g p e).1)) := (k1268 84 (by decide)).trans ((k1256 84 (by decide)).trans ((k1244 84 (by decide)).trans ((k1141 84 (by decide)).trans h679)))
                                  refine G_loc (lv' := [(0, .ref (eA E 61))]) [6] rfl ?_
                                  exact join6 (-2) (((w3 g p e).2) + 1) (wE g p e) (uz (uz (uz ev 0 ((w1 g p e).1)) (0 + 1) ((w2 g p e).1)) ((0 + 1) + 1) ((w3 g p e).1)) F1264 f1261  (by decide) hdd (by omega) h1266 h1271 h1272 (FrF.tr (FrF.tr (FrF.tr (FrF.tr (FrF.tr (FrF.tr (FrF.tr (FrF.tr (FrF.tr (FrF.tr (FrF.tr (FrF.tr (FrF.tr (FrF.tr FrF.rf k261 (by decide)) k325 (by decide)) k367 (by decide)) k391 (by decide)) k442 (by decide)) k470 (by decide)) k486 (by decide)) k577 (by decide)) k631 (by decide)) k674 (by decide)) k1140 (by decide)) k1243 (by decide)) k1255 (by decide)) k1267 (by decide)) h1273 h1265 (Fr.tr (Fr.tr (Fr.tr (Fr.tr (Fr.tr (Fr.tr (Fr.tr (Fr.tr (Fr.tr (Fr.tr (Fr.tr (Fr.tr (Fr.tr (Fr.tr (Fr.tr (Fr.tr (Fr.tr Fr.rf k262 (by decide)) k326 (by decide)) k368 (by decide)) k392 (by decide)) k443 (by decide)) k471 (by decide)) k487 (by decide)) k578 (by decide)) k583 (by decide)) k632 (by decide)) k637 (by decide)) k675 (by decide)) k680 (by decide)) k1141 (by decide)) k1244 (by decide)) k1256 (by decide)) k1268 (by decide))
                              · skip
                                refine G_aload_n hX 6 rfl rfl d_Mo_readWindow_182 ?_
                                have h1274 : f678 61 = mob F671 := (k680 61 (by decide)).trans h672
                                have h1275 : F671 31 = .int (zI (wE g p e)) := (k674 31 (by decide)).trans h665
                                refine F_callV hX (st := [.long (zL (256 * 0))]) (c_Mo_readByte_no E f678 F671 ((w3 g p e).2) (wE g p e) h1274 (moK_fr hmk (FrF.tr (FrF.tr (FrF.tr (FrF.tr (FrF.tr (FrF.tr (FrF.tr (FrF.tr (FrF.tr (FrF.tr (FrF.rf (S := [30, 31, 39, 40, 41, 43])) k261 (by decide)) k325 (by decide)) k367 (by decide)) k391 (by decide)) k442 (by decide)) k470 (by decide)) k486 (by decide)) k577 (by decide)) k631 (by decide)) k674 (by decide)) (by decide)) h676 h1275 h1128 (by omega)) cm_Mo_readByte im_Mo_readByte se_Mo_readByte rfl ml_Mo_357 d_Mo_readWindow_183 (by decide) h1274 rfl rfl (Nat.le_of_ble_eq_true rfl) (by decide) ?_
                                rintro _ f1276 ⟨rfl, F1279, h1280, h1281, k1282, k1283⟩
                                refine G_cast (st' := [.int (zI 0), .long (zL (256 * 0))]) ?_ rfl rfl rfl rfl
                                refine G_i2l hX (v := zL 0) (zI_l (by omega)) d_Mo_readWindow_186 ?_
                                refine G_ladd_z hX d_Mo_readWindow_187 ?_
                                refine G_lstore hX (lv' := [(7, .long (zL ((256 * 0) + 0))), (9, .int (zI 0)), (6, .int (zI (wQ g p e))), (5, .int (zI ((wY g p e).1))), (4, .int (zI e)), (3, .int (zI (wk g p e))), (0, .ref (eA E 61)), (1, .int (zI N)), (2, .int (zI S))]) (by decide) rfl d_Mo_readWindow_188 ?_
                                refine G_iinc_z hX (lv' := [(9, .int (zI (0 + 1))), (7, .long (zL ((256 * 0) + 0))), (6, .int (zI (wQ g p e))), (5, .int (zI ((wY g p e).1))), (4, .int (zI e)), (3, .int (zI (wk g p e))), (0, .ref (eA E 61)), (1, .int (zI N)), (2, .int (zI S))]) 1 rfl (by decide) rfl d_Mo_readWindow_190 ?_
                                refine G_goto hX (tgt := 164) d_Mo_readWindow_193 rfl ?_
                                refine G_iload hX 0 rfl d_Mo_readWindow_164 ?_
                                refine G_iconst hX d_Mo_readWindow_166 ?_
                                refine G_icmp_ge_z hX (tgt := 196) d_Mo_readWindow_167 rfl (by omega) (fun c1284 => by exfalso; omega) (fun c1285 => ?_)
                                refine G_iload_n hX 5 rfl rfl d_Mo_readWindow_170 ?_
                                refine G_iconst hX d_Mo_readWindow_171 ?_
                                refine G_iand hX d_Mo_readWindow_172 ?_
                                refine G_top (show (zI (wk g p e) &&& zI 4) = zI 4 from (zI_a4 (by omega)).trans (congrArg zI (by omega))) ?_
                                refine G_if_le_z hX (tgt := 196) d_Mo_readWindow_173 rfl (by omega) (fun c1286 => by exfalso; omega) (fun c1287 => ?_)
                                refine G_ldc2 hX kn_Mo_180 d_Mo_readWindow_176 ?_
                                refine G_topl (show (256 : Int64) = zL (256) from by decide) ?_
                                refine G_lload hX 1 rfl d_Mo_readWindow_179 ?_
                                refine G_lmul_z hX d_Mo_readWindow_181 ?_
                                refine G_aload_n hX 6 rfl rfl d_Mo_readWindow_182 ?_
                                refine F_callV hX (st := [.long (zL (256 * ((256 * 0) + 0)))]) (c_Mo_readByte_f E f1276 F1279 (-2) h1280 (moK_fr hmk (FrF.tr (FrF.tr (FrF.tr (FrF.tr (FrF.tr (FrF.tr (FrF.tr (FrF.tr (FrF.tr (FrF.tr (FrF.tr (FrF.rf (S := [30, 31, 32, 39, 40, 41, 43])) k261 (by decide)) k325 (by decide)) k367 (by decide)) k391 (by decide)) k442 (by decide)) k470 (by decide)) k486 (by decide)) k577 (by decide)) k631 (by decide)) k674 (by decide)) k1282 (by decide)) (by decide)) h1281 (by omega)) cm_Mo_readByte im_Mo_readByte se_Mo_readByte rfl ml_Mo_357 d_Mo_readWindow_183 (by decide) h1280 rfl rfl (Nat.le_of_ble_eq_true rfl) (by decide) ?_
                                rintro _ f1288 ⟨rfl, F1291, h1292, h1293, k1294, k1295⟩
                                refine G_cast (st' := [.int (zI 0), .long (zL (256 * ((256 * 0) + 0)))]) ?_ rfl rfl rfl rfl
                                refine G_i2l hX (v := zL 0) (zI_l (by omega)) d_Mo_readWindow_186 ?_
                                refine G_ladd_z hX d_Mo_readWindow_187 ?_
                                refine G_lstore hX (lv' := [(7, .long (zL ((256 * ((256 * 0) + 0)) + 0))), (9, .int (zI (0 + 1))), (6, .int (zI (wQ g p e))), (5, .int (zI ((wY g p e).1))), (4, .int (zI e)), (3, .int (zI (wk g p e))), (0, .ref (eA E 61)), (1, .int (zI N)), (2, .int (zI S))]) (by decide) rfl d_Mo_readWindow_188 ?_
                                refine G_iinc_z hX (lv' := [(9, .int (zI ((0 + 1) + 1))), (7, .long (zL ((256 * ((256 * 0) + 0)) + 0))), (6, .int (zI (wQ g p e))), (5, .int (zI ((wY g p e).1))), (4, .int (zI e)), (3, .int (zI (wk g p e))), (0, .ref (eA E 61)), (1, .int (zI N)), (2, .int (zI S))]) 1 rfl (by decide) rfl d_Mo_readWindow_190 ?_
                                refine G_goto hX (tgt := 164) d_Mo_readWindow_193 rfl ?_
                                refine G_iload hX 0 rfl d_Mo_readWindow_164 ?_
                                refine G_iconst hX d_Mo_readWindow_166 ?_
                                refine G_icmp_ge_z hX (tgt := 196) d_Mo_readWindow_167 rfl (by omega) (fun c1296 => by exfalso; omega) (fun c1297 => ?_)
                                refine G_iload_n hX 5 rfl rfl d_Mo_readWindow_170 ?_
                                refine G_iconst hX d_Mo_readWindow_171 ?_
                                refine G_iand hX d_Mo_readWindow_172 ?_
                                refine G_top (show (zI (wk g p e) &&& zI 4) = zI 4 from (zI_a4 (by omega)).trans (congrArg zI (by omega))) ?_
                                refine G_if_le_z hX (tgt := 196) d_Mo_readWindow_173 rfl (by omega) (fun c1298 => by exfalso; omega) (fun c1299 => ?_)
                                refine G_ldc2 hX kn_Mo_180 d_Mo_readWindow_176 ?_
                                refine G_topl (show (256 : Int64) = zL (256) from by decide) ?_
                                refine G_lload hX 1 rfl d_Mo_readWindow_179 ?_
                                refine G_lmul_z hX d_Mo_readWindow_181 ?_
                                refine G_aload_n hX 6 rfl rfl d_Mo_readWindow_182 ?_
                                refine F_callV hX (st := [.long (zL (256 * ((256 * ((256 * 0) + 0)) + 0)))]) (c_Mo_readByte_f E f1288 F1291 (-2) h1292 (moK_fr hmk (FrF.tr (FrF.tr (FrF.tr (FrF.tr (FrF.tr (FrF.tr (FrF.tr (FrF.tr (FrF.tr (FrF.tr (FrF.tr (FrF.tr (FrF.rf (S := [30, 31, 32, 39, 40, 41, 43])) k261 (by decide)) k325 (by decide)) k367 (by decide)) k391 (by decide)) k442 (by decide)) k470 (by decide)) k486 (by decide)) k577 (by decide)) k631 (by decide)) k674 (by decide)) k1282 (by decide)) k1294 (by decide)) (by decide)) h1293 (by omega)) cm_Mo_readByte im_Mo_readByte se_Mo_readByte rfl ml_Mo_357 d_Mo_readWindow_183 (by decide) h1292 rfl rfl (Nat.le_of_ble_eq_true rfl) (by decide) ?_
                                rintro _ f1300 ⟨rfl, F1303, h1304, h1305, k1306, k1307⟩
                                refine G_cast (st' := [.int (zI 0), .long (zL (256 * ((256 * ((256 * 0) + 0)) + 0)))]) ?_ rfl rfl rfl rfl
                                refine G_i2l hX (v := zL 0) (zI_l (by omega)) d_Mo_readWindow_186 ?_
                                refine G_ladd_z hX d_Mo_readWindow_187 ?_
                                refine G_lstore hX (lv' := [(7, .long (zL ((256 * ((256 * ((256 * 0) + 0)) + 0)) + 0))), (9, .int (zI ((0 + 1) + 1))), (6, .int (zI (wQ g p e))), (5, .int (zI ((wY g p e).1))), (4, .int (zI e)), (3, .int (zI (wk g p e))), (0, .ref (eA E 61)), (1, .int (zI N)), (2, .int (zI S))]) (by decide) rfl d_Mo_readWindow_188 ?_
                                refine G_iinc_z hX (lv' := [(9, .int (zI (((0 + 1) + 1) + 1))), (7, .long (zL ((256 * ((256 * ((256 * 0) + 0)) + 0)) + 0))), (6, .int (zI (wQ g p e))), (5, .int (zI ((wY g p e).1))), (4, .int (zI e)), (3, .int (zI (wk g p e))), (0, .ref (eA E 61)), (1, .int (zI N)), (2, .int (zI S))]) 1 rfl (by decide) rfl d_Mo_readWindow_190 ?_
                                refine G_goto hX (tgt := 164) d_Mo_readWindow_193 rfl ?_
                                refine G_iload hX 0 rfl d_Mo_readWindow_164 ?_
                                refine G_iconst hX d_Mo_readWindow_166 ?_
                                refine G_icmp_ge_z hX (tgt := 196) d_Mo_readWindow_167 rfl (by omega) (fun c1308 => by exfalso; omega) (fun c1309 => ?_)
                                refine G_iload_n hX 5 rfl rfl d_Mo_readWindow_170 ?_
                                refine G_iconst hX d_Mo_readWindow_171 ?_
                                refine G_iand hX d_Mo_readWindow_172 ?_
                                refine G_top (show (zI (wk g p e) &&& zI 4) = zI 4 from (zI_a4 (by omega)).trans (congrArg zI (by omega))) ?_
                                refine G_if_le_z hX (tgt := 196) d_Mo_readWindow_173 rfl (by omega) (fun c1310 => by exfalso; omega) (fun c1311 => ?_)
                                refine G_ldc2 hX kn_Mo_180 d_Mo_readWindow_176 ?_
                                refine G_topl (show (256 : Int64) = zL (256) from by decide) ?_
                                refine G_lload hX 1 rfl d_Mo_readWindow_179 ?_
                                refine G_lmul_z hX d_Mo_readWindow_181 ?_
                                refine G_aload_n hX 6 rfl rfl d_Mo_readWindow_182 ?_
                                refine F_callV hX (st := [.long (zL (256 * ((256 * ((256 * ((256 * 0) + 0)) + 0)) + 0)))]) (c_Mo_readByte_f E f1300 F1303 (-2) h1304 (moK_fr hmk (FrF.tr (FrF.tr (FrF.tr (FrF.tr (FrF.tr (FrF.tr (FrF.tr (FrF.tr (FrF.tr (FrF.tr (FrF.tr (FrF.tr (FrF.tr (FrF.rf (S := [30, 31, 32, 39, 40, 41, 43])) k261 (by decide)) k325 (by decide)) k367 (by decide)) k391 (by decide)) k442 (by decide)) k470 (by decide)) k486 (by decide)) k577 (by decide)) k631 (by decide)) k674 (by decide)) k1282 (by decide)) k1294 (by decide)) k1306 (by decide)) (by decide)) h1305 (by omega)) cm_Mo_readByte im_Mo_readByte se_Mo_readByte rfl ml_Mo_357 d_Mo_readWindow_183 (by decide) h1304 rfl rfl (Nat.le_of_ble_eq_true rfl) (by decide) ?_
                                rintro _ f1312 ⟨rfl, F1315, h1316, h1317, k1318, k1319⟩
                                refine G_cast (st' := [.int (zI 0), .long (zL (256 * ((256 * ((256 * ((256 * 0) + 0)) + 0)) + 0)))]) ?_ rfl rfl rfl rfl
                                refine G_i2l hX (v := zL 0) (zI_l (by omega)) d_Mo_readWindow_186 ?_
                                refine G_ladd_z hX d_Mo_readWindow_187 ?_
                                refine G_lstore hX (lv' := [(7, .long (zL ((256 * ((256 * ((256 * ((256 * 0) + 0)) + 0)) + 0)) + 0))), (9, .int (zI (((0 + 1) + 1) + 1))), (6, .int (zI (wQ g p e))), (5, .int (zI ((wY g p e).1))), (4, .int (zI e)), (3, .int (zI (wk g p e))), (0, .ref (eA E 61)), (1, .int (zI N)), (2, .int (zI S))]) (by decide) rfl d_Mo_readWindow_188 ?_
                                refine G_iinc_z hX (lv' := [(9, .int (zI ((((0 + 1) + 1) + 1) + 1))), (7, .long (zL ((256 * ((256 * ((256 * ((256 * 0) + 0)) + 0)) + 0)) + 0))), (6, .int (zI (wQ g p e))), (5, .int (zI ((wY g p e).1))), (4, .int (zI e)), (3, .int (zI (wk g p e))), (0, .ref (eA E 61)), (1, .int (zI N)), (2, .int (zI S))]) 1 rfl (by decide) rfl d_Mo_readWindow_190 ?_
                                refine G_goto hX (tgt := 164) d_Mo_readWindow_193 rfl ?_
                                refine G_iload hX 0 rfl d_Mo_readWindow_164 ?_
                                refine G_iconst hX d_Mo_readWindow_166 ?_
                                refine G_icmp_ge_z hX (tgt := 196) d_Mo_readWindow_167 rfl (by omega) (fun c1320 => ?_) (fun c1321 => by exfalso; omega)
                                have h1322 : F1315 30 = .int (zI ((w3 g p e).2)) := (k1318 30 (by decide)).trans ((k1306 30 (by decide)).trans ((k1294 30 (by decide)).trans ((k1282 30 (by decide)).trans h676)))
                                have h1323 : F1315 31 = .int (zI (wE g p e)) := (k1318 31 (by decide)).trans ((k1306 31 (by decide)).trans ((k1294 31 (by decide)).trans ((k1282 31 (by decide)).trans h1275)))
                                have h1324 : f1312 84 = iz E 3 (uz (uz (uz ev 0 ((w1 g p e).1)) (0 + 1) ((w2 g p e).1)) ((0 + 1) + 1) ((w3 g p e).1)) := (k1319 84 (by decide)).trans ((k1307 84 (by decide)).trans ((k1295 84 (by decide)).trans ((k1283 84 (by decide)).trans h679)))
                                refine G_loc (lv' := [(0, .ref (eA E 61))]) [6] rfl ?_
                                exact join6 (-2) ((w3 g p e).2) (wE g p e) (uz (uz (uz ev 0 ((w1 g p e).1)) (0 + 1) ((w2 g p e).1)) ((0 + 1) + 1) ((w3 g p e).1)) F1315 f1312  (by decide) hdd (by omega) h1317 h1322 h1323 (FrF.tr (FrF.tr (FrF.tr (FrF.tr (FrF.tr (FrF.tr (FrF.tr (FrF.tr (FrF.tr (FrF.tr (FrF.tr (FrF.tr (FrF.tr (FrF.tr FrF.rf k261 (by decide)) k325 (by decide)) k367 (by decide)) k391 (by decide)) k442 (by decide)) k470 (by decide)) k486 (by decide)) k577 (by decide)) k631 (by decide)) k674 (by decide)) k1282 (by decide)) k1294 (by decide)) k1306 (by decide)) k1318 (by decide)) h1324 h1316 (Fr.tr (Fr.tr (Fr.tr (Fr.tr (Fr.tr (Fr.tr (Fr.tr (Fr.tr (Fr.tr (Fr.tr (Fr.tr (Fr.tr (Fr.tr (Fr.tr (Fr.tr (Fr.tr (Fr.tr Fr.rf k262 (by decide)) k326 (by decide)) k368 (by decide)) k392 (by decide)) k443 (by decide)) k471 (by decide)) k487 (by decide)) k578 (by decide)) k583 (by decide)) k632 (by decide)) k637 (by decide)) k675 (by decide)) k680 (by decide)) k1283 (by decide)) k1295 (by decide)) k1307 (by decide)) k1319 (by decide))
              · skip
                have hq9 : wQ g p e = -1 := if_neg (by omega)
                have hc6 : ¬ (0 < wQ g p e ∧ ¬ wQ g p e % 8 = 0) := by omega
                have hc7 : ¬ wQ g p e = 0 := by omega
                have hda : hdA g p e mc oc nm = -2 := by unfold hdA; rw [if_neg hc1, if_neg hc2, if_neg hc3, if_neg hc4, if_neg hc5, if_neg hc6, if_pos hc7]
                have hdd : (if ¬ hdA g p e mc oc nm = 0 then hdA g p e mc oc nm else mkE (hdK g p e mc) (mkF (hdK g p e mc) g t old N S m)) = -2 := by rw [hda]; exact if_pos (by decide)
                refine G_aload_n hX 3 rfl rfl d_Mo_readWindow_102 ?_
                have h1325 : F467 30 = .int (zI ((wZ g p e).2)) := (k470 30 (by decide)).trans h444
                have h1326 : F467 31 = .int (zI (wE g p e)) := (k470 31 (by decide)).trans ((k442 31 (by decide)).trans h393)
                have h1327 : F467 32 = .int (zI 0) := (k470 32 (by decide)).trans ((k442 32 (by decide)).trans h434)
                refine F_callV hX (st := []) (c_Mo_readByte_no E f466 F467 ((wZ g p e).2) (wE g p e) h468 (moK_fr hmk (FrF.tr (FrF.tr (FrF.tr (FrF.tr (FrF.tr (FrF.tr (FrF.rf (S := [30, 31, 39, 40, 41, 43])) k261 (by decide)) k325 (by decide)) k367 (by decide)) k391 (by decide)) k442 (by decide)) k470 (by decide)) (by decide)) h1325 h1326 h1327 (by omega)) cm_Mo_readByte im_Mo_readByte se_Mo_readByte rfl ml_Mo_357 d_Mo_readWindow_103 (by decide) h468 rfl rfl (Nat.le_of_ble_eq_true rfl) (by decide) ?_
                rintro _ f1328 ⟨rfl, F1331, h1332, h1333, k1334, k1335⟩
                refine G_cast (st' := [.int (zI 0)]) ?_ rfl rfl rfl rfl
                refine G_istore hX (lv' := [(6, .int (zI 0)), (5, .int (zI ((wY g p e).1))), (4, .int (zI e)), (3, .int (zI (wk g p e))), (0, .ref (eA E 61)), (1, .int (zI N)), (2, .int (zI S))]) (by decide) rfl d_Mo_readWindow_106 ?_
                refine G_iload hX 0 rfl d_Mo_readWindow_108 ?_
                refine G_if_le_z hX (tgt := 132) d_Mo_readWindow_110 rfl (by omega) (fun c1336 => ?_) (fun c1337 => by exfalso; omega)
                have h1338 : F1331 30 = .int (zI ((wZ g p e).2)) := (k1334 30 (by decide)).trans h1325
                have h1339 : F1331 31 = .int (zI (wE g p e)) := (k1334 31 (by decide)).trans h1326
                refine G_loc (lv' := [(0, .ref (eA E 61)), (3, .int (zI (wk g p e)))]) [4, 3] rfl ?_
                exact join106 (-2) ((wZ g p e).2) (wE g p e) (wk g p e) F1331 f1328  (by decide) hdd (by omega) (by omega) h1333 h1338 h1339 (FrF.tr (FrF.tr (FrF.tr (FrF.tr (FrF.tr (FrF.tr (FrF.tr FrF.rf k261 (by decide)) k325 (by decide)) k367 (by decide)) k391 (by decide)) k442 (by decide)) k470 (by decide)) k1334 (by decide)) h1332 (Fr.tr (Fr.tr (Fr.tr (Fr.tr (Fr.tr (Fr.tr (Fr.tr Fr.rf k262 (by decide)) k326 (by decide)) k368 (by decide)) k392 (by decide)) k443 (by decide)) k471 (by decide)) k1335 (by decide))
