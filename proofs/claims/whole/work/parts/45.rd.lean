/-! DeltaFerry.decode; printed by wip/tools/m_rd3.py -/
theorem wd_fr {E : EV} {f f1 : Nat → va_E} {S : List Nat} (h : wdS E f) (k : Fr S f f1) (hs : ∀ x ∈ [53, 54, 55, 56, 57, 58, 59, 60], x ∉ S) : wdS E f1 := by
  obtain ⟨⟨v5, v6, y1, y2, y3, y4, y5, l, h1⟩, ⟨a1, a2, a3, h2⟩, ⟨b1, b2, b3, h3⟩, ⟨d1, d2, d3, h4⟩, ⟨e1, e2, e3, h5⟩, ⟨n1, n2, n3, n4, n5, h6⟩⟩ := h
  exact ⟨⟨_, _, _, _, _, _, _, _, (k 53 (hs _ (by decide))).trans h1⟩, ⟨_, _, _, (k 54 (hs _ (by decide))).trans h2⟩, ⟨_, _, _, (k 55 (hs _ (by decide))).trans h3⟩, ⟨_, _, _, (k 56 (hs _ (by decide))).trans h4⟩, ⟨_, _, _, (k 57 (hs _ (by decide))).trans h5⟩, ⟨_, _, _, _, _, ⟨(k 58 (hs _ (by decide))).trans h6.1, (k 59 (hs _ (by decide))).trans h6.2.1, (k 60 (hs _ (by decide))).trans h6.2.2⟩⟩⟩
theorem cu_fr {E : EV} {f f1 : Nat → va_E} {S : List Nat} {i : Nat} (h : cuS E f i) (k : Fr S f f1) (hs : i ∉ S) : cuS E f1 i := by
  obtain ⟨a, b, c, h1⟩ := h
  exact ⟨a, b, c, (k i hs).trans h1⟩
theorem isR_fr {E : EV} {f f1 : Nat → va_E} {S : List Nat} {i j n : Nat} {g : Int → Int} {c : Int} (h : isR E f i j n g c) (k : Fr S f f1) (hs : i ∉ S ∧ j ∉ S) : isR E f1 i j n g c := ⟨(k i hs.1).trans h.1, (k j hs.2).trans h.2⟩
theorem c_Df_decode (E : EV) (f : Nat → va_E) (bk wi ns : Int) (n1 n2 : Int64) (g old st mR mT gr : Int → Int) (e oc cR cT cr : Int) (hF : isDf E f bk wi ns n1 n2) (hI1 : rdS E f) (hI2 : cuS E f 51) (hI3 : cuS E f 52) (hI4 : wdS E f) (hMR : isR E f 45 46 300 mR cR) (hmR : isB mR) (hMT : isR E f 47 48 1536 mT cT) (hmT : isB mT) (hst : isR E f 49 50 1536 st 1536) (hsB : isB st) (hs3 : ∀ k, 0 ≤ k → k < 512 → st k ≤ 3) (hO : isR E f 2 3 300 old oc) (hoB : isB old) (hD : isR E f 6 7 700 g e) (hB : isB g) (hS : isR E f 8 9 300 gr cr) (hb : 0 ≤ e ∧ e ≤ 700 ∧ 0 ≤ oc ∧ oc ≤ 300 ∧ 0 ≤ cr ∧ cr ≤ 300 ∧ 0 ≤ cR ∧ cR ≤ 300 ∧ 0 ≤ cT ∧ cT ≤ 1536) : CF yn_Df_decode cd_Df_decode 2 (some (.int)) 5 E [.ref (eA E 0)] f (fun r f' => (((dcF g e st old oc mR mT).1 = 0 ∧ r = some (.int (zI (dcF g e st old oc mR mT).2.2)) ∧ isR E f' 8 9 300 (cz (dcF g e st old oc mR mT).2.1 gr 0 0 (dcF g e st old oc mR mT).2.2) (dcF g e st old oc mR mT).2.2 ∧ isB (dcF g e st old oc mR mT).2.1 ∧ 0 ≤ (dcF g e st old oc mR mT).2.2 ∧ (dcF g e st old oc mR mT).2.2 ≤ 300) ∨ (¬ (dcF g e st old oc mR mT).1 = 0 ∧ (-6 ≤ (dcF g e st old oc mR mT).1 ∧ (dcF g e st old oc mR mT).1 ≤ 0) ∧ r = some (.int (zI (dcF g e st old oc mR mT).1)) ∧ isR E f' 8 9 300 gr cr)) ∧ rdI E f' st ∧ Fr [8, 9, 44, 45, 46, 47, 48, 51, 52, 53, 54, 55, 56, 57, 58, 59, 60] f f') := by
  refine CF.of (by decide +kernel) (Nat.le_of_ble_eq_true rfl) fun X hX hE => ?_
  have hX : Ok E X "DeltaFerry" "decode" cd_Df_decode 2 (some (.int)) (rl 5) := hX
  refine G_cast (lv' := [(0, .ref (eA E 0))]) ?_ rfl rfl rfl rfl
  obtain ⟨x1, x2, x3, v4, v5, v6, v7, v8, y1, y2, h44⟩ := hI1
  obtain ⟨w1, a1, b1, h51⟩ := hI2
  obtain ⟨w2, a2, b2, h52⟩ := hI3
  have hrb := rbV_b hB 0 e
  refine G_aload_n hX 0 rfl rfl d_Df_decode_0 ?_
  refine F_get hX fg_Df_60 d_Df_decode_1 0 (by decide) hF.1 rfl ?_
  refine G_aload_n hX 0 rfl rfl d_Df_decode_4 ?_
  refine F_get hX fg_Df_9 d_Df_decode_5 0 (by decide) hF.1 rfl ?_
  refine G_iconst hX d_Df_decode_8 ?_
  refine F_aald hX d_Df_decode_9 1 (by decide) hF.2 (by decide) (a := eA E 6) rfl ?_
  refine F_callV hX (st := []) (c_Rd_open E f g e x1 x2 x3 v4 v5 v6 v7 v8 y1 y2 w1 a1 b1 h44 h51 ⟨hD.1, hD.2⟩ hB (by omega)) cm_Rd_open im_Rd_open se_Rd_open rfl ml_Df_199 d_Df_decode_10 (by decide) h44 rfl rfl (Nat.le_of_ble_eq_true rfl) (by decide) ?_
  rintro _ f1 ⟨rfl, h44b, ⟨p2, h51b, hp2, hp5⟩, k4⟩
  refine G_cast (st' := [.int (zI (if rbV g 0 e = 0 ∨ rbV g 0 e = 2 then 0 else if 0 < rbV g 0 e ∧ ¬ rbV g 0 e % 2 = 0 then -3 else -2))]) ?_ rfl rfl rfl rfl
  by_cases hf0 : rbV g 0 e = 0
  · skip
    have hfl := rbV_lt (g := g) (p := 0) (e := e) (by omega)
    obtain rfl : p2 = 5 := hp5 (by omega)
    refine G_top (show zI (if rbV g 0 e = 0 ∨ rbV g 0 e = 2 then 0 else if 0 < rbV g 0 e ∧ ¬ rbV g 0 e % 2 = 0 then -3 else -2) = zI 0 from by rw [if_pos (by omega)]) ?_
    have eD : (dcF g e st old oc mR mT) = rdW g st old 4 3 oc 300 e 700 5 mR 0 := by unfold dcF; rw [if_pos hf0]
    refine G_istore_n hX (lv' := [(1, .int (zI 0)), (0, .ref (eA E 0))]) rfl (by decide) rfl d_Df_decode_13 ?_
    refine G_iload_n hX 0 rfl rfl d_Df_decode_14 ?_
    refine G_if_ne_z hX (tgt := 55) d_Df_decode_15 rfl (by omega) (fun c5 => by exfalso; omega) (fun c6 => ?_)
    refine G_aload_n hX 1 rfl rfl d_Df_decode_18 ?_
    have h7 : f1 0 = ob 11 [.ref (eA E 1), .ref (eA E 10), .ref (eA E 13), .ref (eA E 14), .ref (eA E 22), .ref (eA E 27), .ref (eA E 29), .ref (eA E 44), .int (zI bk), .int (zI wi), .int (zI ns), .long n1, .long n2] := (k4 0 (by decide)).trans hF.1
    refine F_get hX fg_Df_60 d_Df_decode_19 0 (by decide) h7 rfl ?_
    refine F_callV hX (st := []) (c_Rd_tableFollows E f1 (rbV g 0 e) (zI 4) (zI 3) (.ref (eA E 49)) v5 v6 v7 v8 y1 y2 h44b hrb) cm_Rd_tableFollows im_Rd_tableFollows se_Rd_tableFollows rfl ml_Df_202 d_Df_decode_22 (by decide) h44b rfl rfl (Nat.le_of_ble_eq_true rfl) (by decide) ?_
    rintro _ f8 ⟨rfl, e11⟩
    obtain rfl := e11.symm
    refine G_cast (st' := [.int (zI (if rbV g 0 e = 2 then 1 else 0))]) ?_ rfl rfl rfl rfl
    refine G_top (show zI (if rbV g 0 e = 2 then 1 else 0) = zI 0 from by rw [if_neg (by omega)]) ?_
    refine G_if_eq_z hX (tgt := 55) d_Df_decode_25 rfl (by omega) (fun c12 => ?_) (fun c13 => by exfalso; omega)
    refine G_iload_n hX 0 rfl rfl d_Df_decode_55 ?_
    refine G_if_ne_z hX (tgt := 80) d_Df_decode_56 rfl (by omega) (fun c14 => by exfalso; omega) (fun c15 => ?_)
    refine G_aload_n hX 1 rfl rfl d_Df_decode_59 ?_
    refine F_get hX fg_Df_60 d_Df_decode_60 0 (by decide) h7 rfl ?_
    refine G_aload_n hX 1 rfl rfl d_Df_decode_63 ?_
    refine F_get hX fg_Df_9 d_Df_decode_64 0 (by decide) h7 rfl ?_
    refine G_iconst hX d_Df_decode_67 ?_
    have h16 : f1 1 = ra E 4 (fun j => some (eA E (2 + 2 * j))) := (k4 1 (by decide)).trans hF.2
    refine F_aald hX d_Df_decode_68 1 (by decide) h16 (by decide) (a := eA E 2) rfl ?_
    refine F_callV hX (st := []) (c_Rd_enterResult49 E f1 (zI (rbV g 0 e)) 4 3 v5 v6 v7 v8 y1 y2 h44b) cm_Rd_enterResult im_Rd_enterResult se_Rd_enterResult rfl ml_Df_216 d_Df_decode_69 (by decide) h44b rfl rfl (Nat.le_of_ble_eq_true rfl) (by decide) ?_
    rintro _ f17 ⟨rfl, h3b, k20⟩
    refine G_cast (st' := []) ?_ rfl rfl rfl rfl
    refine G_aload_n hX 1 rfl rfl d_Df_decode_72 ?_
    have h21 : f17 0 = ob 11 [.ref (eA E 1), .ref (eA E 10), .ref (eA E 13), .ref (eA E 14), .ref (eA E 22), .ref (eA E 27), .ref (eA E 29), .ref (eA E 44), .int (zI bk), .int (zI wi), .int (zI ns), .long n1, .long n2] := (k20 0 (by decide)).trans h7
    refine F_get hX fg_Df_60 d_Df_decode_73 0 (by decide) h21 rfl ?_
    have h22 : f17 51 = ob 1 [.ref (eA E 7), .int (zI 5), .int (zI e)] := (k20 51 (by decide)).trans h51b
    have h23 : f17 7 = iz E 700 g := (k20 7 (by decide)).trans ((k4 7 (by decide)).trans hD.2)
    have h24 : f17 45 = ob 6 [.ref (eA E 46), .int (zI cR)] := (k20 45 (by decide)).trans ((k4 45 (by decide)).trans hMR.1)
    have h25 : f17 46 = iz E 300 mR := (k20 46 (by decide)).trans ((k4 46 (by decide)).trans hMR.2)
    have h26 : f17 2 = ob 6 [.ref (eA E 3), .int (zI oc)] := (k20 2 (by decide)).trans ((k4 2 (by decide)).trans hO.1)
    have h27 : f17 3 = iz E 300 old := (k20 3 (by decide)).trans ((k4 3 (by decide)).trans hO.2)
    have h28 : f17 49 = ob 6 [.ref (eA E 50), .int (zI 1536)] := (k20 49 (by decide)).trans ((k4 49 (by decide)).trans hst.1)
    have h29 : f17 50 = iz E 1536 st := (k20 50 (by decide)).trans ((k4 50 (by decide)).trans hst.2)
    refine F_callV hX (st := []) (c_Rd_readWindowsR49 E f17 g old mR 5 e cR oc 4 3 (zI (rbV g 0 e)) (zI 4) (zI 3) (.ref (eA E 49)) st 1536 h3b h23 hB h22 ⟨h24, h25⟩ hmR ⟨h26, h27⟩ hoB (wd_fr hI4 (Fr.tr (Fr.tr (Fr.rf (S := [44, 51])) k4 (by decide)) k20 (by decide)) (by decide)) (by omega) ⟨h28, h29⟩ hsB hs3 (by omega)) cm_Rd_readWindows im_Rd_readWindows se_Rd_readWindows rfl ml_Df_209 d_Df_decode_76 (by decide) h3b rfl rfl (Nat.le_of_ble_eq_true rfl) (by decide) ?_
    rintro _ f30 ⟨rfl, ⟨m5, c5, ⟨h5a, h5b⟩, h5c, h5d, h5e⟩, ⟨w8, a8, b8, h51c⟩, h5g, k33⟩
    rw [← eD] at h5e
    refine G_cast (st' := [.int (zI ((rdW g st old 4 3 oc 300 e 700 5 mR 0).1))]) ?_ rfl rfl rfl rfl
    refine G_top (show zI ((rdW g st old 4 3 oc 300 e 700 5 mR 0).1) = zI ((dcF g e st old oc mR mT).1) from by rw [eD]) ?_
    have hDb : 0 ≤ (dcF g e st old oc mR mT).2.2 ∧ (dcF g e st old oc mR mT).2.2 ≤ 300 ∧ -6 ≤ (dcF g e st old oc mR mT).1 ∧ (dcF g e st old oc mR mT).1 ≤ 0 := by rw [eD]; exact rdW_b hB (by omega) 700 _ _ _ (by omega) (by omega) (by omega) (by omega)
    by_cases hD0 : (dcF g e st old oc mR mT).1 = 0
    · skip
      obtain ⟨e5m, e5c⟩ := h5e hD0
      refine G_istore_n hX (lv' := [(1, .int (zI ((dcF g e st old oc mR mT).1))), (0, .ref (eA E 0))]) rfl (by decide) rfl d_Df_decode_79 ?_
      refine G_iload_n hX 0 rfl rfl d_Df_decode_80 ?_
      refine G_if_eq_z hX (tgt := 86) d_Df_decode_81 rfl (by omega) (fun c34 => ?_) (fun c35 => by exfalso; omega)
      refine G_aload_n hX 1 rfl rfl d_Df_decode_86 ?_
      have h36 : f30 0 = ob 11 [.ref (eA E 1), .ref (eA E 10), .ref (eA E 13), .ref (eA E 14), .ref (eA E 22), .ref (eA E 27), .ref (eA E 29), .ref (eA E 44), .int (zI bk), .int (zI wi), .int (zI ns), .long n1, .long n2] := (k33 0 (by decide)).trans h21
      refine F_get hX fg_Df_9 d_Df_decode_87 0 (by decide) h36 rfl ?_
      refine G_iconst hX d_Df_decode_90 ?_
      have h37 : f30 1 = ra E 4 (fun j => some (eA E (2 + 2 * j))) := (k33 1 (by decide)).trans ((k20 1 (by decide)).trans h16)
      refine F_aald hX d_Df_decode_91 1 (by decide) h37 (by decide) (a := eA E 8) rfl ?_
      refine G_aload_n hX 1 rfl rfl d_Df_decode_92 ?_
      refine F_get hX fg_Df_60 d_Df_decode_93 0 (by decide) h36 rfl ?_
      have h38 : f30 44 = ob 5 [.ref (eA E 45), .ref (eA E 47), .ref (eA E 49), .ref (eA E 51), .ref (eA E 52), .ref (eA E 53), .int (zI (rbV g 0 e)), .int (zI 4), .int (zI 3), .ref (eA E 49), .ref (eA E 51), .ref (eA E 2), .ref (eA E 45), .ref (eA E 49), .int (zI 4), .int (zI 3)] := (k33 44 (by decide)).trans h3b
      refine F_get hX fg_Df_219 d_Df_decode_96 44 (by decide) h38 rfl ?_
      have h39 : f30 8 = ob 6 [.ref (eA E 9), .int (zI cr)] := (k33 8 (by decide)).trans ((k20 8 (by decide)).trans ((k4 8 (by decide)).trans hS.1))
      have h40 : f30 9 = iz E 300 gr := (k33 9 (by decide)).trans ((k20 9 (by decide)).trans ((k4 9 (by decide)).trans hS.2))
      refine F_callV hX (st := []) (c_Ro_become E f30 8 9 300 gr cr 45 46 300 m5 c5 (by decide) (by decide) (by decide) ⟨h39, h40⟩ (by omega) (by decide) (by decide) (by decide) (by decide) ⟨h5a, h5b⟩ (by omega)) cm_Ro_become im_Ro_become se_Ro_become rfl ml_Df_104 d_Df_decode_99 (by decide) h39 rfl rfl (Nat.le_of_ble_eq_true rfl) (by decide) ?_
      rintro _ f41 ⟨rfl, ⟨h44, h45⟩, k46⟩
      refine G_cast (st' := []) ?_ rfl rfl rfl rfl
      refine G_aload_n hX 1 rfl rfl d_Df_decode_102 ?_
      have h47 : f41 0 = ob 11 [.ref (eA E 1), .ref (eA E 10), .ref (eA E 13), .ref (eA E 14), .ref (eA E 22), .ref (eA E 27), .ref (eA E 29), .ref (eA E 44), .int (zI bk), .int (zI wi), .int (zI ns), .long n1, .long n2] := (k46 0 (by decide)).trans h36
      refine F_get hX fg_Df_9 d_Df_decode_103 0 (by decide) h47 rfl ?_
      refine G_iconst hX d_Df_decode_106 ?_
      have h48 : f41 1 = ra E 4 (fun j => some (eA E (2 + 2 * j))) := (k46 1 (by decide)).trans h37
      refine F_aald hX d_Df_decode_107 1 (by decide) h48 (by decide) (a := eA E 8) rfl ?_
      refine F_get hX fg_Df_101 d_Df_decode_108 8 (by decide) h44 rfl ?_
      have h49 : f41 44 = ob 5 [.ref (eA E 45), .ref (eA E 47), .ref (eA E 49), .ref (eA E 51), .ref (eA E 52), .ref (eA E 53), .int (zI (rbV g 0 e)), .int (zI 4), .int (zI 3), .ref (eA E 49), .ref (eA E 51), .ref (eA E 2), .ref (eA E 45), .ref (eA E 49), .int (zI 4), .int (zI 3)] := (k46 44 (by decide)).trans h38
      have h50 : f41 51 = ob 1 [w8, .int a8, .int b8] := (k46 51 (by decide)).trans h51c
      have h51 : f41 52 = ob 1 [w2, .int a2, .int b2] := (k46 52 (by decide)).trans ((k33 52 (by decide)).trans ((k20 52 (by decide)).trans ((k4 52 (by decide)).trans h52)))
      have h52 : f41 45 = ob 6 [.ref (eA E 46), .int (zI c5)] := (k46 45 (by decide)).trans h5a
      have h53 : f41 46 = iz E 300 m5 := (k46 46 (by decide)).trans h5b
      have h54 : f41 47 = ob 6 [.ref (eA E 48), .int (zI cT)] := (k46 47 (by decide)).trans ((k33 47 (by decide)).trans ((k20 47 (by decide)).trans ((k4 47 (by decide)).trans hMT.1)))
      have h55 : f41 48 = iz E 1536 mT := (k46 48 (by decide)).trans ((k33 48 (by decide)).trans ((k20 48 (by decide)).trans ((k4 48 (by decide)).trans hMT.2)))
      have h56 : f41 49 = ob 6 [.ref (eA E 50), .int (zI 1536)] := (k46 49 (by decide)).trans ((k33 49 (by decide)).trans h28)
      have h57 : f41 50 = iz E 1536 st := (k46 50 (by decide)).trans ((k33 50 (by decide)).trans h29)
      exact F_iret hX hE d_Df_decode_111 ⟨Or.inl ⟨hD0, by rw [e5c], by rw [← e5m, ← e5c]; exact ⟨h44, h45⟩, by rw [← e5m]; exact h5c, by omega, by omega⟩, ⟨⟨_, _, _, _, _, _, _, _, _, _, h49⟩, ⟨_, _, _, h50⟩, ⟨_, _, _, h51⟩, (wd_fr h5g (Fr.tr (Fr.rf (S := [8, 9])) k46 (by decide)) (by decide)), ⟨_, _, ⟨h52, h53⟩, h5c, by omega, by omega⟩, ⟨_, _, ⟨h54, h55⟩, hmT, by omega, by omega⟩, ⟨h56, h57⟩⟩, (Fr.tr (Fr.tr (Fr.tr (Fr.tr Fr.rf k4 (by decide)) k20 (by decide)) k33 (by decide)) k46 (by decide))⟩
    · skip
      refine G_istore_n hX (lv' := [(1, .int (zI ((dcF g e st old oc mR mT).1))), (0, .ref (eA E 0))]) rfl (by decide) rfl d_Df_decode_79 ?_
      refine G_iload_n hX 0 rfl rfl d_Df_decode_80 ?_
      refine G_if_eq_z hX (tgt := 86) d_Df_decode_81 rfl (by omega) (fun c58 => by exfalso; omega) (fun c59 => ?_)
      refine G_iload_n hX 0 rfl rfl d_Df_decode_84 ?_
      have h60 : f30 8 = ob 6 [.ref (eA E 9), .int (zI cr)] := (k33 8 (by decide)).trans ((k20 8 (by decide)).trans ((k4 8 (by decide)).trans hS.1))
      have h61 : f30 9 = iz E 300 gr := (k33 9 (by decide)).trans ((k20 9 (by decide)).trans ((k4 9 (by decide)).trans hS.2))
      have h62 : f30 44 = ob 5 [.ref (eA E 45), .ref (eA E 47), .ref (eA E 49), .ref (eA E 51), .ref (eA E 52), .ref (eA E 53), .int (zI (rbV g 0 e)), .int (zI 4), .int (zI 3), .ref (eA E 49), .ref (eA E 51), .ref (eA E 2), .ref (eA E 45), .ref (eA E 49), .int (zI 4), .int (zI 3)] := (k33 44 (by decide)).trans h3b
      have h63 : f30 52 = ob 1 [w2, .int a2, .int b2] := (k33 52 (by decide)).trans ((k20 52 (by decide)).trans ((k4 52 (by decide)).trans h52))
      have h64 : f30 47 = ob 6 [.ref (eA E 48), .int (zI cT)] := (k33 47 (by decide)).trans ((k20 47 (by decide)).trans ((k4 47 (by decide)).trans hMT.1))
      have h65 : f30 48 = iz E 1536 mT := (k33 48 (by decide)).trans ((k20 48 (by decide)).trans ((k4 48 (by decide)).trans hMT.2))
      have h66 : f30 49 = ob 6 [.ref (eA E 50), .int (zI 1536)] := (k33 49 (by decide)).trans h28
      have h67 : f30 50 = iz E 1536 st := (k33 50 (by decide)).trans h29
      exact F_iret hX hE d_Df_decode_85 ⟨Or.inr ⟨hD0, by omega, rfl, ⟨h60, h61⟩⟩, ⟨⟨_, _, _, _, _, _, _, _, _, _, h62⟩, ⟨_, _, _, h51c⟩, ⟨_, _, _, h63⟩, h5g, ⟨_, _, ⟨h5a, h5b⟩, h5c, by omega, by omega⟩, ⟨_, _, ⟨h64, h65⟩, hmT, by omega, by omega⟩, ⟨h66, h67⟩⟩, (Fr.tr (Fr.tr (Fr.tr Fr.rf k4 (by decide)) k20 (by decide)) k33 (by decide))⟩
  · skip
    by_cases hf2 : rbV g 0 e = 2
    · skip
      have hfl := rbV_lt (g := g) (p := 0) (e := e) (by omega)
      obtain rfl : p2 = 5 := hp5 (by omega)
      refine G_top (show zI (if rbV g 0 e = 0 ∨ rbV g 0 e = 2 then 0 else if 0 < rbV g 0 e ∧ ¬ rbV g 0 e % 2 = 0 then -3 else -2) = zI 0 from by rw [if_pos (by omega)]) ?_
      refine G_istore_n hX (lv' := [(1, .int (zI 0)), (0, .ref (eA E 0))]) rfl (by decide) rfl d_Df_decode_13 ?_
      refine G_iload_n hX 0 rfl rfl d_Df_decode_14 ?_
      refine G_if_ne_z hX (tgt := 55) d_Df_decode_15 rfl (by omega) (fun c68 => by exfalso; omega) (fun c69 => ?_)
      refine G_aload_n hX 1 rfl rfl d_Df_decode_18 ?_
      have h70 : f1 0 = ob 11 [.ref (eA E 1), .ref (eA E 10), .ref (eA E 13), .ref (eA E 14), .ref (eA E 22), .ref (eA E 27), .ref (eA E 29), .ref (eA E 44), .int (zI bk), .int (zI wi), .int (zI ns), .long n1, .long n2] := (k4 0 (by decide)).trans hF.1
      refine F_get hX fg_Df_60 d_Df_decode_19 0 (by decide) h70 rfl ?_
      refine F_callV hX (st := []) (c_Rd_tableFollows E f1 (rbV g 0 e) (zI 4) (zI 3) (.ref (eA E 49)) v5 v6 v7 v8 y1 y2 h44b hrb) cm_Rd_tableFollows im_Rd_tableFollows se_Rd_tableFollows rfl ml_Df_202 d_Df_decode_22 (by decide) h44b rfl rfl (Nat.le_of_ble_eq_true rfl) (by decide) ?_
      rintro _ f71 ⟨rfl, e74⟩
      obtain rfl := e74.symm
      refine G_cast (st' := [.int (zI (if rbV g 0 e = 2 then 1 else 0))]) ?_ rfl rfl rfl rfl
      refine G_top (show zI (if rbV g 0 e = 2 then 1 else 0) = zI 1 from by rw [if_pos (by omega)]) ?_
      refine G_if_eq_z hX (tgt := 55) d_Df_decode_25 rfl (by omega) (fun c75 => by exfalso; omega) (fun c76 => ?_)
      refine G_aload_n hX 1 rfl rfl d_Df_decode_28 ?_
      refine F_get hX fg_Df_60 d_Df_decode_29 0 (by decide) h70 rfl ?_
      have h77 : f1 52 = ob 1 [w2, .int a2, .int b2] := (k4 52 (by decide)).trans h52
      have h78 : f1 7 = iz E 700 g := (k4 7 (by decide)).trans hD.2
      refine F_callV hX (st := []) (c_Rd_enterTable E f1 g e (zI (rbV g 0 e)) (zI 4) (zI 3) (.ref (eA E 49)) v5 v6 v7 v8 y1 y2 w2 a2 b2 h44b h51b h77 h78 hB (by omega)) cm_Rd_enterTable im_Rd_enterTable se_Rd_enterTable rfl ml_Df_206 d_Df_decode_32 (by decide) h44b rfl rfl (Nat.le_of_ble_eq_true rfl) (by decide) ?_
      rintro _ f79 (⟨h7, h7a, rfl, h7b, h7c, h7d, k7⟩ | ⟨h7, rfl, h7b, h7c, h7d, k7⟩)
      · skip
        have hnb : -1 ≤ (tN g e).1 ∧ (tN g e).1 < 268435456 ∧ 5 ≤ (tN g e).2 ∧ (tN g e).2 ≤ e := num_b hB (by omega)
        have htE : tE g e = (tN g e).2 + (tN g e).1 := rfl
        have hgn := hB (tN g e).2
        have hgs := hB ((tN g e).2 + 1)
        have hrl := rbV_lt (g := g) (p := (tN g e).2 + 2) (e := tE g e) (by omega)
        refine G_cast (st' := [.int (zI 0)]) ?_ rfl rfl rfl rfl
        refine G_istore_n hX (lv' := [(1, .int (zI 0)), (0, .ref (eA E 0))]) rfl (by decide) rfl d_Df_decode_35 ?_
        refine G_iload_n hX 0 rfl rfl d_Df_decode_36 ?_
        refine G_if_ne_z hX (tgt := 55) d_Df_decode_37 rfl (by omega) (fun c84 => by exfalso; omega) (fun c85 => ?_)
        refine G_aload_n hX 1 rfl rfl d_Df_decode_40 ?_
        have h86 : f79 0 = ob 11 [.ref (eA E 1), .ref (eA E 10), .ref (eA E 13), .ref (eA E 14), .ref (eA E 22), .ref (eA E 27), .ref (eA E 29), .ref (eA E 44), .int (zI bk), .int (zI wi), .int (zI ns), .long n1, .long n2] := (k7 0 (by decide)).trans h70
        refine F_get hX fg_Df_60 d_Df_decode_41 0 (by decide) h86 rfl ?_
        refine G_aload_n hX 1 rfl rfl d_Df_decode_44 ?_
        refine F_get hX fg_Df_60 d_Df_decode_45 0 (by decide) h86 rfl ?_
        have h87 : f79 7 = iz E 700 g := (k7 7 (by decide)).trans h78
        have h88 : f79 47 = ob 6 [.ref (eA E 48), .int (zI cT)] := (k7 47 (by decide)).trans ((k4 47 (by decide)).trans hMT.1)
        have h89 : f79 48 = iz E 1536 mT := (k7 48 (by decide)).trans ((k4 48 (by decide)).trans hMT.2)
        have h90 : f79 49 = ob 6 [.ref (eA E 50), .int (zI 1536)] := (k7 49 (by decide)).trans ((k4 49 (by decide)).trans hst.1)
        have h91 : f79 50 = iz E 1536 st := (k7 50 (by decide)).trans ((k4 50 (by decide)).trans hst.2)
        refine F_callV hX (st := [.ref (eA E 44)]) (c_Rd_readWindowsT49 E f79 g st mT ((tN g e).2 + 7) (tE g e) cT 1536 4 3 (zI (rbV g 0 e)) (zI (g (tN g e).2)) (zI (g ((tN g e).2 + 1))) (.ref (eA E 49)) h7b h87 hB h7d ⟨h88, h89⟩ hmT ⟨h90, h91⟩ hsB (wd_fr hI4 (Fr.tr (Fr.tr (Fr.rf (S := [44, 51, 52])) k4 (by decide)) k7 (by decide)) (by decide)) (by omega) hs3 (by omega)) cm_Rd_readWindows im_Rd_readWindows se_Rd_readWindows rfl ml_Df_209 d_Df_decode_48 (by decide) h7b rfl rfl (Nat.le_of_ble_eq_true rfl) (by decide) ?_
        rintro _ f92 ⟨rfl, ⟨m6, c6, ⟨h6a, h6b⟩, h6c, h6d, h6e⟩, h6f, h6g, k95⟩
        have e6 : (tR g e st mT).1 = 0 → m6 = (tR g e st mT).2.1 ∧ c6 = (tR g e st mT).2.2 := h6e
        have hTb : 0 ≤ (tR g e st mT).2.2 ∧ (tR g e st mT).2.2 ≤ 1536 ∧ -6 ≤ (tR g e st mT).1 ∧ (tR g e st mT).1 ≤ 0 := rdW_b hB (by omega) 700 _ _ _ (by omega) (by omega) (by omega) (by omega)
        refine G_cast (st' := [.int (zI ((tR g e st mT).1)), .ref (eA E 44)]) ?_ rfl rfl rfl rfl
        obtain ⟨w9, a9, b9, h52c⟩ := h6f
        have h96 : f92 44 = ob 5 [.ref (eA E 45), .ref (eA E 47), .ref (eA E 49), .ref (eA E 51), .ref (eA E 52), .ref (eA E 53), .int (zI (rbV g 0 e)), .int (zI (g (tN g e).2)), .int (zI (g ((tN g e).2 + 1))), .ref (eA E 49), .ref (eA E 52), .ref (eA E 49), .ref (eA E 47), .ref (eA E 49), .int (zI 4), .int (zI 3)] := (k95 44 (by decide)).trans h7b
        refine F_callV hX (st := []) (c_Rd_leaveTable E f92 m6 c6 (tR g e st mT).1 (zI (rbV g 0 e)) (g (tN g e).2) (g ((tN g e).2 + 1)) (.ref (eA E 49)) (.ref (eA E 52)) (.ref (eA E 49)) (.ref (eA E 47)) (.ref (eA E 49)) 4 3 h96 ⟨h6a, h6b⟩ h6c h6d (by omega)) cm_Rd_leaveTable im_Rd_leaveTable se_Rd_leaveTable rfl ml_Df_212 d_Df_decode_51 (by decide) h96 rfl rfl (Nat.le_of_ble_eq_true rfl) (by decide) ?_
        rintro _ f97 ⟨rfl, h4b, k100⟩
        refine G_cast (st' := [.int (zI (if (tR g e st mT).1 = 0 ∧ c6 = 1536 ∧ tbB m6 = true then 0 else -5))]) ?_ rfl rfl rfl rfl
        by_cases hT : (tR g e st mT).1 = 0 ∧ c6 = 1536 ∧ tbB m6 = true
        · skip
          refine G_top (show zI (if (tR g e st mT).1 = 0 ∧ c6 = 1536 ∧ tbB m6 = true then 0 else -5) = zI 0 from by rw [if_pos hT]) ?_
          obtain ⟨e6m, e6c⟩ := e6 hT.1
          have etA : tA g e st mT = 0 := by unfold tA; rw [if_neg h7, if_neg h7a, if_pos ⟨hT.1, by rw [← e6c]; exact hT.2.1, by rw [← e6m]; exact hT.2.2⟩]
          have eD : (dcF g e st old oc mR mT) = rdW g m6 old (g (tN g e).2) (g ((tN g e).2 + 1)) oc 300 e 700 (tE g e) mR 0 := by unfold dcF; rw [if_neg hf0, if_pos hf2, if_pos etA, e6m]
          refine G_istore_n hX (lv' := [(1, .int (zI 0)), (0, .ref (eA E 0))]) rfl (by decide) rfl d_Df_decode_54 ?_
          refine G_iload_n hX 0 rfl rfl d_Df_decode_55 ?_
          refine G_if_ne_z hX (tgt := 80) d_Df_decode_56 rfl (by omega) (fun c101 => by exfalso; omega) (fun c102 => ?_)
          refine G_aload_n hX 1 rfl rfl d_Df_decode_59 ?_
          have h103 : f97 0 = ob 11 [.ref (eA E 1), .ref (eA E 10), .ref (eA E 13), .ref (eA E 14), .ref (eA E 22), .ref (eA E 27), .ref (eA E 29), .ref (eA E 44), .int (zI bk), .int (zI wi), .int (zI ns), .long n1, .long n2] := (k100 0 (by decide)).trans ((k95 0 (by decide)).trans h86)
          refine F_get hX fg_Df_60 d_Df_decode_60 0 (by decide) h103 rfl ?_
          refine G_aload_n hX 1 rfl rfl d_Df_decode_63 ?_
          refine F_get hX fg_Df_9 d_Df_decode_64 0 (by decide) h103 rfl ?_
          refine G_iconst hX d_Df_decode_67 ?_
          have h104 : f97 1 = ra E 4 (fun j => some (eA E (2 + 2 * j))) := (k100 1 (by decide)).trans ((k95 1 (by decide)).trans ((k7 1 (by decide)).trans ((k4 1 (by decide)).trans hF.2)))
          refine F_aald hX d_Df_decode_68 1 (by decide) h104 (by decide) (a := eA E 2) rfl ?_
          refine F_callV hX (st := []) (c_Rd_enterResult47 E f97 (zI (rbV g 0 e)) (g (tN g e).2) (g ((tN g e).2 + 1)) (.ref (eA E 52)) (.ref (eA E 49)) (.ref (eA E 47)) (.ref (eA E 49)) (zI 4) (zI 3) h4b) cm_Rd_enterResult im_Rd_enterResult se_Rd_enterResult rfl ml_Df_216 d_Df_decode_69 (by decide) h4b rfl rfl (Nat.le_of_ble_eq_true rfl) (by decide) ?_
          rintro _ f105 ⟨rfl, h3b, k108⟩
          refine G_cast (st' := []) ?_ rfl rfl rfl rfl
          refine G_aload_n hX 1 rfl rfl d_Df_decode_72 ?_
          have h109 : f105 0 = ob 11 [.ref (eA E 1), .ref (eA E 10), .ref (eA E 13), .ref (eA E 14), .ref (eA E 22), .ref (eA E 27), .ref (eA E 29), .ref (eA E 44), .int (zI bk), .int (zI wi), .int (zI ns), .long n1, .long n2] := (k108 0 (by decide)).trans h103
          refine F_get hX fg_Df_60 d_Df_decode_73 0 (by decide) h109 rfl ?_
          have h110 : f105 51 = ob 1 [.ref (eA E 7), .int (zI (tE g e)), .int (zI e)] := (k108 51 (by decide)).trans ((k100 51 (by decide)).trans ((k95 51 (by decide)).trans h7c))
          have h111 : f105 7 = iz E 700 g := (k108 7 (by decide)).trans ((k100 7 (by decide)).trans ((k95 7 (by decide)).trans h87))
          have h112 : f105 45 = ob 6 [.ref (eA E 46), .int (zI cR)] := (k108 45 (by decide)).trans ((k100 45 (by decide)).trans ((k95 45 (by decide)).trans ((k7 45 (by decide)).trans ((k4 45 (by decide)).trans hMR.1))))
          have h113 : f105 46 = iz E 300 mR := (k108 46 (by decide)).trans ((k100 46 (by decide)).trans ((k95 46 (by decide)).trans ((k7 46 (by decide)).trans ((k4 46 (by decide)).trans hMR.2))))
          have h114 : f105 2 = ob 6 [.ref (eA E 3), .int (zI oc)] := (k108 2 (by decide)).trans ((k100 2 (by decide)).trans ((k95 2 (by decide)).trans ((k7 2 (by decide)).trans ((k4 2 (by decide)).trans hO.1))))
          have h115 : f105 3 = iz E 300 old := (k108 3 (by decide)).trans ((k100 3 (by decide)).trans ((k95 3 (by decide)).trans ((k7 3 (by decide)).trans ((k4 3 (by decide)).trans hO.2))))
          have h116 : f105 47 = ob 6 [.ref (eA E 48), .int (zI c6)] := (k108 47 (by decide)).trans ((k100 47 (by decide)).trans h6a)
          have h117 : f105 48 = iz E 1536 m6 := (k108 48 (by decide)).trans ((k100 48 (by decide)).trans h6b)
          refine F_callV hX (st := []) (c_Rd_readWindowsR47 E f105 g old mR (tE g e) e cR oc (g (tN g e).2) (g ((tN g e).2 + 1)) (zI (rbV g 0 e)) (zI (g (tN g e).2)) (zI (g ((tN g e).2 + 1))) (.ref (eA E 47)) m6 c6 h3b h111 hB h110 ⟨h112, h113⟩ hmR ⟨h114, h115⟩ hoB (wd_fr h6g (Fr.tr (Fr.tr (Fr.rf (S := [44])) k100 (by decide)) k108 (by decide)) (by decide)) (by omega) ⟨h116, h117⟩ h6c (tbB_t hT.2.2) (by omega)) cm_Rd_readWindows im_Rd_readWindows se_Rd_readWindows rfl ml_Df_209 d_Df_decode_76 (by decide) h3b rfl rfl (Nat.le_of_ble_eq_true rfl) (by decide) ?_
          rintro _ f118 ⟨rfl, ⟨m5, c5, ⟨h5a, h5b⟩, h5c, h5d, h5e⟩, ⟨w8, a8, b8, h51c⟩, h5g, k121⟩
          rw [← eD] at h5e
          refine G_cast (st' := [.int (zI ((rdW g m6 old (g (tN g e).2) (g ((tN g e).2 + 1)) oc 300 e 700 (tE g e) mR 0).1))]) ?_ rfl rfl rfl rfl
          refine G_top (show zI ((rdW g m6 old (g (tN g e).2) (g ((tN g e).2 + 1)) oc 300 e 700 (tE g e) mR 0).1) = zI ((dcF g e st old oc mR mT).1) from by rw [eD]) ?_
          have hDb : 0 ≤ (dcF g e st old oc mR mT).2.2 ∧ (dcF g e st old oc mR mT).2.2 ≤ 300 ∧ -6 ≤ (dcF g e st old oc mR mT).1 ∧ (dcF g e st old oc mR mT).1 ≤ 0 := by rw [eD]; exact rdW_b hB (by omega) 700 _ _ _ (by omega) (by omega) (by omega) (by omega)
          by_cases hD0 : (dcF g e st old oc mR mT).1 = 0
          · skip
            obtain ⟨e5m, e5c⟩ := h5e hD0
            refine G_istore_n hX (lv' := [(1, .int (zI ((dcF g e st old oc mR mT).1))), (0, .ref (eA E 0))]) rfl (by decide) rfl d_Df_decode_79 ?_
            refine G_iload_n hX 0 rfl rfl d_Df_decode_80 ?_
            refine G_if_eq_z hX (tgt := 86) d_Df_decode_81 rfl (by omega) (fun c122 => ?_) (fun c123 => by exfalso; omega)
            refine G_aload_n hX 1 rfl rfl d_Df_decode_86 ?_
            have h124 : f118 0 = ob 11 [.ref (eA E 1), .ref (eA E 10), .ref (eA E 13), .ref (eA E 14), .ref (eA E 22), .ref (eA E 27), .ref (eA E 29), .ref (eA E 44), .int (zI bk), .int (zI wi), .int (zI ns), .long n1, .long n2] := (k121 0 (by decide)).trans h109
            refine F_get hX fg_Df_9 d_Df_decode_87 0 (by decide) h124 rfl ?_
            refine G_iconst hX d_Df_decode_90 ?_
            have h125 : f118 1 = ra E 4 (fun j => some (eA E (2 + 2 * j))) := (k121 1 (by decide)).trans ((k108 1 (by decide)).trans h104)
            refine F_aald hX d_Df_decode_91 1 (by decide) h125 (by decide) (a := eA E 8) rfl ?_
            refine G_aload_n hX 1 rfl rfl d_Df_decode_92 ?_
            refine F_get hX fg_Df_60 d_Df_decode_93 0 (by decide) h124 rfl ?_
            have h126 : f118 44 = ob 5 [.ref (eA E 45), .ref (eA E 47), .ref (eA E 49), .ref (eA E 51), .ref (eA E 52), .ref (eA E 53), .int (zI (rbV g 0 e)), .int (zI (g (tN g e).2)), .int (zI (g ((tN g e).2 + 1))), .ref (eA E 47), .ref (eA E 51), .ref (eA E 2), .ref (eA E 45), .ref (eA E 47), .int (zI (g (tN g e).2)), .int (zI (g ((tN g e).2 + 1)))] := (k121 44 (by decide)).trans h3b
            refine F_get hX fg_Df_219 d_Df_decode_96 44 (by decide) h126 rfl ?_
            have h127 : f118 8 = ob 6 [.ref (eA E 9), .int (zI cr)] := (k121 8 (by decide)).trans ((k108 8 (by decide)).trans ((k100 8 (by decide)).trans ((k95 8 (by decide)).trans ((k7 8 (by decide)).trans ((k4 8 (by decide)).trans hS.1)))))
            have h128 : f118 9 = iz E 300 gr := (k121 9 (by decide)).trans ((k108 9 (by decide)).trans ((k100 9 (by decide)).trans ((k95 9 (by decide)).trans ((k7 9 (by decide)).trans ((k4 9 (by decide)).trans hS.2)))))
            refine F_callV hX (st := []) (c_Ro_become E f118 8 9 300 gr cr 45 46 300 m5 c5 (by decide) (by decide) (by decide) ⟨h127, h128⟩ (by omega) (by decide) (by decide) (by decide) (by decide) ⟨h5a, h5b⟩ (by omega)) cm_Ro_become im_Ro_become se_Ro_become rfl ml_Df_104 d_Df_decode_99 (by decide) h127 rfl rfl (Nat.le_of_ble_eq_true rfl) (by decide) ?_
            rintro _ f129 ⟨rfl, ⟨h132, h133⟩, k134⟩
            refine G_cast (st' := []) ?_ rfl rfl rfl rfl
            refine G_aload_n hX 1 rfl rfl d_Df_decode_102 ?_
            have h135 : f129 0 = ob 11 [.ref (eA E 1), .ref (eA E 10), .ref (eA E 13), .ref (eA E 14), .ref (eA E 22), .ref (eA E 27), .ref (eA E 29), .ref (eA E 44), .int (zI bk), .int (zI wi), .int (zI ns), .long n1, .long n2] := (k134 0 (by decide)).trans h124
            refine F_get hX fg_Df_9 d_Df_decode_103 0 (by decide) h135 rfl ?_
            refine G_iconst hX d_Df_decode_106 ?_
            have h136 : f129 1 = ra E 4 (fun j => some (eA E (2 + 2 * j))) := (k134 1 (by decide)).trans h125
            refine F_aald hX d_Df_decode_107 1 (by decide) h136 (by decide) (a := eA E 8) rfl ?_
            refine F_get hX fg_Df_101 d_Df_decode_108 8 (by decide) h132 rfl ?_
            have h137 : f129 44 = ob 5 [.ref (eA E 45), .ref (eA E 47), .ref (eA E 49), .ref (eA E 51), .ref (eA E 52), .ref (eA E 53), .int (zI (rbV g 0 e)), .int (zI (g (tN g e).2)), .int (zI (g ((tN g e).2 + 1))), .ref (eA E 47), .ref (eA E 51), .ref (eA E 2), .ref (eA E 45), .ref (eA E 47), .int (zI (g (tN g e).2)), .int (zI (g ((tN g e).2 + 1)))] := (k134 44 (by decide)).trans h126
            have h138 : f129 51 = ob 1 [w8, .int a8, .int b8] := (k134 51 (by decide)).trans h51c
            have h139 : f129 52 = ob 1 [w9, .int a9, .int b9] := (k134 52 (by decide)).trans ((k121 52 (by decide)).trans ((k108 52 (by decide)).trans ((k100 52 (by decide)).trans h52c)))
            have h140 : f129 45 = ob 6 [.ref (eA E 46), .int (zI c5)] := (k134 45 (by decide)).trans h5a
            have h141 : f129 46 = iz E 300 m5 := (k134 46 (by decide)).trans h5b
            have h142 : f129 47 = ob 6 [.ref (eA E 48), .int (zI c6)] := (k134 47 (by decide)).trans ((k121 47 (by decide)).trans h116)
            have h143 : f129 48 = iz E 1536 m6 := (k134 48 (by decide)).trans ((k121 48 (by decide)).trans h117)
            have h144 : f129 49 = ob 6 [.ref (eA E 50), .int (zI 1536)] := (k134 49 (by decide)).trans ((k121 49 (by decide)).trans ((k108 49 (by decide)).trans ((k100 49 (by decide)).trans ((k95 49 (by decide)).trans h90))))
            have h145 : f129 50 = iz E 1536 st := (k134 50 (by decide)).trans ((k121 50 (by decide)).trans ((k108 50 (by decide)).trans ((k100 50 (by decide)).trans ((k95 50 (by decide)).trans h91))))
            exact F_iret hX hE d_Df_decode_111 ⟨Or.inl ⟨hD0, by rw [e5c], by rw [← e5m, ← e5c]; exact ⟨h132, h133⟩, by rw [← e5m]; exact h5c, by omega, by omega⟩, ⟨⟨_, _, _, _, _, _, _, _, _, _, h137⟩, ⟨_, _, _, h138⟩, ⟨_, _, _, h139⟩, (wd_fr h5g (Fr.tr (Fr.rf (S := [8, 9])) k134 (by decide)) (by decide)), ⟨_, _, ⟨h140, h141⟩, h5c, by omega, by omega⟩, ⟨_, _, ⟨h142, h143⟩, h6c, by omega, by omega⟩, ⟨h144, h145⟩⟩, (Fr.tr (Fr.tr (Fr.tr (Fr.tr (Fr.tr (Fr.tr (Fr.tr Fr.rf k4 (by decide)) k7 (by decide)) k95 (by decide)) k100 (by decide)) k108 (by decide)) k121 (by decide)) k134 (by decide))⟩
          · skip
            refine G_istore_n hX (lv' := [(1, .int (zI ((dcF g e st old oc mR mT).1))), (0, .ref (eA E 0))]) rfl (by decide) rfl d_Df_decode_79 ?_
            refine G_iload_n hX 0 rfl rfl d_Df_decode_80 ?_
            refine G_if_eq_z hX (tgt := 86) d_Df_decode_81 rfl (by omega) (fun c146 => by exfalso; omega) (fun c147 => ?_)
            refine G_iload_n hX 0 rfl rfl d_Df_decode_84 ?_
            have h148 : f118 8 = ob 6 [.ref (eA E 9), .int (zI cr)] := (k121 8 (by decide)).trans ((k108 8 (by decide)).trans ((k100 8 (by decide)).trans ((k95 8 (by decide)).trans ((k7 8 (by decide)).trans ((k4 8 (by decide)).trans hS.1)))))
            have h149 : f118 9 = iz E 300 gr := (k121 9 (by decide)).trans ((k108 9 (by decide)).trans ((k100 9 (by decide)).trans ((k95 9 (by decide)).trans ((k7 9 (by decide)).trans ((k4 9 (by decide)).trans hS.2)))))
            have h150 : f118 44 = ob 5 [.ref (eA E 45), .ref (eA E 47), .ref (eA E 49), .ref (eA E 51), .ref (eA E 52), .ref (eA E 53), .int (zI (rbV g 0 e)), .int (zI (g (tN g e).2)), .int (zI (g ((tN g e).2 + 1))), .ref (eA E 47), .ref (eA E 51), .ref (eA E 2), .ref (eA E 45), .ref (eA E 47), .int (zI (g (tN g e).2)), .int (zI (g ((tN g e).2 + 1)))] := (k121 44 (by decide)).trans h3b
            have h151 : f118 52 = ob 1 [w9, .int a9, .int b9] := (k121 52 (by decide)).trans ((k108 52 (by decide)).trans ((k100 52 (by decide)).trans h52c))
            have h152 : f118 47 = ob 6 [.ref (eA E 48), .int (zI c6)] := (k121 47 (by decide)).trans h116
            have h153 : f118 48 = iz E 1536 m6 := (k121 48 (by decide)).trans h117
            have h154 : f118 49 = ob 6 [.ref (eA E 50), .int (zI 1536)] := (k121 49 (by decide)).trans ((k108 49 (by decide)).trans ((k100 49 (by decide)).trans ((k95 49 (by decide)).trans h90)))
            have h155 : f118 50 = iz E 1536 st := (k121 50 (by decide)).trans ((k108 50 (by decide)).trans ((k100 50 (by decide)).trans ((k95 50 (by decide)).trans h91)))
            exact F_iret hX hE d_Df_decode_85 ⟨Or.inr ⟨hD0, by omega, rfl, ⟨h148, h149⟩⟩, ⟨⟨_, _, _, _, _, _, _, _, _, _, h150⟩, ⟨_, _, _, h51c⟩, ⟨_, _, _, h151⟩, h5g, ⟨_, _, ⟨h5a, h5b⟩, h5c, by omega, by omega⟩, ⟨_, _, ⟨h152, h153⟩, h6c, by omega, by omega⟩, ⟨h154, h155⟩⟩, (Fr.tr (Fr.tr (Fr.tr (Fr.tr (Fr.tr (Fr.tr Fr.rf k4 (by decide)) k7 (by decide)) k95 (by decide)) k100 (by decide)) k108 (by decide)) k121 (by decide))⟩
        · skip
          refine G_top (show zI (if (tR g e st mT).1 = 0 ∧ c6 = 1536 ∧ tbB m6 = true then 0 else -5) = zI (-5) from by rw [if_neg hT]) ?_
          have etA : tA g e st mT = -5 := by unfold tA; rw [if_neg h7, if_neg h7a, if_neg (fun q => hT ⟨q.1, by rw [(e6 q.1).2]; exact q.2.1, by rw [(e6 q.1).1]; exact q.2.2⟩)]
          have eD : (dcF g e st old oc mR mT) = (-5, mR, 0) := by unfold dcF; rw [if_neg hf0, if_pos hf2, if_neg (by rw [etA]; decide), etA]
          refine G_istore_n hX (lv' := [(1, .int (zI (-5))), (0, .ref (eA E 0))]) rfl (by decide) rfl d_Df_decode_54 ?_
          refine G_iload_n hX 0 rfl rfl d_Df_decode_55 ?_
          refine G_if_ne_z hX (tgt := 80) d_Df_decode_56 rfl (by omega) (fun c156 => ?_) (fun c157 => by exfalso; omega)
          refine G_iload_n hX 0 rfl rfl d_Df_decode_80 ?_
          refine G_if_eq_z hX (tgt := 86) d_Df_decode_81 rfl (by omega) (fun c158 => by exfalso; omega) (fun c159 => ?_)
          refine G_iload_n hX 0 rfl rfl d_Df_decode_84 ?_
          rw [eD] at hE
          have h160 : f97 8 = ob 6 [.ref (eA E 9), .int (zI cr)] := (k100 8 (by decide)).trans ((k95 8 (by decide)).trans ((k7 8 (by decide)).trans ((k4 8 (by decide)).trans hS.1)))
          have h161 : f97 9 = iz E 300 gr := (k100 9 (by decide)).trans ((k95 9 (by decide)).trans ((k7 9 (by decide)).trans ((k4 9 (by decide)).trans hS.2)))
          have h162 : f97 51 = ob 1 [.ref (eA E 7), .int (zI (tE g e)), .int (zI e)] := (k100 51 (by decide)).trans ((k95 51 (by decide)).trans h7c)
          have h163 : f97 52 = ob 1 [w9, .int a9, .int b9] := (k100 52 (by decide)).trans h52c
          have h164 : f97 45 = ob 6 [.ref (eA E 46), .int (zI cR)] := (k100 45 (by decide)).trans ((k95 45 (by decide)).trans ((k7 45 (by decide)).trans ((k4 45 (by decide)).trans hMR.1)))
          have h165 : f97 46 = iz E 300 mR := (k100 46 (by decide)).trans ((k95 46 (by decide)).trans ((k7 46 (by decide)).trans ((k4 46 (by decide)).trans hMR.2)))
          have h166 : f97 47 = ob 6 [.ref (eA E 48), .int (zI c6)] := (k100 47 (by decide)).trans h6a
          have h167 : f97 48 = iz E 1536 m6 := (k100 48 (by decide)).trans h6b
          have h168 : f97 49 = ob 6 [.ref (eA E 50), .int (zI 1536)] := (k100 49 (by decide)).trans ((k95 49 (by decide)).trans h90)
          have h169 : f97 50 = iz E 1536 st := (k100 50 (by decide)).trans ((k95 50 (by decide)).trans h91)
          exact F_iret hX hE d_Df_decode_85 ⟨Or.inr ⟨by show ¬ (-5 : Int) = 0; decide, by show -6 ≤ (-5 : Int) ∧ (-5 : Int) ≤ 0; decide, rfl, ⟨h160, h161⟩⟩, ⟨⟨_, _, _, _, _, _, _, _, _, _, h4b⟩, ⟨_, _, _, h162⟩, ⟨_, _, _, h163⟩, (wd_fr h6g (Fr.tr (Fr.rf (S := [44])) k100 (by decide)) (by decide)), ⟨_, _, ⟨h164, h165⟩, hmR, by omega, by omega⟩, ⟨_, _, ⟨h166, h167⟩, h6c, by omega, by omega⟩, ⟨h168, h169⟩⟩, (Fr.tr (Fr.tr (Fr.tr (Fr.tr Fr.rf k4 (by decide)) k7 (by decide)) k95 (by decide)) k100 (by decide))⟩
      · skip
        obtain ⟨x7, x8, x9, u4, u5, u6, u7, u8, z1, z2, h44c⟩ := h7b
        refine G_cast (st' := [.int (zI (if ((tN g e).1 < 2 ∨ e - (tN g e).2 < (tN g e).1) then -2 else -5))]) ?_ rfl rfl rfl rfl
        by_cases h1 : ((tN g e).1 < 2 ∨ e - (tN g e).2 < (tN g e).1)
        · skip
          refine G_top (show zI (if ((tN g e).1 < 2 ∨ e - (tN g e).2 < (tN g e).1) then -2 else -5) = zI (-2) from by rw [if_pos h1]) ?_
          have etA : tA g e st mT = -2 := by unfold tA; rw [if_pos h1]
          have eD : (dcF g e st old oc mR mT) = (-2, mR, 0) := by unfold dcF; rw [if_neg hf0, if_pos hf2, if_neg (by rw [etA]; decide), etA]
          refine G_istore_n hX (lv' := [(1, .int (zI (-2))), (0, .ref (eA E 0))]) rfl (by decide) rfl d_Df_decode_35 ?_
          refine G_iload_n hX 0 rfl rfl d_Df_decode_36 ?_
          refine G_if_ne_z hX (tgt := 55) d_Df_decode_37 rfl (by omega) (fun c170 => ?_) (fun c171 => by exfalso; omega)
          refine G_iload_n hX 0 rfl rfl d_Df_decode_55 ?_
          refine G_if_ne_z hX (tgt := 80) d_Df_decode_56 rfl (by omega) (fun c172 => ?_) (fun c173 => by exfalso; omega)
          refine G_iload_n hX 0 rfl rfl d_Df_decode_80 ?_
          refine G_if_eq_z hX (tgt := 86) d_Df_decode_81 rfl (by omega) (fun c174 => by exfalso; omega) (fun c175 => ?_)
          refine G_iload_n hX 0 rfl rfl d_Df_decode_84 ?_
          rw [eD] at hE
          have h176 : f79 8 = ob 6 [.ref (eA E 9), .int (zI cr)] := (k7 8 (by decide)).trans ((k4 8 (by decide)).trans hS.1)
          have h177 : f79 9 = iz E 300 gr := (k7 9 (by decide)).trans ((k4 9 (by decide)).trans hS.2)
          have h178 : f79 45 = ob 6 [.ref (eA E 46), .int (zI cR)] := (k7 45 (by decide)).trans ((k4 45 (by decide)).trans hMR.1)
          have h179 : f79 46 = iz E 300 mR := (k7 46 (by decide)).trans ((k4 46 (by decide)).trans hMR.2)
          have h180 : f79 47 = ob 6 [.ref (eA E 48), .int (zI cT)] := (k7 47 (by decide)).trans ((k4 47 (by decide)).trans hMT.1)
          have h181 : f79 48 = iz E 1536 mT := (k7 48 (by decide)).trans ((k4 48 (by decide)).trans hMT.2)
          have h182 : f79 49 = ob 6 [.ref (eA E 50), .int (zI 1536)] := (k7 49 (by decide)).trans ((k4 49 (by decide)).trans hst.1)
          have h183 : f79 50 = iz E 1536 st := (k7 50 (by decide)).trans ((k4 50 (by decide)).trans hst.2)
          exact F_iret hX hE d_Df_decode_85 ⟨Or.inr ⟨by show ¬ (-2 : Int) = 0; decide, by show -6 ≤ (-2 : Int) ∧ (-2 : Int) ≤ 0; decide, rfl, ⟨h176, h177⟩⟩, ⟨⟨_, _, _, _, _, _, _, _, _, _, h44c⟩, h7c, h7d, (wd_fr hI4 (Fr.tr (Fr.tr (Fr.rf (S := [44, 51, 52])) k4 (by decide)) k7 (by decide)) (by decide)), ⟨_, _, ⟨h178, h179⟩, hmR, by omega, by omega⟩, ⟨_, _, ⟨h180, h181⟩, hmT, by omega, by omega⟩, ⟨h182, h183⟩⟩, (Fr.tr (Fr.tr Fr.rf k4 (by decide)) k7 (by decide))⟩
        · skip
          refine G_top (show zI (if ((tN g e).1 < 2 ∨ e - (tN g e).2 < (tN g e).1) then -2 else -5) = zI (-5) from by rw [if_neg h1]) ?_
          have etA : tA g e st mT = -5 := by unfold tA; rw [if_neg h1, if_pos (by omega)]
          have eD : (dcF g e st old oc mR mT) = (-5, mR, 0) := by unfold dcF; rw [if_neg hf0, if_pos hf2, if_neg (by rw [etA]; decide), etA]
          refine G_istore_n hX (lv' := [(1, .int (zI (-5))), (0, .ref (eA E 0))]) rfl (by decide) rfl d_Df_decode_35 ?_
          refine G_iload_n hX 0 rfl rfl d_Df_decode_36 ?_
          refine G_if_ne_z hX (tgt := 55) d_Df_decode_37 rfl (by omega) (fun c184 => ?_) (fun c185 => by exfalso; omega)
          refine G_iload_n hX 0 rfl rfl d_Df_decode_55 ?_
          refine G_if_ne_z hX (tgt := 80) d_Df_decode_56 rfl (by omega) (fun c186 => ?_) (fun c187 => by exfalso; omega)
          refine G_iload_n hX 0 rfl rfl d_Df_decode_80 ?_
          refine G_if_eq_z hX (tgt := 86) d_Df_decode_81 rfl (by omega) (fun c188 => by exfalso; omega) (fun c189 => ?_)
          refine G_iload_n hX 0 rfl rfl d_Df_decode_84 ?_
          rw [eD] at hE
          have h190 : f79 8 = ob 6 [.ref (eA E 9), .int (zI cr)] := (k7 8 (by decide)).trans ((k4 8 (by decide)).trans hS.1)
          have h191 : f79 9 = iz E 300 gr := (k7 9 (by decide)).trans ((k4 9 (by decide)).trans hS.2)
          have h192 : f79 45 = ob 6 [.ref (eA E 46), .int (zI cR)] := (k7 45 (by decide)).trans ((k4 45 (by decide)).trans hMR.1)
          have h193 : f79 46 = iz E 300 mR := (k7 46 (by decide)).trans ((k4 46 (by decide)).trans hMR.2)
          have h194 : f79 47 = ob 6 [.ref (eA E 48), .int (zI cT)] := (k7 47 (by decide)).trans ((k4 47 (by decide)).trans hMT.1)
          have h195 : f79 48 = iz E 1536 mT := (k7 48 (by decide)).trans ((k4 48 (by decide)).trans hMT.2)
          have h196 : f79 49 = ob 6 [.ref (eA E 50), .int (zI 1536)] := (k7 49 (by decide)).trans ((k4 49 (by decide)).trans hst.1)
          have h197 : f79 50 = iz E 1536 st := (k7 50 (by decide)).trans ((k4 50 (by decide)).trans hst.2)
          exact F_iret hX hE d_Df_decode_85 ⟨Or.inr ⟨by show ¬ (-5 : Int) = 0; decide, by show -6 ≤ (-5 : Int) ∧ (-5 : Int) ≤ 0; decide, rfl, ⟨h190, h191⟩⟩, ⟨⟨_, _, _, _, _, _, _, _, _, _, h44c⟩, h7c, h7d, (wd_fr hI4 (Fr.tr (Fr.tr (Fr.rf (S := [44, 51, 52])) k4 (by decide)) k7 (by decide)) (by decide)), ⟨_, _, ⟨h192, h193⟩, hmR, by omega, by omega⟩, ⟨_, _, ⟨h194, h195⟩, hmT, by omega, by omega⟩, ⟨h196, h197⟩⟩, (Fr.tr (Fr.tr Fr.rf k4 (by decide)) k7 (by decide))⟩
    · skip
      obtain ⟨a9, ha9⟩ : ∃ z, (if rbV g 0 e = 0 ∨ rbV g 0 e = 2 then 0 else if 0 < rbV g 0 e ∧ ¬ rbV g 0 e % 2 = 0 then -3 else -2) = z := ⟨_, rfl⟩
      have eD : (dcF g e st old oc mR mT) = (a9, mR, 0) := by rw [← ha9, if_neg (by omega)]; unfold dcF; rw [if_neg hf0, if_neg hf2]; split <;> rfl
      have ha8 : -6 ≤ a9 ∧ a9 < 0 := by rw [← ha9, if_neg (by omega)]; split <;> omega
      refine G_top (show zI (if rbV g 0 e = 0 ∨ rbV g 0 e = 2 then 0 else if 0 < rbV g 0 e ∧ ¬ rbV g 0 e % 2 = 0 then -3 else -2) = zI a9 from by rw [ha9]) ?_
      refine G_istore_n hX (lv' := [(1, .int (zI a9)), (0, .ref (eA E 0))]) rfl (by decide) rfl d_Df_decode_13 ?_
      refine G_iload_n hX 0 rfl rfl d_Df_decode_14 ?_
      refine G_if_ne_z hX (tgt := 55) d_Df_decode_15 rfl (by omega) (fun c198 => ?_) (fun c199 => by exfalso; omega)
      refine G_iload_n hX 0 rfl rfl d_Df_decode_55 ?_
      refine G_if_ne_z hX (tgt := 80) d_Df_decode_56 rfl (by omega) (fun c200 => ?_) (fun c201 => by exfalso; omega)
      refine G_iload_n hX 0 rfl rfl d_Df_decode_80 ?_
      refine G_if_eq_z hX (tgt := 86) d_Df_decode_81 rfl (by omega) (fun c202 => by exfalso; omega) (fun c203 => ?_)
      refine G_iload_n hX 0 rfl rfl d_Df_decode_84 ?_
      rw [eD] at hE
      have h204 : f1 8 = ob 6 [.ref (eA E 9), .int (zI cr)] := (k4 8 (by decide)).trans hS.1
      have h205 : f1 9 = iz E 300 gr := (k4 9 (by decide)).trans hS.2
      have h206 : f1 52 = ob 1 [w2, .int a2, .int b2] := (k4 52 (by decide)).trans h52
      have h207 : f1 45 = ob 6 [.ref (eA E 46), .int (zI cR)] := (k4 45 (by decide)).trans hMR.1
      have h208 : f1 46 = iz E 300 mR := (k4 46 (by decide)).trans hMR.2
      have h209 : f1 47 = ob 6 [.ref (eA E 48), .int (zI cT)] := (k4 47 (by decide)).trans hMT.1
      have h210 : f1 48 = iz E 1536 mT := (k4 48 (by decide)).trans hMT.2
      have h211 : f1 49 = ob 6 [.ref (eA E 50), .int (zI 1536)] := (k4 49 (by decide)).trans hst.1
      have h212 : f1 50 = iz E 1536 st := (k4 50 (by decide)).trans hst.2
      exact F_iret hX hE d_Df_decode_85 ⟨Or.inr ⟨by show ¬ a9 = 0; omega, by show -6 ≤ a9 ∧ a9 ≤ 0; omega, rfl, ⟨h204, h205⟩⟩, ⟨⟨_, _, _, _, _, _, _, _, _, _, h44b⟩, ⟨_, _, _, h51b⟩, ⟨_, _, _, h206⟩, (wd_fr hI4 (Fr.tr (Fr.rf (S := [44, 51])) k4 (by decide)) (by decide)), ⟨_, _, ⟨h207, h208⟩, hmR, by omega, by omega⟩, ⟨_, _, ⟨h209, h210⟩, hmT, by omega, by omega⟩, ⟨h211, h212⟩⟩, (Fr.tr Fr.rf k4 (by decide))⟩
