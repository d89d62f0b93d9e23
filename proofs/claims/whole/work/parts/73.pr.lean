/-! signature, plan and delta, class and model side by side; printed by wip/tools/m_p2.py -/
theorem sg_eq {g : Int → Int} {b c : Int} {W F L W2 F2 L2 : Nat → Int64} (h : sgOf g b c W F L) (h2 : sgOf g b c W2 F2 L2) : ∀ k : Int, 0 ≤ k → k < c → W2 k.toNat = W k.toNat ∧ F2 k.toNat = F k.toNat ∧ L2 k.toNat = L k.toNat := fun k a b => by
  have h3 := h k a b
  have h4 := h2 k a b
  exact ⟨h4.1.trans h3.1.symm, h4.2.1.trans h3.2.1.symm, h4.2.2.trans h3.2.2.symm⟩
theorem div_b {c b : Int} (hc : 0 ≤ c ∧ c ≤ 300) (hb : 4 ≤ b ∧ b ≤ 64) : 0 ≤ c / b ∧ c / b ≤ 75 ∧ c / b * b ≤ 300 := by
  have h1 : 0 ≤ c / b := Int.ediv_nonneg hc.1 (by omega)
  have h2 := Int.ediv_mul_le c (show b ≠ 0 by omega)
  have h3 : c / b * 4 ≤ c / b * b := Int.mul_le_mul_of_nonneg_left hb.1 h1
  omega
theorem rep_ag {b g : Int → Int} {n : Int} {L : List Int} (h : rep (fun k => b (600 + k)) n L) (h2 : rep g n L) : agR b 600 g n := by
  intro i h1 h3
  have e1 := h.2 i.toNat (by have := h.1; omega)
  have e2 := h2.2 i.toNat (by have := h.1; omega)
  rw [Int.toNat_of_nonneg h1] at e1 e2
  exact e1.trans e2.symm
theorem rep_B {g gd : Int → Int} {n : Int} {L : List Int} (h : rep g n L) (hL : okL L) (hx : ∀ k : Int, n ≤ k → g k = gd k) (hd : isB gd) : isB (fun k => if 0 ≤ k then g k else 0) := by
  intro k
  show 0 ≤ (if 0 ≤ k then g k else 0) ∧ (if 0 ≤ k then g k else 0) < 256
  by_cases q : 0 ≤ k
  · rw [if_pos q]
    by_cases q2 : k < n
    · have e := h.2 k.toNat (by have := h.1; omega)
      rw [Int.toNat_of_nonneg q] at e
      rw [e]; exact okL_get hL _
    · rw [hx k (by omega)]; exact hd k
  · rw [if_neg q]; exact ⟨Int.le_refl 0, by decide⟩
theorem P_sign {E : EV} {st : Int → Int} (d : Int) (hd2 : -2147483648 ≤ d ∧ d < 2147483648) : PrI E st yn_Df_sign cd_Df_sign 2 (some .int) 4 yn_Mo_sign cd_Mo_sign 3 3 [.int (zI d)] := by
  intro f hI
  have hJ := hI
  obtain ⟨bk, wi, ns, n1, n2, g0, c0, g1, c1, g2, c2, g3, c3, W, Fs, L, md, bl, ct, P, pm, pw, ps, F, b, sz, Wm, Am, Lm, mt, ms, ma, mn, hDf, hR0, hR1, hR2, hR3, hDg, hSg, hPl, hMa, hWt, hRd, hMo, hMB, hMk, hMs, hMp, hMx, hmk, hF1, hF2, hF3, hF4, hF5, hBb, hcb, hsz, ha0, ha1, ha2, ha3, hmd, hpm, hst⟩ := hJ
  obtain ⟨hSs, s0, wd0, y0, y1, y2, y3, hSd, hSv⟩ := hSg
  have hcs := c_Df_sign E f bk wi ns n1 n2 W Fs L md bl ct s0 wd0 y0 y1 y2 y3 g0 c0 d hDf hSs hSd hSv hR0 hcb.1 hd2
  by_cases hd : 4 ≤ d ∧ d ≤ 64
  · obtain ⟨hk62, sta, hk65⟩ := hMk
    refine ⟨zI (c0 / d), (fun f' => (∃ W' F' L' s' wd' z0 z1 z2 z3, isSg E f' W' F' L' 1 d (c0 / d) ∧ sgOf g0 d (c0 / d) W' F' L' ∧ isD E f' 15 16 17 s' wd' ∧ f' 21 = ob 8 [.int z0, .int z1, .int z2, .int z3]) ∧ Fr [14, 16, 17, 18, 19, 20, 21] f f'), hcs.mono (fun r f1 h => by rw [if_pos hd] at h; exact ⟨h.1.1, h.1.2, h.2⟩), fun f1 hm => ?_⟩
    obtain ⟨⟨W1, F1, L1, s1, wd1, z0, z1, z2, z3, q1, q2, q3, q4⟩, k1⟩ := hm
    refine ⟨⟨_, (k1 61 (by decide)).trans hMo⟩, ?_⟩
    refine CF.mono (c_Mo_sign E f1 F d b sz g0 sta Wm Am Lm ((k1 61 (by decide)).trans hMo) hmk ((k1 63 (by decide)).trans hMB.1) ((k1 64 (by decide)).trans hMB.2) ((k1 62 (by decide)).trans hk62) ((k1 65 (by decide)).trans hk65) ((k1 66 (by decide)).trans hMs.1) ((k1 67 (by decide)).trans hMs.2.1) ((k1 68 (by decide)).trans hMs.2.2) (szO hsz hcb) hd hBb.1 (fun i h1 h2 => by have := ha0 i h1 (by omega); rwa [Int.zero_add] at this)) ?_
    rintro r f2 ⟨hr, F2, st_n, W_n, A_n, L_n, m61, mF6, mF7, mK, mc65, mc66, mc67, mc68, mp0, k2⟩
    have hdb := div_b hcb.1 hd
    rw [hsz.1] at hr mF7 mp0
    refine ⟨hr, ?_⟩
    exact ⟨bk, wi, ns, n1, n2, g0, c0, g1, c1, g2, c2, g3, c3, W1, F1, L1, 1, d, (c0 / d), P, pm, pw, ps, F2, b, sz, W_n, A_n, L_n, mt, ms, ma, mn, (t_hDf k2 (by decide +kernel) (t_hDf k1 (by decide +kernel) hDf)), (t_hR0 k2 (by decide +kernel) (t_hR0 k1 (by decide +kernel) hR0)), (t_hR1 k2 (by decide +kernel) (t_hR1 k1 (by decide +kernel) hR1)), (t_hR2 k2 (by decide +kernel) (t_hR2 k1 (by decide +kernel) hR2)), (t_hR3 k2 (by decide +kernel) (t_hR3 k1 (by decide +kernel) hR3)), (t_hDg k2 (by decide +kernel) (t_hDg k1 (by decide +kernel) hDg)), (t_hSg k2 (by decide +kernel) ⟨q1, s1, wd1, z0, z1, z2, z3, q3, q4⟩), (t_hPl k2 (by decide +kernel) (t_hPl k1 (by decide +kernel) hPl)), (t_hMa k2 (by decide +kernel) (t_hMa k1 (by decide +kernel) hMa)), (t_hWt k2 (by decide +kernel) (t_hWt k1 (by decide +kernel) hWt)), (t_hRd k2 (by decide +kernel) (t_hRd k1 (by decide +kernel) hRd)), m61, (t_hMB k2 (by decide +kernel) (t_hMB k1 (by decide +kernel) hMB)), ⟨(k2 62 (by decide)).trans ((k1 62 (by decide)).trans hk62), _, mc65⟩, ⟨mc66, mc67, mc68⟩, (t_hMp k2 (by decide +kernel) (t_hMp k1 (by decide +kernel) hMp)), (t_hMx k2 (by decide +kernel) (t_hMx k1 (by decide +kernel) hMx)), (moK_fr hmk mK (by decide)), (mF7.trans (by rw [if_pos rfl])), (fun _ => mF6), ((mK 11 (by decide)).trans hF3), (fun q => ⟨((mK 12 (by decide)).trans ((hF4 q).1)), ((mK 13 (by decide)).trans ((hF4 q).2))⟩), ⟨((mK 46 (by decide)).trans hF5.1), ((mK 47 (by decide)).trans hF5.2.1), ((mK 48 (by decide)).trans hF5.2.2.1), ((mK 49 (by decide)).trans hF5.2.2.2.1), ((mK 50 (by decide)).trans hF5.2.2.2.2)⟩, hBb, hcb, hsz, ha0, ha1, ha2, ha3, ⟨Or.inr rfl, fun _ => ⟨hd, hdb.1, hdb.2.1, hdb.2.2, sg_eq q2 mp0⟩⟩, hpm, ⟨hst.1, hst.2.1, hst.2.2.1, fun _ => rfl⟩⟩
  · refine ⟨zI (-1), (fun f' => f' = f), hcs.mono (fun r f1 h => by rw [if_neg hd] at h; exact h.1), fun f1 hm => ?_⟩
    obtain rfl := hm.symm
    refine ⟨⟨_, hMo⟩, ?_⟩
    refine CF.mono (c_Mo_sign_no E f F d hMo hmk (by omega) hd2) ?_
    rintro r f2 ⟨hr, e2⟩
    rw [e2]
    exact ⟨hr, hI⟩
theorem P_scan {E : EV} {st : Int → Int} (d : Int) (hd2 : -2147483648 ≤ d ∧ d < 2147483648) : PrI E st yn_Df_scan cd_Df_scan 6 (some .int) 4 yn_Mo_scan cd_Mo_scan 7 4 [.int (zI d)] := by
  intro f hI
  have hJ := hI
  obtain ⟨bk, wi, ns, n1, n2, g0, c0, g1, c1, g2, c2, g3, c3, W, Fs, L, md, bl, ct, P, pm, pw, ps, F, b, sz, Wm, Am, Lm, mt, ms, ma, mn, hDf, hR0, hR1, hR2, hR3, hDg, hSg, hPl, hMa, hWt, hRd, hMo, hMB, hMk, hMs, hMp, hMx, hmk, hF1, hF2, hF3, hF4, hF5, hBb, hcb, hsz, ha0, ha1, ha2, ha3, hmd, hpm, hst⟩ := hJ
  obtain ⟨hSs, s0, wd0, y0, y1, y2, y3, hSd, hSv⟩ := hSg
  by_cases hd : md = 1 ∧ 16 ≤ d ∧ d ≤ 256
  · obtain ⟨hk62, sta, hk65⟩ := hMk
    obtain ⟨rs, ra, dr, qs, qt, nr, sm, tb, ob, oo, av, ev, x73, x74, x75, x76, x77, x78, x79, x80, x81, x82, x83, x84⟩ := hMx
    obtain ⟨s9, wd9, x0, x1, x2, x3, hD9, hV9⟩ := hDg
    obtain ⟨hmb, hmc, hmd3, hme, hmg⟩ := hmd.2 hd.1
    refine ⟨_, _, c_Df_scan E f bk wi ns n1 n2 W Fs L md bl ct s0 wd0 x0 x1 x2 x3 g1 c1 d P pm pw ps hDf hSs hSd hV9 hR1 hcb.2.1 hPl hpm.2.1 hd.2 hd.1 ⟨hmb, hmc, hmd3, hme⟩, fun f1 hm => ?_⟩
    obtain ⟨q1, q2, ⟨s1, wd1, z0, z1, z2, z3, q3, q4⟩, k1⟩ := hm
    have hF1b : F 7 = .int (zI ct) := hF1.trans (by rw [if_pos hd.1])
    refine ⟨⟨_, (k1 61 (by decide)).trans hMo⟩, ?_⟩
    refine CF.mono (c_Mo_scan E f1 F d bl ct b sz g1 sta W Fs L Wm Am Lm rs ra mt ms ma mn P ((k1 61 (by decide)).trans hMo) hmk (hF2 hd.1) hF1b ((k1 63 (by decide)).trans hMB.1) ((k1 64 (by decide)).trans hMB.2) ((k1 62 (by decide)).trans hk62) ((k1 65 (by decide)).trans hk65) ((k1 66 (by decide)).trans hMs.1) ((k1 67 (by decide)).trans hMs.2.1) ((k1 68 (by decide)).trans hMs.2.2) ((k1 73 (by decide)).trans x73) ((k1 74 (by decide)).trans x74) ((k1 69 (by decide)).trans hMp.1) ((k1 70 (by decide)).trans hMp.2.1) ((k1 71 (by decide)).trans hMp.2.2.1) ((k1 72 (by decide)).trans hMp.2.2.2) (szO hsz hcb) hmb ⟨hmc, hmd3⟩ hme hd.2 hBb.2.1 (fun i h1 h2 => ha1 i h1 (by omega)) hmg) ?_
    rintro r f2 ⟨hr, F2, st_n, rs_n, ra_n, mt_n, ms_n, ma_n, mn_n, m61, mF13, mF12, mF11, mK, mc65, mc73, mc74, mc69, mc70, mc71, mc72, mp0, k2⟩
    rw [hsz.2.1] at hr mF11 mp0
    refine ⟨hr, ?_⟩
    have hV := plV_sc (W := W) (F := Fs) (L := L) (g := g1) (w := d) (P := P) (by omega) hmb hmc hme hcb.2.1.1
    have hWp := plV_W hV hcb.2.1.2
    exact ⟨bk, wi, ns, n1, n2, g0, c0, g1, c1, g2, c2, g3, c3, W, Fs, L, md, bl, ct, (scF W Fs L g1 bl ct c1 d P), 1, d, (ct * bl), F2, b, sz, Wm, Am, Lm, mt_n, ms_n, ma_n, mn_n, (t_hDf k2 (by decide +kernel) (t_hDf k1 (by decide +kernel) hDf)), (t_hR0 k2 (by decide +kernel) (t_hR0 k1 (by decide +kernel) hR0)), (t_hR1 k2 (by decide +kernel) (t_hR1 k1 (by decide +kernel) hR1)), (t_hR2 k2 (by decide +kernel) (t_hR2 k1 (by decide +kernel) hR2)), (t_hR3 k2 (by decide +kernel) (t_hR3 k1 (by decide +kernel) hR3)), (t_hDg k2 (by decide +kernel) ⟨s9, wd9, z0, z1, z2, z3, ⟨(k1 10 (by decide)).trans hD9.1, (k1 11 (by decide)).trans hD9.2.1, (k1 12 (by decide)).trans hD9.2.2⟩, q4⟩), (t_hSg k2 (by decide +kernel) ⟨⟨(k1 14 (by decide)).trans hSs.1, (k1 18 (by decide)).trans hSs.2.1, (k1 19 (by decide)).trans hSs.2.2.1, (k1 20 (by decide)).trans hSs.2.2.2⟩, s1, wd1, y0, y1, y2, y3, q3, (k1 21 (by decide)).trans hSv⟩), (t_hPl k2 (by decide +kernel) q1), (t_hMa k2 (by decide +kernel) (t_hMa k1 (by decide +kernel) hMa)), (t_hWt k2 (by decide +kernel) (t_hWt k1 (by decide +kernel) hWt)), (t_hRd k2 (by decide +kernel) (t_hRd k1 (by decide +kernel) hRd)), m61, (t_hMB k2 (by decide +kernel) (t_hMB k1 (by decide +kernel) hMB)), ⟨(k2 62 (by decide)).trans ((k1 62 (by decide)).trans hk62), _, mc65⟩, (t_hMs k2 (by decide +kernel) (t_hMs k1 (by decide +kernel) hMs)), ⟨mc69, mc70, mc71, mc72⟩, ⟨rs_n, ra_n, dr, qs, qt, nr, sm, tb, ob, oo, av, ev, mc73, mc74, ((k2 75 (by decide)).trans ((k1 75 (by decide)).trans x75)), ((k2 76 (by decide)).trans ((k1 76 (by decide)).trans x76)), ((k2 77 (by decide)).trans ((k1 77 (by decide)).trans x77)), ((k2 78 (by decide)).trans ((k1 78 (by decide)).trans x78)), ((k2 79 (by decide)).trans ((k1 79 (by decide)).trans x79)), ((k2 80 (by decide)).trans ((k1 80 (by decide)).trans x80)), ((k2 81 (by decide)).trans ((k1 81 (by decide)).trans x81)), ((k2 82 (by decide)).trans ((k1 82 (by decide)).trans x82)), ((k2 83 (by decide)).trans ((k1 83 (by decide)).trans x83)), ((k2 84 (by decide)).trans ((k1 84 (by decide)).trans x84))⟩, (moK_fr hmk mK (by decide)), ((mK 7 (by decide)).trans hF1), (fun q => ((mK 6 (by decide)).trans (hF2 q))), (mF11.trans (by rw [if_pos rfl])), (fun _ => ⟨mF12, mF13⟩), ⟨((mK 46 (by decide)).trans hF5.1), ((mK 47 (by decide)).trans hF5.2.1), ((mK 48 (by decide)).trans hF5.2.2.1), ((mK 49 (by decide)).trans hF5.2.2.2.1), ((mK 50 (by decide)).trans hF5.2.2.2.2)⟩, hBb, hcb, hsz, ha0, ha1, ha2, ha3, hmd, ⟨Or.inr rfl, q2.2.2.2, hWp.1, fun _ => ⟨mp0, hWp, hd.2, by have : 0 ≤ ct * bl := Int.mul_nonneg hmc (by omega); omega⟩⟩, hst⟩
  · skip
    refine ⟨_, _, c_Df_scan_no E f bk wi ns n1 n2 W Fs L md bl ct d hDf hSs hmd.1 (by have := hmd.1; omega) hd2, fun f1 hm => ?_⟩
    obtain rfl := hm.symm
    refine ⟨⟨_, hMo⟩, ?_⟩
    refine CF.mono (c_Mo_scan_no E f F d (if md = 1 then ct else -1) hMo hmk hF1 (by have := hmd.1; by_cases q : md = 1; (rw [if_pos q]; omega); (rw [if_neg q]; omega)) (by by_cases q : md = 1; (have := hmd.2 q; rw [if_pos q]; omega); (rw [if_neg q]; omega))) ?_
    rintro r f2 ⟨hr, e2⟩
    rw [e2]
    exact ⟨hr, hI⟩
theorem P_differ {E : EV} {st : Int → Int} (d w : Int) (hd2 : -2147483648 ≤ d ∧ d < 2147483648) (hw2 : -2147483648 ≤ w ∧ w < 2147483648) : PrI E st yn_Df_differ cd_Df_differ 4 (some .int) 3 yn_Mo_differ cd_Mo_differ 9 3 [.int (zI d), .int (zI w)] := by
  intro f hI
  have hJ := hI
  obtain ⟨bk, wi, ns, n1, n2, g0, c0, g1, c1, g2, c2, g3, c3, W, Fs, L, md, bl, ct, P, pm, pw, ps, F, b, sz, Wm, Am, Lm, mt, ms, ma, mn, hDf, hR0, hR1, hR2, hR3, hDg, hSg, hPl, hMa, hWt, hRd, hMo, hMB, hMk, hMs, hMp, hMx, hmk, hF1, hF2, hF3, hF4, hF5, hBb, hcb, hsz, ha0, ha1, ha2, ha3, hmd, hpm, hst⟩ := hJ
  by_cases hd : (1 ≤ d ∧ d ≤ 16) ∧ 16 ≤ w ∧ w ≤ 256
  · obtain ⟨h, so, en, ch, mA, mS, hMm, hMb⟩ := hMa
    refine ⟨_, _, c_Df_differ E f bk wi ns n1 n2 P pm pw ps h so en ch mA mS g0 g1 c0 c1 d w hDf hPl hpm.2.1 hMm hMb hR0 hBb.1 hR1 hBb.2.1 ⟨hcb.2.1.1, hcb.2.1.2, hcb.1.1, hcb.1.2⟩ hd.1 hd.2, fun f1 hm => ?_⟩
    obtain ⟨q1, q2, q3, q4, k1⟩ := hm
    refine ⟨⟨_, (k1 61 (by decide)).trans hMo⟩, ?_⟩
    refine CF.mono (c_Mo_differ E f1 F d w b sz g0 g1 mt ms ma mn P ((k1 61 (by decide)).trans hMo) hmk ((k1 63 (by decide)).trans hMB.1) ((k1 64 (by decide)).trans hMB.2) ((k1 69 (by decide)).trans hMp.1) ((k1 70 (by decide)).trans hMp.2.1) ((k1 71 (by decide)).trans hMp.2.2.1) ((k1 72 (by decide)).trans hMp.2.2.2) (szO hsz hcb) hd.1 hd.2 hBb.1 hBb.2.1 (fun i h1 h2 => by have := ha0 i h1 (by omega); rwa [Int.zero_add] at this) (fun i h1 h2 => ha1 i h1 (by omega)) hpm.2.1) ?_
    rintro r f2 ⟨hr, F2, mt_n, ms_n, ma_n, mn_n, m61, mF13, mF12, mF11, mK, mc69, mc70, mc71, mc72, mp0, k2⟩
    rw [hsz.1, hsz.2.1] at hr mF11 mp0
    rw [hsz.1] at mF12
    refine ⟨hr, ?_⟩
    have hWp := plV_W (plV_df (g0 := g0) (g := g1) (ch := d) (P := P) hd.2 hcb.1 hcb.2.1.1) hcb.2.1.2
    exact ⟨bk, wi, ns, n1, n2, g0, c0, g1, c1, g2, c2, g3, c3, W, Fs, L, md, bl, ct, (dfF g0 g1 c0 c1 d w P), 1, w, c0, F2, b, sz, Wm, Am, Lm, mt_n, ms_n, ma_n, mn_n, (t_hDf k2 (by decide +kernel) (t_hDf k1 (by decide +kernel) hDf)), (t_hR0 k2 (by decide +kernel) (t_hR0 k1 (by decide +kernel) hR0)), (t_hR1 k2 (by decide +kernel) (t_hR1 k1 (by decide +kernel) hR1)), (t_hR2 k2 (by decide +kernel) (t_hR2 k1 (by decide +kernel) hR2)), (t_hR3 k2 (by decide +kernel) (t_hR3 k1 (by decide +kernel) hR3)), (t_hDg k2 (by decide +kernel) (t_hDg k1 (by decide +kernel) hDg)), (t_hSg k2 (by decide +kernel) (t_hSg k1 (by decide +kernel) hSg)), (t_hPl k2 (by decide +kernel) q1), (t_hMa k2 (by decide +kernel) q4), (t_hWt k2 (by decide +kernel) (t_hWt k1 (by decide +kernel) hWt)), (t_hRd k2 (by decide +kernel) (t_hRd k1 (by decide +kernel) hRd)), m61, (t_hMB k2 (by decide +kernel) (t_hMB k1 (by decide +kernel) hMB)), (t_hMk k2 (by decide +kernel) (t_hMk k1 (by decide +kernel) hMk)), (t_hMs k2 (by decide +kernel) (t_hMs k1 (by decide +kernel) hMs)), ⟨mc69, mc70, mc71, mc72⟩, (t_hMx k2 (by decide +kernel) (t_hMx k1 (by decide +kernel) hMx)), (moK_fr hmk mK (by decide)), ((mK 7 (by decide)).trans hF1), (fun q => ((mK 6 (by decide)).trans (hF2 q))), (mF11.trans (by rw [if_pos rfl])), (fun _ => ⟨mF12, mF13⟩), ⟨((mK 46 (by decide)).trans hF5.1), ((mK 47 (by decide)).trans hF5.2.1), ((mK 48 (by decide)).trans hF5.2.2.1), ((mK 49 (by decide)).trans hF5.2.2.2.1), ((mK 50 (by decide)).trans hF5.2.2.2.2)⟩, hBb, hcb, hsz, ha0, ha1, ha2, ha3, hmd, ⟨Or.inr rfl, q2, hWp.1, fun _ => ⟨mp0, hWp, hd.2, hcb.1⟩⟩, hst⟩
  · skip
    refine ⟨_, _, c_Df_differ_no E f bk wi ns n1 n2 d w hDf (by omega) (by omega), fun f1 hm => ?_⟩
    obtain rfl := hm.symm
    refine ⟨⟨_, hMo⟩, ?_⟩
    refine CF.mono (c_Mo_differ_no E f F d w hMo hmk (by omega) (by omega)) ?_
    rintro r f2 ⟨hr, e2⟩
    rw [e2]
    exact ⟨hr, hI⟩
theorem P_instruction {E : EV} {st : Int → Int} (d w : Int) (hd2 : -2147483648 ≤ d ∧ d < 2147483648) (hw2 : -2147483648 ≤ w ∧ w < 2147483648) : PrI E st yn_Df_instruction cd_Df_instruction 3 (some .int) 0 yn_Mo_instruction cd_Mo_instruction 3 0 [.int (zI d), .int (zI w)] := by
  intro f hI
  have hJ := hI
  obtain ⟨bk, wi, ns, n1, n2, g0, c0, g1, c1, g2, c2, g3, c3, W, Fs, L, md, bl, ct, P, pm, pw, ps, F, b, sz, Wm, Am, Lm, mt, ms, ma, mn, hDf, hR0, hR1, hR2, hR3, hDg, hSg, hPl, hMa, hWt, hRd, hMo, hMB, hMk, hMs, hMp, hMx, hmk, hF1, hF2, hF3, hF4, hF5, hBb, hcb, hsz, ha0, ha1, ha2, ha3, hmd, hpm, hst⟩ := hJ
  refine ⟨_, _, c_Df_instruction E f bk wi ns n1 n2 P pm pw ps d w hDf hPl hpm.2.1 hpm.1 hpm.2.2.1 (by omega), fun f1 hm => ?_⟩
  obtain rfl := hm.symm
  refine ⟨⟨_, hMo⟩, ?_⟩
  refine CF.mono (c_Mo_instruction E f F d w (if pm = 1 then pC P else -1) pm P mt ms ma mn hMo hmk hF3 hMp.1 hMp.2.1 hMp.2.2.1 hMp.2.2.2 (by rcases hpm.1 with q | q; exact Or.inl ⟨q, if_neg (by omega)⟩; exact Or.inr ⟨q, if_pos q, (hpm.2.2.2 q).1⟩) hpm.2.2.1 (by omega)) ?_
  rintro r f2 ⟨hr, e2⟩
  rw [e2]
  exact ⟨hr, hI⟩
theorem P_encode0 {E : EV} {st : Int → Int} : PrI E st yn_Df_encode cd_Df_encode 3 (some .int) 5 yn_Mo_encode cd_Mo_encode 4 5 [.int (zI 0)] := by
  intro f hI
  have hJ := hI
  obtain ⟨bk, wi, ns, n1, n2, g0, c0, g1, c1, g2, c2, g3, c3, W, Fs, L, md, bl, ct, P, pm, pw, ps, F, b, sz, Wm, Am, Lm, mt, ms, ma, mn, hDf, hR0, hR1, hR2, hR3, hDg, hSg, hPl, hMa, hWt, hRd, hMo, hMB, hMk, hMs, hMp, hMx, hmk, hF1, hF2, hF3, hF4, hF5, hBb, hcb, hsz, ha0, ha1, ha2, ha3, hmd, hpm, hst⟩ := hJ
  by_cases hd : pm = 1
  · obtain ⟨nx, go, co, w1, w2, w3⟩ := hWt
    obtain ⟨rs, ra, dr, qs, qt, nr, sm, tb, ob, oo, av, ev, x73, x74, x75, x76, x77, x78, x79, x80, x81, x82, x83, x84⟩ := hMx
    obtain ⟨hpe, hpw, hpx, hpy⟩ := hpm.2.2.2 hd
    have hcs := c_Df_encode E f bk wi ns n1 n2 P pm pw ps g1 g2 go c1 c2 co nx 0 hDf hPl hd hpm.2.1 hR1 hBb.2.1 hR2 w1 w2 w3 hpw hpx hcb.2.1 hpy hcb.2.2.1 (by decide)
    have hF3b : F 11 = .int (zI (pC P)) := hF3.trans (by rw [if_pos hd])
    by_cases hl : 700 < ((enF P pw ps g1 c1 0).length : Int)
    · refine ⟨zI (-4), (fun f' => isR E f' 6 7 700 g2 c2 ∧ (∃ go' co' nx', isWt E f' nx' ∧ isR E f' 30 31 1885 go' co' ∧ wtS E f') ∧ Fr [6, 7, 29, 30, 31, 32, 33, 34, 35, 36, 37, 38, 39, 40, 41, 42, 43] f f'), hcs.mono (fun r f1 h => by rw [if_pos hl] at h; exact ⟨h.1.1, h.1.2, h.2.1, h.2.2⟩), fun f1 hm => ?_⟩
      obtain ⟨q1, ⟨go1, co1, nx1, u1, u2, u3⟩, k1⟩ := hm
      refine ⟨⟨_, (k1 61 (by decide)).trans hMo⟩, ?_⟩
      refine CF.mono (c_Mo_encode0_large E f1 F P pw ps b sz g1 mt ms ma mn nr sm qt qs dr ((k1 61 (by decide)).trans hMo) hmk hF3b (hF4 hd).1 (hF4 hd).2 ((k1 63 (by decide)).trans hMB.1) ((k1 64 (by decide)).trans hMB.2) ((k1 69 (by decide)).trans hMp.1) ((k1 70 (by decide)).trans hMp.2.1) ((k1 71 (by decide)).trans hMp.2.2.1) ((k1 72 (by decide)).trans hMp.2.2.2) ((k1 78 (by decide)).trans x78) ((k1 79 (by decide)).trans x79) ((k1 76 (by decide)).trans x76) ((k1 77 (by decide)).trans x77) ((k1 75 (by decide)).trans x75) (szO hsz hcb) hpe hpm.2.1 (by rw [hsz.2.1]; exact hpw) hpx hpy hBb.2.1 (fun i h1 h2 => ha1 i h1 (by omega)) (by rw [hsz.2.1]; omega)) ?_
      rintro r f2 ⟨hr, F2, nr_n, sm_n, pt_n, ps_n, dr_n, m61, mK, mc78, mc79, mc76, mc77, mc75, k2⟩
      refine ⟨hr, ?_⟩
      exact ⟨bk, wi, ns, n1, n2, g0, c0, g1, c1, g2, c2, g3, c3, W, Fs, L, md, bl, ct, P, pm, pw, ps, F2, b, sz, Wm, Am, Lm, mt, ms, ma, mn, (t_hDf k2 (by decide +kernel) (t_hDf k1 (by decide +kernel) hDf)), (t_hR0 k2 (by decide +kernel) (t_hR0 k1 (by decide +kernel) hR0)), (t_hR1 k2 (by decide +kernel) (t_hR1 k1 (by decide +kernel) hR1)), (t_hR2 k2 (by decide +kernel) q1), (t_hR3 k2 (by decide +kernel) (t_hR3 k1 (by decide +kernel) hR3)), (t_hDg k2 (by decide +kernel) (t_hDg k1 (by decide +kernel) hDg)), (t_hSg k2 (by decide +kernel) (t_hSg k1 (by decide +kernel) hSg)), (t_hPl k2 (by decide +kernel) (t_hPl k1 (by decide +kernel) hPl)), (t_hMa k2 (by decide +kernel) (t_hMa k1 (by decide +kernel) hMa)), (t_hWt k2 (by decide +kernel) ⟨nx1, go1, co1, u1, u2, u3⟩), (t_hRd k2 (by decide +kernel) (t_hRd k1 (by decide +kernel) hRd)), m61, (t_hMB k2 (by decide +kernel) (t_hMB k1 (by decide +kernel) hMB)), (t_hMk k2 (by decide +kernel) (t_hMk k1 (by decide +kernel) hMk)), (t_hMs k2 (by decide +kernel) (t_hMs k1 (by decide +kernel) hMs)), (t_hMp k2 (by decide +kernel) (t_hMp k1 (by decide +kernel) hMp)), ⟨rs, ra, dr_n, ps_n, pt_n, nr_n, sm_n, tb, ob, oo, av, ev, ((k2 73 (by decide)).trans ((k1 73 (by decide)).trans x73)), ((k2 74 (by decide)).trans ((k1 74 (by decide)).trans x74)), mc75, mc76, mc77, mc78, mc79, ((k2 80 (by decide)).trans ((k1 80 (by decide)).trans x80)), ((k2 81 (by decide)).trans ((k1 81 (by decide)).trans x81)), ((k2 82 (by decide)).trans ((k1 82 (by decide)).trans x82)), ((k2 83 (by decide)).trans ((k1 83 (by decide)).trans x83)), ((k2 84 (by decide)).trans ((k1 84 (by decide)).trans x84))⟩, (moK_fr hmk mK (by decide)), ((mK 7 (by decide)).trans hF1), (fun q => ((mK 6 (by decide)).trans (hF2 q))), ((mK 11 (by decide)).trans hF3), (fun q => ⟨((mK 12 (by decide)).trans ((hF4 q).1)), ((mK 13 (by decide)).trans ((hF4 q).2))⟩), ⟨((mK 46 (by decide)).trans hF5.1), ((mK 47 (by decide)).trans hF5.2.1), ((mK 48 (by decide)).trans hF5.2.2.1), ((mK 49 (by decide)).trans hF5.2.2.2.1), ((mK 50 (by decide)).trans hF5.2.2.2.2)⟩, hBb, hcb, hsz, ha0, ha1, ha2, ha3, hmd, hpm, hst⟩
    · refine ⟨zI ((enF P pw ps g1 c1 0).length : Int), (fun f' => (∃ gd', isR E f' 6 7 700 gd' ((enF P pw ps g1 c1 0).length : Int) ∧ rep gd' ((enF P pw ps g1 c1 0).length : Int) (enF P pw ps g1 c1 0) ∧ ∀ k : Int, ((enF P pw ps g1 c1 0).length : Int) ≤ k → gd' k = g2 k) ∧ (∃ go' co' nx', isWt E f' nx' ∧ isR E f' 30 31 1885 go' co' ∧ wtS E f') ∧ Fr [6, 7, 29, 30, 31, 32, 33, 34, 35, 36, 37, 38, 39, 40, 41, 42, 43] f f'), hcs.mono (fun r f1 h => by rw [if_neg hl] at h; exact ⟨h.1.1, h.1.2, h.2.1, h.2.2⟩), fun f1 hm => ?_⟩
      obtain ⟨⟨gd, q1, q2, q3⟩, ⟨go1, co1, nx1, u1, u2, u3⟩, k1⟩ := hm
      refine ⟨⟨_, (k1 61 (by decide)).trans hMo⟩, ?_⟩
      refine CF.mono (c_Mo_encode0 E f1 F P pw ps b sz g1 mt ms ma mn nr sm qt qs dr ((k1 61 (by decide)).trans hMo) hmk hF3b (hF4 hd).1 (hF4 hd).2 ((k1 63 (by decide)).trans hMB.1) ((k1 64 (by decide)).trans hMB.2) ((k1 69 (by decide)).trans hMp.1) ((k1 70 (by decide)).trans hMp.2.1) ((k1 71 (by decide)).trans hMp.2.2.1) ((k1 72 (by decide)).trans hMp.2.2.2) ((k1 78 (by decide)).trans x78) ((k1 79 (by decide)).trans x79) ((k1 76 (by decide)).trans x76) ((k1 77 (by decide)).trans x77) ((k1 75 (by decide)).trans x75) (szO hsz hcb) hpe hpm.2.1 (by rw [hsz.2.1]; exact hpw) hpx hpy hBb.2.1 (fun i h1 h2 => ha1 i h1 (by omega)) (by rw [hsz.2.1]; omega)) ?_
      rintro r f2 ⟨hr, F2, nr_n, sm_n, pt_n, ps_n, dr_n, b_n, m61, mK, mc78, mc79, mc76, mc77, mc75, mc63, mc64, mp0, mp1, k2⟩
      rw [hsz.2.1] at hr mc64 mp0 mp1
      refine ⟨hr, ?_⟩
      have hgx : iz E 700 gd = iz E 700 (fun k => if 0 ≤ k then gd k else 0) := iz_nn (fun k h => (if_pos h).symm)
      have hok := okL_en (ck := 0) hpw hpx hcb.2.1 hpy hBb.2.1
      exact ⟨bk, wi, ns, n1, n2, g0, c0, g1, c1, (fun k => if 0 ≤ k then gd k else 0), ((enF P pw ps g1 c1 0).length : Int), g3, c3, W, Fs, L, md, bl, ct, P, pm, pw, ps, F2, b_n, (uz sz 2 ((enF P pw ps g1 c1 0).length : Int)), Wm, Am, Lm, mt, ms, ma, mn, (t_hDf k2 (by decide +kernel) (t_hDf k1 (by decide +kernel) hDf)), (t_hR0 k2 (by decide +kernel) (t_hR0 k1 (by decide +kernel) hR0)), (t_hR1 k2 (by decide +kernel) (t_hR1 k1 (by decide +kernel) hR1)), (t_hR2 k2 (by decide +kernel) ⟨q1.1, q1.2.trans hgx⟩), (t_hR3 k2 (by decide +kernel) (t_hR3 k1 (by decide +kernel) hR3)), (t_hDg k2 (by decide +kernel) (t_hDg k1 (by decide +kernel) hDg)), (t_hSg k2 (by decide +kernel) (t_hSg k1 (by decide +kernel) hSg)), (t_hPl k2 (by decide +kernel) (t_hPl k1 (by decide +kernel) hPl)), (t_hMa k2 (by decide +kernel) (t_hMa k1 (by decide +kernel) hMa)), (t_hWt k2 (by decide +kernel) ⟨nx1, go1, co1, u1, u2, u3⟩), (t_hRd k2 (by decide +kernel) (t_hRd k1 (by decide +kernel) hRd)), m61, ⟨mc63, mc64⟩, (t_hMk k2 (by decide +kernel) (t_hMk k1 (by decide +kernel) hMk)), (t_hMs k2 (by decide +kernel) (t_hMs k1 (by decide +kernel) hMs)), (t_hMp k2 (by decide +kernel) (t_hMp k1 (by decide +kernel) hMp)), ⟨rs, ra, dr_n, ps_n, pt_n, nr_n, sm_n, tb, ob, oo, av, ev, ((k2 73 (by decide)).trans ((k1 73 (by decide)).trans x73)), ((k2 74 (by decide)).trans ((k1 74 (by decide)).trans x74)), mc75, mc76, mc77, mc78, mc79, ((k2 80 (by decide)).trans ((k1 80 (by decide)).trans x80)), ((k2 81 (by decide)).trans ((k1 81 (by decide)).trans x81)), ((k2 82 (by decide)).trans ((k1 82 (by decide)).trans x82)), ((k2 83 (by decide)).trans ((k1 83 (by decide)).trans x83)), ((k2 84 (by decide)).trans ((k1 84 (by decide)).trans x84))⟩, (moK_fr hmk mK (by decide)), ((mK 7 (by decide)).trans hF1), (fun q => ((mK 6 (by decide)).trans (hF2 q))), ((mK 11 (by decide)).trans hF3), (fun q => ⟨((mK 12 (by decide)).trans ((hF4 q).1)), ((mK 13 (by decide)).trans ((hF4 q).2))⟩), ⟨((mK 46 (by decide)).trans hF5.1), ((mK 47 (by decide)).trans hF5.2.1), ((mK 48 (by decide)).trans hF5.2.2.1), ((mK 49 (by decide)).trans hF5.2.2.2.1), ((mK 50 (by decide)).trans hF5.2.2.2.2)⟩, ⟨hBb.1, hBb.2.1, rep_B q2 hok q3 hBb.2.2.1, hBb.2.2.2⟩, ⟨hcb.1, hcb.2.1, ⟨by omega, by omega⟩, hcb.2.2.2⟩, ⟨(if_neg (by decide)).trans hsz.1, (if_neg (by decide)).trans hsz.2.1, if_pos rfl, (if_neg (by decide)).trans hsz.2.2.2⟩, (fun i h1 h2 => (mp1 _ (by omega)).trans (ha0 i h1 h2)), (fun i h1 h2 => (mp1 _ (by omega)).trans (ha1 i h1 h2)), (fun i h1 h2 => (rep_ag mp0 q2 i h1 h2).trans (if_pos h1).symm), (fun i h1 h2 => (mp1 _ (by omega)).trans (ha3 i h1 h2)), hmd, hpm, hst⟩
  · skip
    have hd0 : pm = 0 := by have := hpm.1; omega
    have hF3b : F 11 = .int (zI (-1)) := hF3.trans (by rw [if_neg hd])
    refine ⟨_, _, c_Df_encode_no E f bk wi ns n1 n2 P pm pw ps 0 hDf hPl hd0, fun f1 hm => ?_⟩
    obtain rfl := hm.symm
    refine ⟨⟨_, hMo⟩, ?_⟩
    refine CF.mono (c_Mo_encode_no E f F 0 hMo hmk hF3b) ?_
    rintro r f2 ⟨hr, e2⟩
    rw [e2]
    exact ⟨hr, hI⟩
theorem P_encode1 {E : EV} {st : Int → Int} : PrI E st yn_Df_encode cd_Df_encode 3 (some .int) 5 yn_Mo_encode cd_Mo_encode 4 5 [.int (zI 1)] := by
  intro f hI
  have hJ := hI
  obtain ⟨bk, wi, ns, n1, n2, g0, c0, g1, c1, g2, c2, g3, c3, W, Fs, L, md, bl, ct, P, pm, pw, ps, F, b, sz, Wm, Am, Lm, mt, ms, ma, mn, hDf, hR0, hR1, hR2, hR3, hDg, hSg, hPl, hMa, hWt, hRd, hMo, hMB, hMk, hMs, hMp, hMx, hmk, hF1, hF2, hF3, hF4, hF5, hBb, hcb, hsz, ha0, ha1, ha2, ha3, hmd, hpm, hst⟩ := hJ
  by_cases hd : pm = 1
  · obtain ⟨nx, go, co, w1, w2, w3⟩ := hWt
    obtain ⟨rs, ra, dr, qs, qt, nr, sm, tb, ob, oo, av, ev, x73, x74, x75, x76, x77, x78, x79, x80, x81, x82, x83, x84⟩ := hMx
    obtain ⟨hpe, hpw, hpx, hpy⟩ := hpm.2.2.2 hd
    have hcs := c_Df_encode E f bk wi ns n1 n2 P pm pw ps g1 g2 go c1 c2 co nx 1 hDf hPl hd hpm.2.1 hR1 hBb.2.1 hR2 w1 w2 w3 hpw hpx hcb.2.1 hpy hcb.2.2.1 (by decide)
    have hF3b : F 11 = .int (zI (pC P)) := hF3.trans (by rw [if_pos hd])
    by_cases hl : 700 < ((enF P pw ps g1 c1 1).length : Int)
    · refine ⟨zI (-4), (fun f' => isR E f' 6 7 700 g2 c2 ∧ (∃ go' co' nx', isWt E f' nx' ∧ isR E f' 30 31 1885 go' co' ∧ wtS E f') ∧ Fr [6, 7, 29, 30, 31, 32, 33, 34, 35, 36, 37, 38, 39, 40, 41, 42, 43] f f'), hcs.mono (fun r f1 h => by rw [if_pos hl] at h; exact ⟨h.1.1, h.1.2, h.2.1, h.2.2⟩), fun f1 hm => ?_⟩
      obtain ⟨q1, ⟨go1, co1, nx1, u1, u2, u3⟩, k1⟩ := hm
      refine ⟨⟨_, (k1 61 (by decide)).trans hMo⟩, ?_⟩
      refine CF.mono (c_Mo_encode1_large E f1 F P pw ps b sz g1 mt ms ma mn nr sm qt qs dr ((k1 61 (by decide)).trans hMo) hmk hF3b (hF4 hd).1 (hF4 hd).2 ((k1 63 (by decide)).trans hMB.1) ((k1 64 (by decide)).trans hMB.2) ((k1 69 (by decide)).trans hMp.1) ((k1 70 (by decide)).trans hMp.2.1) ((k1 71 (by decide)).trans hMp.2.2.1) ((k1 72 (by decide)).trans hMp.2.2.2) ((k1 78 (by decide)).trans x78) ((k1 79 (by decide)).trans x79) ((k1 76 (by decide)).trans x76) ((k1 77 (by decide)).trans x77) ((k1 75 (by decide)).trans x75) (szO hsz hcb) hpe hpm.2.1 (by rw [hsz.2.1]; exact hpw) hpx hpy hBb.2.1 (fun i h1 h2 => ha1 i h1 (by omega)) (by rw [hsz.2.1]; omega)) ?_
      rintro r f2 ⟨hr, F2, nr_n, sm_n, pt_n, ps_n, dr_n, m61, mK, mc78, mc79, mc76, mc77, mc75, k2⟩
      refine ⟨hr, ?_⟩
      exact ⟨bk, wi, ns, n1, n2, g0, c0, g1, c1, g2, c2, g3, c3, W, Fs, L, md, bl, ct, P, pm, pw, ps, F2, b, sz, Wm, Am, Lm, mt, ms, ma, mn, (t_hDf k2 (by decide +kernel) (t_hDf k1 (by decide +kernel) hDf)), (t_hR0 k2 (by decide +kernel) (t_hR0 k1 (by decide +kernel) hR0)), (t_hR1 k2 (by decide +kernel) (t_hR1 k1 (by decide +kernel) hR1)), (t_hR2 k2 (by decide +kernel) q1), (t_hR3 k2 (by decide +kernel) (t_hR3 k1 (by decide +kernel) hR3)), (t_hDg k2 (by decide +kernel) (t_hDg k1 (by decide +kernel) hDg)), (t_hSg k2 (by decide +kernel) (t_hSg k1 (by decide +kernel) hSg)), (t_hPl k2 (by decide +kernel) (t_hPl k1 (by decide +kernel) hPl)), (t_hMa k2 (by decide +kernel) (t_hMa k1 (by decide +kernel) hMa)), (t_hWt k2 (by decide +kernel) ⟨nx1, go1, co1, u1, u2, u3⟩), (t_hRd k2 (by decide +kernel) (t_hRd k1 (by decide +kernel) hRd)), m61, (t_hMB k2 (by decide +kernel) (t_hMB k1 (by decide +kernel) hMB)), (t_hMk k2 (by decide +kernel) (t_hMk k1 (by decide +kernel) hMk)), (t_hMs k2 (by decide +kernel) (t_hMs k1 (by decide +kernel) hMs)), (t_hMp k2 (by decide +kernel) (t_hMp k1 (by decide +kernel) hMp)), ⟨rs, ra, dr_n, ps_n, pt_n, nr_n, sm_n, tb, ob, oo, av, ev, ((k2 73 (by decide)).trans ((k1 73 (by decide)).trans x73)), ((k2 74 (by decide)).trans ((k1 74 (by decide)).trans x74)), mc75, mc76, mc77, mc78, mc79, ((k2 80 (by decide)).trans ((k1 80 (by decide)).trans x80)), ((k2 81 (by decide)).trans ((k1 81 (by decide)).trans x81)), ((k2 82 (by decide)).trans ((k1 82 (by decide)).trans x82)), ((k2 83 (by decide)).trans ((k1 83 (by decide)).trans x83)), ((k2 84 (by decide)).trans ((k1 84 (by decide)).trans x84))⟩, (moK_fr hmk mK (by decide)), ((mK 7 (by decide)).trans hF1), (fun q => ((mK 6 (by decide)).trans (hF2 q))), ((mK 11 (by decide)).trans hF3), (fun q => ⟨((mK 12 (by decide)).trans ((hF4 q).1)), ((mK 13 (by decide)).trans ((hF4 q).2))⟩), ⟨((mK 46 (by decide)).trans hF5.1), ((mK 47 (by decide)).trans hF5.2.1), ((mK 48 (by decide)).trans hF5.2.2.1), ((mK 49 (by decide)).trans hF5.2.2.2.1), ((mK 50 (by decide)).trans hF5.2.2.2.2)⟩, hBb, hcb, hsz, ha0, ha1, ha2, ha3, hmd, hpm, hst⟩
    · refine ⟨zI ((enF P pw ps g1 c1 1).length : Int), (fun f' => (∃ gd', isR E f' 6 7 700 gd' ((enF P pw ps g1 c1 1).length : Int) ∧ rep gd' ((enF P pw ps g1 c1 1).length : Int) (enF P pw ps g1 c1 1) ∧ ∀ k : Int, ((enF P pw ps g1 c1 1).length : Int) ≤ k → gd' k = g2 k) ∧ (∃ go' co' nx', isWt E f' nx' ∧ isR E f' 30 31 1885 go' co' ∧ wtS E f') ∧ Fr [6, 7, 29, 30, 31, 32, 33, 34, 35, 36, 37, 38, 39, 40, 41, 42, 43] f f'), hcs.mono (fun r f1 h => by rw [if_neg hl] at h; exact ⟨h.1.1, h.1.2, h.2.1, h.2.2⟩), fun f1 hm => ?_⟩
      obtain ⟨⟨gd, q1, q2, q3⟩, ⟨go1, co1, nx1, u1, u2, u3⟩, k1⟩ := hm
      refine ⟨⟨_, (k1 61 (by decide)).trans hMo⟩, ?_⟩
      refine CF.mono (c_Mo_encode1 E f1 F P pw ps b sz g1 mt ms ma mn nr sm qt qs dr ((k1 61 (by decide)).trans hMo) hmk hF3b (hF4 hd).1 (hF4 hd).2 ((k1 63 (by decide)).trans hMB.1) ((k1 64 (by decide)).trans hMB.2) ((k1 69 (by decide)).trans hMp.1) ((k1 70 (by decide)).trans hMp.2.1) ((k1 71 (by decide)).trans hMp.2.2.1) ((k1 72 (by decide)).trans hMp.2.2.2) ((k1 78 (by decide)).trans x78) ((k1 79 (by decide)).trans x79) ((k1 76 (by decide)).trans x76) ((k1 77 (by decide)).trans x77) ((k1 75 (by decide)).trans x75) (szO hsz hcb) hpe hpm.2.1 (by rw [hsz.2.1]; exact hpw) hpx hpy hBb.2.1 (fun i h1 h2 => ha1 i h1 (by omega)) (by rw [hsz.2.1]; omega)) ?_
      rintro r f2 ⟨hr, F2, nr_n, sm_n, pt_n, ps_n, dr_n, b_n, m61, mK, mc78, mc79, mc76, mc77, mc75, mc63, mc64, mp0, mp1, k2⟩
      rw [hsz.2.1] at hr mc64 mp0 mp1
      refine ⟨hr, ?_⟩
      have hgx : iz E 700 gd = iz E 700 (fun k => if 0 ≤ k then gd k else 0) := iz_nn (fun k h => (if_pos h).symm)
      have hok := okL_en (ck := 1) hpw hpx hcb.2.1 hpy hBb.2.1
      exact ⟨bk, wi, ns, n1, n2, g0, c0, g1, c1, (fun k => if 0 ≤ k then gd k else 0), ((enF P pw ps g1 c1 1).length : Int), g3, c3, W, Fs, L, md, bl, ct, P, pm, pw, ps, F2, b_n, (uz sz 2 ((enF P pw ps g1 c1 1).length : Int)), Wm, Am, Lm, mt, ms, ma, mn, (t_hDf k2 (by decide +kernel) (t_hDf k1 (by decide +kernel) hDf)), (t_hR0 k2 (by decide +kernel) (t_hR0 k1 (by decide +kernel) hR0)), (t_hR1 k2 (by decide +kernel) (t_hR1 k1 (by decide +kernel) hR1)), (t_hR2 k2 (by decide +kernel) ⟨q1.1, q1.2.trans hgx⟩), (t_hR3 k2 (by decide +kernel) (t_hR3 k1 (by decide +kernel) hR3)), (t_hDg k2 (by decide +kernel) (t_hDg k1 (by decide +kernel) hDg)), (t_hSg k2 (by decide +kernel) (t_hSg k1 (by decide +kernel) hSg)), (t_hPl k2 (by decide +kernel) (t_hPl k1 (by decide +kernel) hPl)), (t_hMa k2 (by decide +kernel) (t_hMa k1 (by decide +kernel) hMa)), (t_hWt k2 (by decide +kernel) ⟨nx1, go1, co1, u1, u2, u3⟩), (t_hRd k2 (by decide +kernel) (t_hRd k1 (by decide +kernel) hRd)), m61, ⟨mc63, mc64⟩, (t_hMk k2 (by decide +kernel) (t_hMk k1 (by decide +kernel) hMk)), (t_hMs k2 (by decide +kernel) (t_hMs k1 (by decide +kernel) hMs)), (t_hMp k2 (by decide +kernel) (t_hMp k1 (by decide +kernel) hMp)), ⟨rs, ra, dr_n, ps_n, pt_n, nr_n, sm_n, tb, ob, oo, av, ev, ((k2 73 (by decide)).trans ((k1 73 (by decide)).trans x73)), ((k2 74 (by decide)).trans ((k1 74 (by decide)).trans x74)), mc75, mc76, mc77, mc78, mc79, ((k2 80 (by decide)).trans ((k1 80 (by decide)).trans x80)), ((k2 81 (by decide)).trans ((k1 81 (by decide)).trans x81)), ((k2 82 (by decide)).trans ((k1 82 (by decide)).trans x82)), ((k2 83 (by decide)).trans ((k1 83 (by decide)).trans x83)), ((k2 84 (by decide)).trans ((k1 84 (by decide)).trans x84))⟩, (moK_fr hmk mK (by decide)), ((mK 7 (by decide)).trans hF1), (fun q => ((mK 6 (by decide)).trans (hF2 q))), ((mK 11 (by decide)).trans hF3), (fun q => ⟨((mK 12 (by decide)).trans ((hF4 q).1)), ((mK 13 (by decide)).trans ((hF4 q).2))⟩), ⟨((mK 46 (by decide)).trans hF5.1), ((mK 47 (by decide)).trans hF5.2.1), ((mK 48 (by decide)).trans hF5.2.2.1), ((mK 49 (by decide)).trans hF5.2.2.2.1), ((mK 50 (by decide)).trans hF5.2.2.2.2)⟩, ⟨hBb.1, hBb.2.1, rep_B q2 hok q3 hBb.2.2.1, hBb.2.2.2⟩, ⟨hcb.1, hcb.2.1, ⟨by omega, by omega⟩, hcb.2.2.2⟩, ⟨(if_neg (by decide)).trans hsz.1, (if_neg (by decide)).trans hsz.2.1, if_pos rfl, (if_neg (by decide)).trans hsz.2.2.2⟩, (fun i h1 h2 => (mp1 _ (by omega)).trans (ha0 i h1 h2)), (fun i h1 h2 => (mp1 _ (by omega)).trans (ha1 i h1 h2)), (fun i h1 h2 => (rep_ag mp0 q2 i h1 h2).trans (if_pos h1).symm), (fun i h1 h2 => (mp1 _ (by omega)).trans (ha3 i h1 h2)), hmd, hpm, hst⟩
  · skip
    have hd0 : pm = 0 := by have := hpm.1; omega
    have hF3b : F 11 = .int (zI (-1)) := hF3.trans (by rw [if_neg hd])
    refine ⟨_, _, c_Df_encode_no E f bk wi ns n1 n2 P pm pw ps 1 hDf hPl hd0, fun f1 hm => ?_⟩
    obtain rfl := hm.symm
    refine ⟨⟨_, hMo⟩, ?_⟩
    refine CF.mono (c_Mo_encode_no E f F 1 hMo hmk hF3b) ?_
    rintro r f2 ⟨hr, e2⟩
    rw [e2]
    exact ⟨hr, hI⟩
theorem P_decode {E : EV} {st : Int → Int} (hso : stOK st) : PrI E st yn_Df_decode cd_Df_decode 2 (some .int) 5 yn_Mo_decode cd_Mo_decode 4 9 [] := by
  intro f hI
  have hJ := hI
  obtain ⟨bk, wi, ns, n1, n2, g0, c0, g1, c1, g2, c2, g3, c3, W, Fs, L, md, bl, ct, P, pm, pw, ps, F, b, sz, Wm, Am, Lm, mt, ms, ma, mn, hDf, hR0, hR1, hR2, hR3, hDg, hSg, hPl, hMa, hWt, hRd, hMo, hMB, hMk, hMs, hMp, hMx, hmk, hF1, hF2, hF3, hF4, hF5, hBb, hcb, hsz, ha0, ha1, ha2, ha3, hmd, hpm, hst⟩ := hJ
  obtain ⟨i1, i2, i3, i4, ⟨mR, cR, i5, i6, i7, i8⟩, ⟨mT, cT, j1, j2, j3, j4⟩, i9⟩ := hRd
  obtain ⟨rs, ra, dr, qs, qt, nr, sm, tb, ob, oo, av, ev, x73, x74, x75, x76, x77, x78, x79, x80, x81, x82, x83, x84⟩ := hMx
  have hcs := c_Df_decode E f bk wi ns n1 n2 g2 g0 st mR mT g3 c2 c0 cR cT c3 hDf i1 i2 i3 i4 i5 i6 j1 j2 i9 hso.2.1 hso.2.2 hR0 hBb.1 hR2 hBb.2.2.1 hR3 ⟨hcb.2.2.1.1, hcb.2.2.1.2, hcb.1.1, hcb.1.2, hcb.2.2.2.1, hcb.2.2.2.2, i7, i8, j3, j4⟩
  by_cases hl : (dcF g2 c2 st g0 c0 mR mT).1 = 0
  · refine ⟨zI (dcF g2 c2 st g0 c0 mR mT).2.2, (fun f' => isR E f' 8 9 300 (cz (dcF g2 c2 st g0 c0 mR mT).2.1 g3 0 0 (dcF g2 c2 st g0 c0 mR mT).2.2) (dcF g2 c2 st g0 c0 mR mT).2.2 ∧ isB (dcF g2 c2 st g0 c0 mR mT).2.1 ∧ (0 ≤ (dcF g2 c2 st g0 c0 mR mT).2.2 ∧ (dcF g2 c2 st g0 c0 mR mT).2.2 ≤ 300) ∧ rdI E f' st ∧ Fr [8, 9, 44, 45, 46, 47, 48, 51, 52, 53, 54, 55, 56, 57, 58, 59, 60] f f'), hcs.mono (fun r f1 h => by rcases h.1 with h9 | h9; exact ⟨h9.2.1, h9.2.2.1, h9.2.2.2.1, ⟨h9.2.2.2.2.1, h9.2.2.2.2.2⟩, h.2.1, h.2.2⟩; exact absurd hl h9.1), fun f1 hm => ?_⟩
    obtain ⟨q1, q2, q3, q4, k1⟩ := hm
    refine ⟨⟨_, (k1 61 (by decide)).trans hMo⟩, ?_⟩
    refine CF.mono (c_Mo_decode E f1 F b sz g2 st g0 mR mT tb ob oo nr sm av ev ((k1 61 (by decide)).trans hMo) hmk ((k1 63 (by decide)).trans hMB.1) ((k1 64 (by decide)).trans hMB.2) ((k1 80 (by decide)).trans x80) ((k1 81 (by decide)).trans x81) ((k1 82 (by decide)).trans x82) ((k1 78 (by decide)).trans x78) ((k1 79 (by decide)).trans x79) ((k1 83 (by decide)).trans x83) ((k1 84 (by decide)).trans x84) (szO hsz hcb) hBb.2.2.1 (fun i h1 h2 => ha2 i h1 (by omega)) hBb.1 (fun i h1 h2 => by have := ha0 i h1 (by omega); rwa [Int.zero_add] at this) hso.1 hso.2.1 hso.2.2 i6 j2) ?_
    rintro r f2 ⟨F2, r_n, b_n, sz_n, tb_n, ob_n, o_n, nr_n, sm_n, av_n, ev_n, hr, m61, mK, mc63, mc64, mc80, mc81, mc82, mc78, mc79, mc83, mc84, mp0, mp1, mp2, mp3, k2⟩
    rw [hsz.1, hsz.2.2.1] at mp0 mp1 mp2
    obtain ⟨e1, e2, e3⟩ := mp1 hl
    rw [if_pos hl] at mp0
    refine ⟨hr.trans (by rw [mp0]), ?_⟩
    exact ⟨bk, wi, ns, n1, n2, g0, c0, g1, c1, g2, c2, (cz (dcF g2 c2 st g0 c0 mR mT).2.1 g3 0 0 (dcF g2 c2 st g0 c0 mR mT).2.2), ((dcF g2 c2 st g0 c0 mR mT).2.2), W, Fs, L, md, bl, ct, P, pm, pw, ps, F2, b_n, (uz sz 3 (dcF g2 c2 st g0 c0 mR mT).2.2), Wm, Am, Lm, mt, ms, ma, mn, (t_hDf k2 (by decide +kernel) (t_hDf k1 (by decide +kernel) hDf)), (t_hR0 k2 (by decide +kernel) (t_hR0 k1 (by decide +kernel) hR0)), (t_hR1 k2 (by decide +kernel) (t_hR1 k1 (by decide +kernel) hR1)), (t_hR2 k2 (by decide +kernel) (t_hR2 k1 (by decide +kernel) hR2)), (t_hR3 k2 (by decide +kernel) q1), (t_hDg k2 (by decide +kernel) (t_hDg k1 (by decide +kernel) hDg)), (t_hSg k2 (by decide +kernel) (t_hSg k1 (by decide +kernel) hSg)), (t_hPl k2 (by decide +kernel) (t_hPl k1 (by decide +kernel) hPl)), (t_hMa k2 (by decide +kernel) (t_hMa k1 (by decide +kernel) hMa)), (t_hWt k2 (by decide +kernel) (t_hWt k1 (by decide +kernel) hWt)), (t_hRd k2 (by decide +kernel) q4), m61, ⟨mc63, by rw [← e1]; exact mc64⟩, (t_hMk k2 (by decide +kernel) (t_hMk k1 (by decide +kernel) hMk)), (t_hMs k2 (by decide +kernel) (t_hMs k1 (by decide +kernel) hMs)), (t_hMp k2 (by decide +kernel) (t_hMp k1 (by decide +kernel) hMp)), ⟨rs, ra, dr, qs, qt, nr_n, sm_n, tb_n, ob_n, o_n, av_n, ev_n, ((k2 73 (by decide)).trans ((k1 73 (by decide)).trans x73)), ((k2 74 (by decide)).trans ((k1 74 (by decide)).trans x74)), ((k2 75 (by decide)).trans ((k1 75 (by decide)).trans x75)), ((k2 76 (by decide)).trans ((k1 76 (by decide)).trans x76)), ((k2 77 (by decide)).trans ((k1 77 (by decide)).trans x77)), mc78, mc79, mc80, mc81, mc82, mc83, mc84⟩, (moK_fr hmk mK (by decide)), ((mK 7 (by decide)).trans hF1), (fun q => ((mK 6 (by decide)).trans (hF2 q))), ((mK 11 (by decide)).trans hF3), (fun q => ⟨((mK 12 (by decide)).trans ((hF4 q).1)), ((mK 13 (by decide)).trans ((hF4 q).2))⟩), ⟨((mK 46 (by decide)).trans hF5.1), ((mK 47 (by decide)).trans hF5.2.1), ((mK 48 (by decide)).trans hF5.2.2.1), ((mK 49 (by decide)).trans hF5.2.2.2.1), ((mK 50 (by decide)).trans hF5.2.2.2.2)⟩, ⟨hBb.1, hBb.2.1, hBb.2.2.1, isB_cz q2 hBb.2.2.2⟩, ⟨hcb.1, hcb.2.1, hcb.2.2.1, q3⟩, ⟨(if_neg (by decide)).trans hsz.1, (if_neg (by decide)).trans hsz.2.1, (if_neg (by decide)).trans hsz.2.2.1, if_pos rfl⟩, (fun i h1 h2 => (e3 _ (by omega)).trans (ha0 i h1 h2)), (fun i h1 h2 => (e3 _ (by omega)).trans (ha1 i h1 h2)), (fun i h1 h2 => (e3 _ (by omega)).trans (ha2 i h1 h2)), (fun i h1 h2 => (e2 i h1 h2).trans (by unfold cz; rw [if_pos (by omega), show (0 : Int) + (i - 0) = i by omega])), hmd, hpm, hst⟩
  · refine ⟨zI (dcF g2 c2 st g0 c0 mR mT).1, (fun f' => isR E f' 8 9 300 g3 c3 ∧ rdI E f' st ∧ Fr [8, 9, 44, 45, 46, 47, 48, 51, 52, 53, 54, 55, 56, 57, 58, 59, 60] f f'), hcs.mono (fun r f1 h => by rcases h.1 with h9 | h9; exact absurd h9.1 hl; exact ⟨h9.2.2.1, h9.2.2.2, h.2.1, h.2.2⟩), fun f1 hm => ?_⟩
    obtain ⟨q1, q4, k1⟩ := hm
    refine ⟨⟨_, (k1 61 (by decide)).trans hMo⟩, ?_⟩
    refine CF.mono (c_Mo_decode E f1 F b sz g2 st g0 mR mT tb ob oo nr sm av ev ((k1 61 (by decide)).trans hMo) hmk ((k1 63 (by decide)).trans hMB.1) ((k1 64 (by decide)).trans hMB.2) ((k1 80 (by decide)).trans x80) ((k1 81 (by decide)).trans x81) ((k1 82 (by decide)).trans x82) ((k1 78 (by decide)).trans x78) ((k1 79 (by decide)).trans x79) ((k1 83 (by decide)).trans x83) ((k1 84 (by decide)).trans x84) (szO hsz hcb) hBb.2.2.1 (fun i h1 h2 => ha2 i h1 (by omega)) hBb.1 (fun i h1 h2 => by have := ha0 i h1 (by omega); rwa [Int.zero_add] at this) hso.1 hso.2.1 hso.2.2 i6 j2) ?_
    rintro r f2 ⟨F2, r_n, b_n, sz_n, tb_n, ob_n, o_n, nr_n, sm_n, av_n, ev_n, hr, m61, mK, mc63, mc64, mc80, mc81, mc82, mc78, mc79, mc83, mc84, mp0, mp1, mp2, mp3, k2⟩
    rw [hsz.1, hsz.2.2.1] at mp0 mp1 mp2
    obtain ⟨e1, e2⟩ := mp2 hl
    rw [if_neg hl] at mp0
    refine ⟨hr.trans (by rw [mp0]), ?_⟩
    exact ⟨bk, wi, ns, n1, n2, g0, c0, g1, c1, g2, c2, g3, c3, W, Fs, L, md, bl, ct, P, pm, pw, ps, F2, b, sz, Wm, Am, Lm, mt, ms, ma, mn, (t_hDf k2 (by decide +kernel) (t_hDf k1 (by decide +kernel) hDf)), (t_hR0 k2 (by decide +kernel) (t_hR0 k1 (by decide +kernel) hR0)), (t_hR1 k2 (by decide +kernel) (t_hR1 k1 (by decide +kernel) hR1)), (t_hR2 k2 (by decide +kernel) (t_hR2 k1 (by decide +kernel) hR2)), (t_hR3 k2 (by decide +kernel) q1), (t_hDg k2 (by decide +kernel) (t_hDg k1 (by decide +kernel) hDg)), (t_hSg k2 (by decide +kernel) (t_hSg k1 (by decide +kernel) hSg)), (t_hPl k2 (by decide +kernel) (t_hPl k1 (by decide +kernel) hPl)), (t_hMa k2 (by decide +kernel) (t_hMa k1 (by decide +kernel) hMa)), (t_hWt k2 (by decide +kernel) (t_hWt k1 (by decide +kernel) hWt)), (t_hRd k2 (by decide +kernel) q4), m61, ⟨by rw [← e2]; exact mc63, by rw [← e1]; exact mc64⟩, (t_hMk k2 (by decide +kernel) (t_hMk k1 (by decide +kernel) hMk)), (t_hMs k2 (by decide +kernel) (t_hMs k1 (by decide +kernel) hMs)), (t_hMp k2 (by decide +kernel) (t_hMp k1 (by decide +kernel) hMp)), ⟨rs, ra, dr, qs, qt, nr_n, sm_n, tb_n, ob_n, o_n, av_n, ev_n, ((k2 73 (by decide)).trans ((k1 73 (by decide)).trans x73)), ((k2 74 (by decide)).trans ((k1 74 (by decide)).trans x74)), ((k2 75 (by decide)).trans ((k1 75 (by decide)).trans x75)), ((k2 76 (by decide)).trans ((k1 76 (by decide)).trans x76)), ((k2 77 (by decide)).trans ((k1 77 (by decide)).trans x77)), mc78, mc79, mc80, mc81, mc82, mc83, mc84⟩, (moK_fr hmk mK (by decide)), ((mK 7 (by decide)).trans hF1), (fun q => ((mK 6 (by decide)).trans (hF2 q))), ((mK 11 (by decide)).trans hF3), (fun q => ⟨((mK 12 (by decide)).trans ((hF4 q).1)), ((mK 13 (by decide)).trans ((hF4 q).2))⟩), ⟨((mK 46 (by decide)).trans hF5.1), ((mK 47 (by decide)).trans hF5.2.1), ((mK 48 (by decide)).trans hF5.2.2.1), ((mK 49 (by decide)).trans hF5.2.2.2.1), ((mK 50 (by decide)).trans hF5.2.2.2.2)⟩, hBb, hcb, hsz, ha0, ha1, ha2, ha3, hmd, hpm, hst⟩
theorem P_begin {E : EV} {st : Int → Int} (d w : Int) (hd2 : -2147483648 ≤ d ∧ d < 2147483648) (hw2 : -2147483648 ≤ w ∧ w < 2147483648) : PrI E st yn_Df_begin cd_Df_begin 3 (some .boolean) 1 yn_Mo_begin cd_Mo_begin 3 0 [.int (zI d), .int (zI w)] := by
  intro f hI
  have hJ := hI
  obtain ⟨bk, wi, ns, n1, n2, g0, c0, g1, c1, g2, c2, g3, c3, W, Fs, L, md, bl, ct, P, pm, pw, ps, F, b, sz, Wm, Am, Lm, mt, ms, ma, mn, hDf, hR0, hR1, hR2, hR3, hDg, hSg, hPl, hMa, hWt, hRd, hMo, hMB, hMk, hMs, hMp, hMx, hmk, hF1, hF2, hF3, hF4, hF5, hBb, hcb, hsz, ha0, ha1, ha2, ha3, hmd, hpm, hst⟩ := hJ
  have hcs := c_Df_begin E f bk wi ns n1 n2 d w hDf (by omega)
  by_cases hd : (4 ≤ d ∧ d ≤ 64) ∧ 16 ≤ w ∧ w ≤ 256
  · refine ⟨zI 1, (fun f' => isDf E f' d w 0 n1 n2 ∧ Fr [0] f f'), hcs.mono (fun r f1 h => by rw [if_pos hd] at h; exact ⟨h.1.1, h.1.2, h.2⟩), fun f1 hm => ?_⟩
    obtain ⟨q1, k1⟩ := hm
    refine ⟨⟨_, (k1 61 (by decide)).trans hMo⟩, ?_⟩
    refine CF.mono (c_Mo_begin E f1 F d w ((k1 61 (by decide)).trans hMo) hmk hd) ?_
    rintro r f2 ⟨hr, F2, m61, mF47, mF48, mF46, mK, k2⟩
    refine ⟨hr, ?_⟩
    exact ⟨d, w, 0, n1, n2, g0, c0, g1, c1, g2, c2, g3, c3, W, Fs, L, md, bl, ct, P, pm, pw, ps, F2, b, sz, Wm, Am, Lm, mt, ms, ma, mn, (t_hDf k2 (by decide +kernel) q1), (t_hR0 k2 (by decide +kernel) (t_hR0 k1 (by decide +kernel) hR0)), (t_hR1 k2 (by decide +kernel) (t_hR1 k1 (by decide +kernel) hR1)), (t_hR2 k2 (by decide +kernel) (t_hR2 k1 (by decide +kernel) hR2)), (t_hR3 k2 (by decide +kernel) (t_hR3 k1 (by decide +kernel) hR3)), (t_hDg k2 (by decide +kernel) (t_hDg k1 (by decide +kernel) hDg)), (t_hSg k2 (by decide +kernel) (t_hSg k1 (by decide +kernel) hSg)), (t_hPl k2 (by decide +kernel) (t_hPl k1 (by decide +kernel) hPl)), (t_hMa k2 (by decide +kernel) (t_hMa k1 (by decide +kernel) hMa)), (t_hWt k2 (by decide +kernel) (t_hWt k1 (by decide +kernel) hWt)), (t_hRd k2 (by decide +kernel) (t_hRd k1 (by decide +kernel) hRd)), m61, (t_hMB k2 (by decide +kernel) (t_hMB k1 (by decide +kernel) hMB)), (t_hMk k2 (by decide +kernel) (t_hMk k1 (by decide +kernel) hMk)), (t_hMs k2 (by decide +kernel) (t_hMs k1 (by decide +kernel) hMs)), (t_hMp k2 (by decide +kernel) (t_hMp k1 (by decide +kernel) hMp)), (t_hMx k2 (by decide +kernel) (t_hMx k1 (by decide +kernel) hMx)), (moK_fr hmk mK (by decide)), ((mK 7 (by decide)).trans hF1), (fun q => ((mK 6 (by decide)).trans (hF2 q))), ((mK 11 (by decide)).trans hF3), (fun q => ⟨((mK 12 (by decide)).trans ((hF4 q).1)), ((mK 13 (by decide)).trans ((hF4 q).2))⟩), ⟨mF46, mF47, mF48, (mK 49 (by decide)).trans hF5.2.2.2.1, (mK 50 (by decide)).trans hF5.2.2.2.2⟩, hBb, hcb, hsz, ha0, ha1, ha2, ha3, hmd, hpm, ⟨hd.1, hd.2, Or.inl rfl, fun q => absurd rfl q⟩⟩
  · refine ⟨zI 0, (fun f' => isDf E f' bk wi ns n1 n2 ∧ Fr [0] f f'), hcs.mono (fun r f1 h => by rw [if_neg hd] at h; exact ⟨h.1.1, h.1.2, h.2⟩), fun f1 hm => ?_⟩
    obtain ⟨q1, k1⟩ := hm
    refine ⟨⟨_, (k1 61 (by decide)).trans hMo⟩, ?_⟩
    refine CF.mono (c_Mo_begin_no E f1 F d w ((k1 61 (by decide)).trans hMo) hmk hd (by omega)) ?_
    rintro r f2 ⟨hr, e2⟩
    rw [e2]
    refine ⟨hr, ?_⟩
    exact ⟨bk, wi, ns, n1, n2, g0, c0, g1, c1, g2, c2, g3, c3, W, Fs, L, md, bl, ct, P, pm, pw, ps, F, b, sz, Wm, Am, Lm, mt, ms, ma, mn, q1, (t_hR0 k1 (by decide +kernel) hR0), (t_hR1 k1 (by decide +kernel) hR1), (t_hR2 k1 (by decide +kernel) hR2), (t_hR3 k1 (by decide +kernel) hR3), (t_hDg k1 (by decide +kernel) hDg), (t_hSg k1 (by decide +kernel) hSg), (t_hPl k1 (by decide +kernel) hPl), (t_hMa k1 (by decide +kernel) hMa), (t_hWt k1 (by decide +kernel) hWt), (t_hRd k1 (by decide +kernel) hRd), (t_hMo k1 (by decide +kernel) hMo), (t_hMB k1 (by decide +kernel) hMB), (t_hMk k1 (by decide +kernel) hMk), (t_hMs k1 (by decide +kernel) hMs), (t_hMp k1 (by decide +kernel) hMp), (t_hMx k1 (by decide +kernel) hMx), hmk, hF1, hF2, hF3, hF4, hF5, hBb, hcb, hsz, ha0, ha1, ha2, ha3, hmd, hpm, hst⟩
