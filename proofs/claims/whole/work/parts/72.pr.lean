/-! the files, class and model side by side; printed by wip/tools/m_p1.py -/
theorem P_put {E : EV} {st : Int → Int} (k n : Int) (v : Int64) (hk : -2147483648 ≤ k ∧ k < 2147483648) (hn2 : -2147483648 ≤ n ∧ n < 2147483648) : PrI E st yn_Df_put cd_Df_put 6 (some .boolean) 1 yn_Mo_put cd_Mo_put 6 1 [.int (zI k), .long v, .int (zI n)] := by
  intro f hI
  have hJ := hI
  obtain ⟨bk, wi, ns, n1, n2, g0, c0, g1, c1, g2, c2, g3, c3, W, Fs, L, md, bl, ct, P, pm, pw, ps, F, b, sz, Wm, Am, Lm, mt, ms, ma, mn, hDf, hR0, hR1, hR2, hR3, hDg, hSg, hPl, hMa, hWt, hRd, hMo, hMB, hMk, hMs, hMp, hMx, hmk, hF1, hF2, hF3, hF4, hF5, hBb, hcb, hsz, ha0, ha1, ha2, ha3, hmd, hpm, hst⟩ := hJ
  by_cases hf : 0 ≤ k ∧ k ≤ 2
  · rcases (show k = 0 ∨ k = 1 ∨ k = 2 by omega) with q | q | q <;> subst q
    · by_cases hn : 1 ≤ n ∧ n ≤ 8 ∧ c0 + n ≤ 300
      · refine ⟨_, _, c_Df_put_0 E f bk wi ns n1 n2 g0 c0 v n hDf hR0 hcb.1 hn, fun f1 hm => ?_⟩
        obtain ⟨r1, k1⟩ := hm
        refine ⟨⟨_, (k1 61 (by decide)).trans hMo⟩, ?_⟩
        refine CF.mono (c_Mo_put E f1 F 0 n v _ b sz (t_hMo k1 (by decide +kernel) hMo) hmk hF3 (t_hMB k1 (by decide +kernel) hMB).1 (t_hMB k1 (by decide +kernel) hMB).2 (szO hsz hcb) ⟨by decide, hn.1, hn.2.1, by rw [if_neg (by decide)]; omega⟩) ?_
        rintro r f2 ⟨hr, F2, b2, m1, m2, m3, m4, m5, m6, m7, k2⟩
        refine ⟨hr, ?_⟩
        exact ⟨bk, wi, ns, n1, n2, (ptL g0 c0 v n.toNat), (c0 + n), g1, c1, g2, c2, g3, c3, W, Fs, L, md, bl, ct, P, pm, pw, ps, F2, b2, (uz sz 0 (sz 0 + n)), Wm, Am, Lm, mt, ms, ma, mn, (t_hDf k2 (by decide +kernel) (t_hDf k1 (by decide +kernel) hDf)), (t_hR0 k2 (by decide +kernel) r1), (t_hR1 k2 (by decide +kernel) (t_hR1 k1 (by decide +kernel) hR1)), (t_hR2 k2 (by decide +kernel) (t_hR2 k1 (by decide +kernel) hR2)), (t_hR3 k2 (by decide +kernel) (t_hR3 k1 (by decide +kernel) hR3)), (t_hDg k2 (by decide +kernel) (t_hDg k1 (by decide +kernel) hDg)), (t_hSg k2 (by decide +kernel) (t_hSg k1 (by decide +kernel) hSg)), (t_hPl k2 (by decide +kernel) (t_hPl k1 (by decide +kernel) hPl)), (t_hMa k2 (by decide +kernel) (t_hMa k1 (by decide +kernel) hMa)), (t_hWt k2 (by decide +kernel) (t_hWt k1 (by decide +kernel) hWt)), (t_hRd k2 (by decide +kernel) (t_hRd k1 (by decide +kernel) hRd)), m1, ⟨m4, m5⟩, (t_hMk k2 (by decide +kernel) (t_hMk k1 (by decide +kernel) hMk)), (t_hMs k2 (by decide +kernel) (t_hMs k1 (by decide +kernel) hMs)), (t_hMp k2 (by decide +kernel) (t_hMp k1 (by decide +kernel) hMp)), (t_hMx k2 (by decide +kernel) (t_hMx k1 (by decide +kernel) hMx)), (moK_fr hmk m3 (by decide)), ((m3 7 (by decide)).trans hF1), (fun q => ((m3 6 (by decide)).trans (hF2 q))), (m2.trans (by rw [if_neg (by decide)])), (fun q => ⟨((m3 12 (by decide)).trans ((hF4 q).1)), ((m3 13 (by decide)).trans ((hF4 q).2))⟩), ⟨((m3 46 (by decide)).trans hF5.1), ((m3 47 (by decide)).trans hF5.2.1), ((m3 48 (by decide)).trans hF5.2.2.1), ((m3 49 (by decide)).trans hF5.2.2.2.1), ((m3 50 (by decide)).trans hF5.2.2.2.2)⟩, ⟨isB_pt hBb.1 _, hBb.2.1, hBb.2.2.1, hBb.2.2.2⟩, ⟨⟨by omega, by omega⟩, hcb.2.1, hcb.2.2.1, hcb.2.2.2⟩, ⟨(if_pos rfl).trans (by omega), (if_neg (by decide)).trans hsz.2.1, (if_neg (by decide)).trans hsz.2.2.1, (if_neg (by decide)).trans hsz.2.2.2⟩, (ag_put ha0 (by omega) m6 m7), (ag_oth ha1 (by omega) m7), (ag_oth ha2 (by omega) m7), (ag_oth ha3 (by omega) m7), hmd, hpm, hst⟩
      · skip
        refine ⟨_, _, c_Df_put_no0 E f bk wi ns n1 n2 g0 c0 v n hDf hR0 hcb.1 (by omega) hn2, fun f1 hm => ?_⟩
        obtain rfl := hm.symm
        refine ⟨⟨_, hMo⟩, ?_⟩
        refine CF.mono (c_Mo_put_no E f F 0 n v b sz hMo hmk hMB.1 hMB.2 (szO hsz hcb) (Or.inr ⟨by decide, by rw [if_neg (by decide)]; omega⟩) (by omega)) ?_
        rintro r f2 ⟨hr, e2⟩
        rw [e2]
        exact ⟨hr, hI⟩
    · by_cases hn : 1 ≤ n ∧ n ≤ 8 ∧ c1 + n ≤ 300
      · refine ⟨_, _, c_Df_put_1 E f bk wi ns n1 n2 g1 c1 P pm pw ps v n hDf hR1 hcb.2.1 hPl hn, fun f1 hm => ?_⟩
        obtain ⟨r1, p1, k1⟩ := hm
        refine ⟨⟨_, (k1 61 (by decide)).trans hMo⟩, ?_⟩
        refine CF.mono (c_Mo_put E f1 F 1 n v _ b sz (t_hMo k1 (by decide +kernel) hMo) hmk hF3 (t_hMB k1 (by decide +kernel) hMB).1 (t_hMB k1 (by decide +kernel) hMB).2 (szO hsz hcb) ⟨by decide, hn.1, hn.2.1, by rw [if_neg (by decide)]; omega⟩) ?_
        rintro r f2 ⟨hr, F2, b2, m1, m2, m3, m4, m5, m6, m7, k2⟩
        refine ⟨hr, ?_⟩
        exact ⟨bk, wi, ns, n1, n2, g0, c0, (ptL g1 c1 v n.toNat), (c1 + n), g2, c2, g3, c3, W, Fs, L, md, bl, ct, P, 0, pw, ps, F2, b2, (uz sz 1 (sz 1 + n)), Wm, Am, Lm, mt, ms, ma, mn, (t_hDf k2 (by decide +kernel) (t_hDf k1 (by decide +kernel) hDf)), (t_hR0 k2 (by decide +kernel) (t_hR0 k1 (by decide +kernel) hR0)), (t_hR1 k2 (by decide +kernel) r1), (t_hR2 k2 (by decide +kernel) (t_hR2 k1 (by decide +kernel) hR2)), (t_hR3 k2 (by decide +kernel) (t_hR3 k1 (by decide +kernel) hR3)), (t_hDg k2 (by decide +kernel) (t_hDg k1 (by decide +kernel) hDg)), (t_hSg k2 (by decide +kernel) (t_hSg k1 (by decide +kernel) hSg)), (t_hPl k2 (by decide +kernel) p1), (t_hMa k2 (by decide +kernel) (t_hMa k1 (by decide +kernel) hMa)), (t_hWt k2 (by decide +kernel) (t_hWt k1 (by decide +kernel) hWt)), (t_hRd k2 (by decide +kernel) (t_hRd k1 (by decide +kernel) hRd)), m1, ⟨m4, m5⟩, (t_hMk k2 (by decide +kernel) (t_hMk k1 (by decide +kernel) hMk)), (t_hMs k2 (by decide +kernel) (t_hMs k1 (by decide +kernel) hMs)), (t_hMp k2 (by decide +kernel) (t_hMp k1 (by decide +kernel) hMp)), (t_hMx k2 (by decide +kernel) (t_hMx k1 (by decide +kernel) hMx)), (moK_fr hmk m3 (by decide)), ((m3 7 (by decide)).trans hF1), (fun q => ((m3 6 (by decide)).trans (hF2 q))), (m2.trans (by rw [if_pos rfl, if_neg (by decide)])), (fun q => absurd q (by decide)), ⟨((m3 46 (by decide)).trans hF5.1), ((m3 47 (by decide)).trans hF5.2.1), ((m3 48 (by decide)).trans hF5.2.2.1), ((m3 49 (by decide)).trans hF5.2.2.2.1), ((m3 50 (by decide)).trans hF5.2.2.2.2)⟩, ⟨hBb.1, isB_pt hBb.2.1 _, hBb.2.2.1, hBb.2.2.2⟩, ⟨hcb.1, ⟨by omega, by omega⟩, hcb.2.2.1, hcb.2.2.2⟩, ⟨(if_neg (by decide)).trans hsz.1, (if_pos rfl).trans (by omega), (if_neg (by decide)).trans hsz.2.2.1, (if_neg (by decide)).trans hsz.2.2.2⟩, (ag_oth ha0 (by omega) m7), (ag_put ha1 (by omega) m6 m7), (ag_oth ha2 (by omega) m7), (ag_oth ha3 (by omega) m7), hmd, ⟨Or.inl rfl, hpm.2.1, hpm.2.2.1, fun q => absurd q (by decide)⟩, hst⟩
      · skip
        refine ⟨_, _, c_Df_put_no1 E f bk wi ns n1 n2 g1 c1 P pm pw ps v n hDf hR1 hcb.2.1 hPl (by omega) hn2, fun f1 hm => ?_⟩
        obtain rfl := hm.symm
        refine ⟨⟨_, hMo⟩, ?_⟩
        refine CF.mono (c_Mo_put_no E f F 1 n v b sz hMo hmk hMB.1 hMB.2 (szO hsz hcb) (Or.inr ⟨by decide, by rw [if_neg (by decide)]; omega⟩) (by omega)) ?_
        rintro r f2 ⟨hr, e2⟩
        rw [e2]
        exact ⟨hr, hI⟩
    · by_cases hn : 1 ≤ n ∧ n ≤ 8 ∧ c2 + n ≤ 700
      · refine ⟨_, _, c_Df_put_2 E f bk wi ns n1 n2 g2 c2 v n hDf hR2 hcb.2.2.1 hn, fun f1 hm => ?_⟩
        obtain ⟨r1, k1⟩ := hm
        refine ⟨⟨_, (k1 61 (by decide)).trans hMo⟩, ?_⟩
        refine CF.mono (c_Mo_put E f1 F 2 n v _ b sz (t_hMo k1 (by decide +kernel) hMo) hmk hF3 (t_hMB k1 (by decide +kernel) hMB).1 (t_hMB k1 (by decide +kernel) hMB).2 (szO hsz hcb) ⟨by decide, hn.1, hn.2.1, by rw [if_pos rfl]; omega⟩) ?_
        rintro r f2 ⟨hr, F2, b2, m1, m2, m3, m4, m5, m6, m7, k2⟩
        refine ⟨hr, ?_⟩
        exact ⟨bk, wi, ns, n1, n2, g0, c0, g1, c1, (ptL g2 c2 v n.toNat), (c2 + n), g3, c3, W, Fs, L, md, bl, ct, P, pm, pw, ps, F2, b2, (uz sz 2 (sz 2 + n)), Wm, Am, Lm, mt, ms, ma, mn, (t_hDf k2 (by decide +kernel) (t_hDf k1 (by decide +kernel) hDf)), (t_hR0 k2 (by decide +kernel) (t_hR0 k1 (by decide +kernel) hR0)), (t_hR1 k2 (by decide +kernel) (t_hR1 k1 (by decide +kernel) hR1)), (t_hR2 k2 (by decide +kernel) r1), (t_hR3 k2 (by decide +kernel) (t_hR3 k1 (by decide +kernel) hR3)), (t_hDg k2 (by decide +kernel) (t_hDg k1 (by decide +kernel) hDg)), (t_hSg k2 (by decide +kernel) (t_hSg k1 (by decide +kernel) hSg)), (t_hPl k2 (by decide +kernel) (t_hPl k1 (by decide +kernel) hPl)), (t_hMa k2 (by decide +kernel) (t_hMa k1 (by decide +kernel) hMa)), (t_hWt k2 (by decide +kernel) (t_hWt k1 (by decide +kernel) hWt)), (t_hRd k2 (by decide +kernel) (t_hRd k1 (by decide +kernel) hRd)), m1, ⟨m4, m5⟩, (t_hMk k2 (by decide +kernel) (t_hMk k1 (by decide +kernel) hMk)), (t_hMs k2 (by decide +kernel) (t_hMs k1 (by decide +kernel) hMs)), (t_hMp k2 (by decide +kernel) (t_hMp k1 (by decide +kernel) hMp)), (t_hMx k2 (by decide +kernel) (t_hMx k1 (by decide +kernel) hMx)), (moK_fr hmk m3 (by decide)), ((m3 7 (by decide)).trans hF1), (fun q => ((m3 6 (by decide)).trans (hF2 q))), (m2.trans (by rw [if_neg (by decide)])), (fun q => ⟨((m3 12 (by decide)).trans ((hF4 q).1)), ((m3 13 (by decide)).trans ((hF4 q).2))⟩), ⟨((m3 46 (by decide)).trans hF5.1), ((m3 47 (by decide)).trans hF5.2.1), ((m3 48 (by decide)).trans hF5.2.2.1), ((m3 49 (by decide)).trans hF5.2.2.2.1), ((m3 50 (by decide)).trans hF5.2.2.2.2)⟩, ⟨hBb.1, hBb.2.1, isB_pt hBb.2.2.1 _, hBb.2.2.2⟩, ⟨hcb.1, hcb.2.1, ⟨by omega, by omega⟩, hcb.2.2.2⟩, ⟨(if_neg (by decide)).trans hsz.1, (if_neg (by decide)).trans hsz.2.1, (if_pos rfl).trans (by omega), (if_neg (by decide)).trans hsz.2.2.2⟩, (ag_oth ha0 (by omega) m7), (ag_oth ha1 (by omega) m7), (ag_put ha2 (by omega) m6 m7), (ag_oth ha3 (by omega) m7), hmd, hpm, hst⟩
      · skip
        refine ⟨_, _, c_Df_put_no2 E f bk wi ns n1 n2 g2 c2 v n hDf hR2 hcb.2.2.1 (by omega) hn2, fun f1 hm => ?_⟩
        obtain rfl := hm.symm
        refine ⟨⟨_, hMo⟩, ?_⟩
        refine CF.mono (c_Mo_put_no E f F 2 n v b sz hMo hmk hMB.1 hMB.2 (szO hsz hcb) (Or.inr ⟨by decide, by rw [if_pos rfl]; omega⟩) (by omega)) ?_
        rintro r f2 ⟨hr, e2⟩
        rw [e2]
        exact ⟨hr, hI⟩
  · skip
    refine ⟨_, _, c_Df_put_nf E f bk wi ns n1 n2 k n v hDf (by omega) hk, fun f1 hm => ?_⟩
    obtain rfl := hm.symm
    refine ⟨⟨_, hMo⟩, ?_⟩
    refine CF.mono (c_Mo_put_no E f F k n v b sz hMo hmk hMB.1 hMB.2 (szO hsz hcb) (Or.inl (by omega)) (by omega)) ?_
    rintro r f2 ⟨hr, e2⟩
    rw [e2]
    exact ⟨hr, hI⟩
theorem P_set {E : EV} {st : Int → Int} (k n x : Int) (hk : -2147483648 ≤ k ∧ k < 2147483648) (hn2 : -2147483648 ≤ n ∧ n < 2147483648) : PrI E st yn_Df_set cd_Df_set 4 (some .boolean) 1 yn_Mo_set cd_Mo_set 4 1 [.int (zI k), .int (zI n), .int (zI x)] := by
  intro f hI
  have hJ := hI
  obtain ⟨bk, wi, ns, n1, n2, g0, c0, g1, c1, g2, c2, g3, c3, W, Fs, L, md, bl, ct, P, pm, pw, ps, F, b, sz, Wm, Am, Lm, mt, ms, ma, mn, hDf, hR0, hR1, hR2, hR3, hDg, hSg, hPl, hMa, hWt, hRd, hMo, hMB, hMk, hMs, hMp, hMx, hmk, hF1, hF2, hF3, hF4, hF5, hBb, hcb, hsz, ha0, ha1, ha2, ha3, hmd, hpm, hst⟩ := hJ
  by_cases hf : 0 ≤ k ∧ k ≤ 2
  · rcases (show k = 0 ∨ k = 1 ∨ k = 2 by omega) with q | q | q <;> subst q
    · by_cases hn : 0 ≤ n ∧ n < c0
      · refine ⟨_, _, c_Df_set_0 E f bk wi ns n1 n2 g0 c0 n x hDf hR0 hcb.1 hn, fun f1 hm => ?_⟩
        obtain ⟨r1, k1⟩ := hm
        refine ⟨⟨_, (k1 61 (by decide)).trans hMo⟩, ?_⟩
        refine CF.mono (c_Mo_set E f1 F 0 n x _ b sz (t_hMo k1 (by decide +kernel) hMo) hmk hF3 (t_hMB k1 (by decide +kernel) hMB).1 (t_hMB k1 (by decide +kernel) hMB).2 (szO hsz hcb) ⟨by decide, hn.1, by omega⟩) ?_
        rintro r f2 ⟨hr, F2, m1, m2, m3, m4, k2⟩
        refine ⟨hr, ?_⟩
        exact ⟨bk, wi, ns, n1, n2, (uz g0 n (x % 256)), c0, g1, c1, g2, c2, g3, c3, W, Fs, L, md, bl, ct, P, pm, pw, ps, F2, (uz b (300 * 0 + n) (x % 256)), sz, Wm, Am, Lm, mt, ms, ma, mn, (t_hDf k2 (by decide +kernel) (t_hDf k1 (by decide +kernel) hDf)), (t_hR0 k2 (by decide +kernel) r1), (t_hR1 k2 (by decide +kernel) (t_hR1 k1 (by decide +kernel) hR1)), (t_hR2 k2 (by decide +kernel) (t_hR2 k1 (by decide +kernel) hR2)), (t_hR3 k2 (by decide +kernel) (t_hR3 k1 (by decide +kernel) hR3)), (t_hDg k2 (by decide +kernel) (t_hDg k1 (by decide +kernel) hDg)), (t_hSg k2 (by decide +kernel) (t_hSg k1 (by decide +kernel) hSg)), (t_hPl k2 (by decide +kernel) (t_hPl k1 (by decide +kernel) hPl)), (t_hMa k2 (by decide +kernel) (t_hMa k1 (by decide +kernel) hMa)), (t_hWt k2 (by decide +kernel) (t_hWt k1 (by decide +kernel) hWt)), (t_hRd k2 (by decide +kernel) (t_hRd k1 (by decide +kernel) hRd)), m1, ⟨m4, (k2 64 (by decide)).trans (t_hMB k1 (by decide +kernel) hMB).2⟩, (t_hMk k2 (by decide +kernel) (t_hMk k1 (by decide +kernel) hMk)), (t_hMs k2 (by decide +kernel) (t_hMs k1 (by decide +kernel) hMs)), (t_hMp k2 (by decide +kernel) (t_hMp k1 (by decide +kernel) hMp)), (t_hMx k2 (by decide +kernel) (t_hMx k1 (by decide +kernel) hMx)), (moK_fr hmk m3 (by decide)), ((m3 7 (by decide)).trans hF1), (fun q => ((m3 6 (by decide)).trans (hF2 q))), (m2.trans (by rw [if_neg (by decide)])), (fun q => ⟨((m3 12 (by decide)).trans ((hF4 q).1)), ((m3 13 (by decide)).trans ((hF4 q).2))⟩), ⟨((m3 46 (by decide)).trans hF5.1), ((m3 47 (by decide)).trans hF5.2.1), ((m3 48 (by decide)).trans hF5.2.2.1), ((m3 49 (by decide)).trans hF5.2.2.2.1), ((m3 50 (by decide)).trans hF5.2.2.2.2)⟩, ⟨isB_uz hBb.1 (by omega), hBb.2.1, hBb.2.2.1, hBb.2.2.2⟩, hcb, hsz, (ag_set ha0 (by omega)), (ag_so ha1 (by omega)), (ag_so ha2 (by omega)), (ag_so ha3 (by omega)), hmd, hpm, hst⟩
      · skip
        refine ⟨_, _, c_Df_set_no0 E f bk wi ns n1 n2 g0 c0 n x hDf hR0 hcb.1 (by omega) hn2, fun f1 hm => ?_⟩
        obtain rfl := hm.symm
        refine ⟨⟨_, hMo⟩, ?_⟩
        refine CF.mono (c_Mo_set_no E f F 0 n x b sz hMo hmk hMB.1 hMB.2 (szO hsz hcb) (Or.inr ⟨by decide, by omega⟩) (by omega)) ?_
        rintro r f2 ⟨hr, e2⟩
        rw [e2]
        exact ⟨hr, hI⟩
    · by_cases hn : 0 ≤ n ∧ n < c1
      · refine ⟨_, _, c_Df_set_1 E f bk wi ns n1 n2 g1 c1 P pm pw ps n x hDf hR1 hcb.2.1 hPl hn, fun f1 hm => ?_⟩
        obtain ⟨r1, p1, k1⟩ := hm
        refine ⟨⟨_, (k1 61 (by decide)).trans hMo⟩, ?_⟩
        refine CF.mono (c_Mo_set E f1 F 1 n x _ b sz (t_hMo k1 (by decide +kernel) hMo) hmk hF3 (t_hMB k1 (by decide +kernel) hMB).1 (t_hMB k1 (by decide +kernel) hMB).2 (szO hsz hcb) ⟨by decide, hn.1, by omega⟩) ?_
        rintro r f2 ⟨hr, F2, m1, m2, m3, m4, k2⟩
        refine ⟨hr, ?_⟩
        exact ⟨bk, wi, ns, n1, n2, g0, c0, (uz g1 n (x % 256)), c1, g2, c2, g3, c3, W, Fs, L, md, bl, ct, P, 0, pw, ps, F2, (uz b (300 * 1 + n) (x % 256)), sz, Wm, Am, Lm, mt, ms, ma, mn, (t_hDf k2 (by decide +kernel) (t_hDf k1 (by decide +kernel) hDf)), (t_hR0 k2 (by decide +kernel) (t_hR0 k1 (by decide +kernel) hR0)), (t_hR1 k2 (by decide +kernel) r1), (t_hR2 k2 (by decide +kernel) (t_hR2 k1 (by decide +kernel) hR2)), (t_hR3 k2 (by decide +kernel) (t_hR3 k1 (by decide +kernel) hR3)), (t_hDg k2 (by decide +kernel) (t_hDg k1 (by decide +kernel) hDg)), (t_hSg k2 (by decide +kernel) (t_hSg k1 (by decide +kernel) hSg)), (t_hPl k2 (by decide +kernel) p1), (t_hMa k2 (by decide +kernel) (t_hMa k1 (by decide +kernel) hMa)), (t_hWt k2 (by decide +kernel) (t_hWt k1 (by decide +kernel) hWt)), (t_hRd k2 (by decide +kernel) (t_hRd k1 (by decide +kernel) hRd)), m1, ⟨m4, (k2 64 (by decide)).trans (t_hMB k1 (by decide +kernel) hMB).2⟩, (t_hMk k2 (by decide +kernel) (t_hMk k1 (by decide +kernel) hMk)), (t_hMs k2 (by decide +kernel) (t_hMs k1 (by decide +kernel) hMs)), (t_hMp k2 (by decide +kernel) (t_hMp k1 (by decide +kernel) hMp)), (t_hMx k2 (by decide +kernel) (t_hMx k1 (by decide +kernel) hMx)), (moK_fr hmk m3 (by decide)), ((m3 7 (by decide)).trans hF1), (fun q => ((m3 6 (by decide)).trans (hF2 q))), (m2.trans (by rw [if_pos rfl, if_neg (by decide)])), (fun q => absurd q (by decide)), ⟨((m3 46 (by decide)).trans hF5.1), ((m3 47 (by decide)).trans hF5.2.1), ((m3 48 (by decide)).trans hF5.2.2.1), ((m3 49 (by decide)).trans hF5.2.2.2.1), ((m3 50 (by decide)).trans hF5.2.2.2.2)⟩, ⟨hBb.1, isB_uz hBb.2.1 (by omega), hBb.2.2.1, hBb.2.2.2⟩, hcb, hsz, (ag_so ha0 (by omega)), (ag_set ha1 (by omega)), (ag_so ha2 (by omega)), (ag_so ha3 (by omega)), hmd, ⟨Or.inl rfl, hpm.2.1, hpm.2.2.1, fun q => absurd q (by decide)⟩, hst⟩
      · skip
        refine ⟨_, _, c_Df_set_no1 E f bk wi ns n1 n2 g1 c1 P pm pw ps n x hDf hR1 hcb.2.1 hPl (by omega) hn2, fun f1 hm => ?_⟩
        obtain rfl := hm.symm
        refine ⟨⟨_, hMo⟩, ?_⟩
        refine CF.mono (c_Mo_set_no E f F 1 n x b sz hMo hmk hMB.1 hMB.2 (szO hsz hcb) (Or.inr ⟨by decide, by omega⟩) (by omega)) ?_
        rintro r f2 ⟨hr, e2⟩
        rw [e2]
        exact ⟨hr, hI⟩
    · by_cases hn : 0 ≤ n ∧ n < c2
      · refine ⟨_, _, c_Df_set_2 E f bk wi ns n1 n2 g2 c2 n x hDf hR2 hcb.2.2.1 hn, fun f1 hm => ?_⟩
        obtain ⟨r1, k1⟩ := hm
        refine ⟨⟨_, (k1 61 (by decide)).trans hMo⟩, ?_⟩
        refine CF.mono (c_Mo_set E f1 F 2 n x _ b sz (t_hMo k1 (by decide +kernel) hMo) hmk hF3 (t_hMB k1 (by decide +kernel) hMB).1 (t_hMB k1 (by decide +kernel) hMB).2 (szO hsz hcb) ⟨by decide, hn.1, by omega⟩) ?_
        rintro r f2 ⟨hr, F2, m1, m2, m3, m4, k2⟩
        refine ⟨hr, ?_⟩
        exact ⟨bk, wi, ns, n1, n2, g0, c0, g1, c1, (uz g2 n (x % 256)), c2, g3, c3, W, Fs, L, md, bl, ct, P, pm, pw, ps, F2, (uz b (300 * 2 + n) (x % 256)), sz, Wm, Am, Lm, mt, ms, ma, mn, (t_hDf k2 (by decide +kernel) (t_hDf k1 (by decide +kernel) hDf)), (t_hR0 k2 (by decide +kernel) (t_hR0 k1 (by decide +kernel) hR0)), (t_hR1 k2 (by decide +kernel) (t_hR1 k1 (by decide +kernel) hR1)), (t_hR2 k2 (by decide +kernel) r1), (t_hR3 k2 (by decide +kernel) (t_hR3 k1 (by decide +kernel) hR3)), (t_hDg k2 (by decide +kernel) (t_hDg k1 (by decide +kernel) hDg)), (t_hSg k2 (by decide +kernel) (t_hSg k1 (by decide +kernel) hSg)), (t_hPl k2 (by decide +kernel) (t_hPl k1 (by decide +kernel) hPl)), (t_hMa k2 (by decide +kernel) (t_hMa k1 (by decide +kernel) hMa)), (t_hWt k2 (by decide +kernel) (t_hWt k1 (by decide +kernel) hWt)), (t_hRd k2 (by decide +kernel) (t_hRd k1 (by decide +kernel) hRd)), m1, ⟨m4, (k2 64 (by decide)).trans (t_hMB k1 (by decide +kernel) hMB).2⟩, (t_hMk k2 (by decide +kernel) (t_hMk k1 (by decide +kernel) hMk)), (t_hMs k2 (by decide +kernel) (t_hMs k1 (by decide +kernel) hMs)), (t_hMp k2 (by decide +kernel) (t_hMp k1 (by decide +kernel) hMp)), (t_hMx k2 (by decide +kernel) (t_hMx k1 (by decide +kernel) hMx)), (moK_fr hmk m3 (by decide)), ((m3 7 (by decide)).trans hF1), (fun q => ((m3 6 (by decide)).trans (hF2 q))), (m2.trans (by rw [if_neg (by decide)])), (fun q => ⟨((m3 12 (by decide)).trans ((hF4 q).1)), ((m3 13 (by decide)).trans ((hF4 q).2))⟩), ⟨((m3 46 (by decide)).trans hF5.1), ((m3 47 (by decide)).trans hF5.2.1), ((m3 48 (by decide)).trans hF5.2.2.1), ((m3 49 (by decide)).trans hF5.2.2.2.1), ((m3 50 (by decide)).trans hF5.2.2.2.2)⟩, ⟨hBb.1, hBb.2.1, isB_uz hBb.2.2.1 (by omega), hBb.2.2.2⟩, hcb, hsz, (ag_so ha0 (by omega)), (ag_so ha1 (by omega)), (ag_set ha2 (by omega)), (ag_so ha3 (by omega)), hmd, hpm, hst⟩
      · skip
        refine ⟨_, _, c_Df_set_no2 E f bk wi ns n1 n2 g2 c2 n x hDf hR2 hcb.2.2.1 (by omega) hn2, fun f1 hm => ?_⟩
        obtain rfl := hm.symm
        refine ⟨⟨_, hMo⟩, ?_⟩
        refine CF.mono (c_Mo_set_no E f F 2 n x b sz hMo hmk hMB.1 hMB.2 (szO hsz hcb) (Or.inr ⟨by decide, by omega⟩) (by omega)) ?_
        rintro r f2 ⟨hr, e2⟩
        rw [e2]
        exact ⟨hr, hI⟩
  · skip
    refine ⟨_, _, c_Df_set_nf E f bk wi ns n1 n2 k n x hDf (by omega) hk, fun f1 hm => ?_⟩
    obtain rfl := hm.symm
    refine ⟨⟨_, hMo⟩, ?_⟩
    refine CF.mono (c_Mo_set_no E f F k n x b sz hMo hmk hMB.1 hMB.2 (szO hsz hcb) (Or.inl (by omega)) (by omega)) ?_
    rintro r f2 ⟨hr, e2⟩
    rw [e2]
    exact ⟨hr, hI⟩
theorem P_clear {E : EV} {st : Int → Int} (k : Int) (hk : -2147483648 ≤ k ∧ k < 2147483648) : PrI E st yn_Df_clear cd_Df_clear 3 (some .int) 1 yn_Mo_clear cd_Mo_clear 3 1 [.int (zI k)] := by
  intro f hI
  have hJ := hI
  obtain ⟨bk, wi, ns, n1, n2, g0, c0, g1, c1, g2, c2, g3, c3, W, Fs, L, md, bl, ct, P, pm, pw, ps, F, b, sz, Wm, Am, Lm, mt, ms, ma, mn, hDf, hR0, hR1, hR2, hR3, hDg, hSg, hPl, hMa, hWt, hRd, hMo, hMB, hMk, hMs, hMp, hMx, hmk, hF1, hF2, hF3, hF4, hF5, hBb, hcb, hsz, ha0, ha1, ha2, ha3, hmd, hpm, hst⟩ := hJ
  by_cases hf : 0 ≤ k ∧ k ≤ 3
  · rcases (show k = 0 ∨ k = 1 ∨ k = 2 ∨ k = 3 by omega) with q | q | q | q <;> subst q
    · refine ⟨_, _, c_Df_clear_0 E f bk wi ns n1 n2 g0 c0 hDf hR0 hcb.1, fun f1 hm => ?_⟩
      obtain ⟨r1, k1⟩ := hm
      refine ⟨⟨_, (k1 61 (by decide)).trans hMo⟩, ?_⟩
      refine CF.mono (c_Mo_clear E f1 F 0 _ b sz (t_hMo k1 (by decide +kernel) hMo) hmk hF3 (t_hMB k1 (by decide +kernel) hMB).1 (t_hMB k1 (by decide +kernel) hMB).2 (szO hsz hcb) (by decide)) ?_
      rintro r f2 ⟨hr, F2, m1, m2, m3, m4, k2⟩
      refine ⟨hr.trans (by rw [hsz.1]), ?_⟩
      exact ⟨bk, wi, ns, n1, n2, g0, 0, g1, c1, g2, c2, g3, c3, W, Fs, L, md, bl, ct, P, pm, pw, ps, F2, b, (uz sz 0 0), Wm, Am, Lm, mt, ms, ma, mn, (t_hDf k2 (by decide +kernel) (t_hDf k1 (by decide +kernel) hDf)), (t_hR0 k2 (by decide +kernel) r1), (t_hR1 k2 (by decide +kernel) (t_hR1 k1 (by decide +kernel) hR1)), (t_hR2 k2 (by decide +kernel) (t_hR2 k1 (by decide +kernel) hR2)), (t_hR3 k2 (by decide +kernel) (t_hR3 k1 (by decide +kernel) hR3)), (t_hDg k2 (by decide +kernel) (t_hDg k1 (by decide +kernel) hDg)), (t_hSg k2 (by decide +kernel) (t_hSg k1 (by decide +kernel) hSg)), (t_hPl k2 (by decide +kernel) (t_hPl k1 (by decide +kernel) hPl)), (t_hMa k2 (by decide +kernel) (t_hMa k1 (by decide +kernel) hMa)), (t_hWt k2 (by decide +kernel) (t_hWt k1 (by decide +kernel) hWt)), (t_hRd k2 (by decide +kernel) (t_hRd k1 (by decide +kernel) hRd)), m1, ⟨(k2 63 (by decide)).trans (t_hMB k1 (by decide +kernel) hMB).1, m4⟩, (t_hMk k2 (by decide +kernel) (t_hMk k1 (by decide +kernel) hMk)), (t_hMs k2 (by decide +kernel) (t_hMs k1 (by decide +kernel) hMs)), (t_hMp k2 (by decide +kernel) (t_hMp k1 (by decide +kernel) hMp)), (t_hMx k2 (by decide +kernel) (t_hMx k1 (by decide +kernel) hMx)), (moK_fr hmk m3 (by decide)), ((m3 7 (by decide)).trans hF1), (fun q => ((m3 6 (by decide)).trans (hF2 q))), (m2.trans (by rw [if_neg (by decide)])), (fun q => ⟨((m3 12 (by decide)).trans ((hF4 q).1)), ((m3 13 (by decide)).trans ((hF4 q).2))⟩), ⟨((m3 46 (by decide)).trans hF5.1), ((m3 47 (by decide)).trans hF5.2.1), ((m3 48 (by decide)).trans hF5.2.2.1), ((m3 49 (by decide)).trans hF5.2.2.2.1), ((m3 50 (by decide)).trans hF5.2.2.2.2)⟩, hBb, ⟨⟨by decide, by decide⟩, hcb.2.1, hcb.2.2.1, hcb.2.2.2⟩, ⟨if_pos rfl, (if_neg (by decide)).trans hsz.2.1, (if_neg (by decide)).trans hsz.2.2.1, (if_neg (by decide)).trans hsz.2.2.2⟩, ag_0, ha1, ha2, ha3, hmd, hpm, hst⟩
    · refine ⟨_, _, c_Df_clear_1 E f bk wi ns n1 n2 g1 c1 P pm pw ps hDf hR1 hcb.2.1 hPl, fun f1 hm => ?_⟩
      obtain ⟨r1, p1, k1⟩ := hm
      refine ⟨⟨_, (k1 61 (by decide)).trans hMo⟩, ?_⟩
      refine CF.mono (c_Mo_clear E f1 F 1 _ b sz (t_hMo k1 (by decide +kernel) hMo) hmk hF3 (t_hMB k1 (by decide +kernel) hMB).1 (t_hMB k1 (by decide +kernel) hMB).2 (szO hsz hcb) (by decide)) ?_
      rintro r f2 ⟨hr, F2, m1, m2, m3, m4, k2⟩
      refine ⟨hr.trans (by rw [hsz.2.1]), ?_⟩
      exact ⟨bk, wi, ns, n1, n2, g0, c0, g1, 0, g2, c2, g3, c3, W, Fs, L, md, bl, ct, P, 0, pw, ps, F2, b, (uz sz 1 0), Wm, Am, Lm, mt, ms, ma, mn, (t_hDf k2 (by decide +kernel) (t_hDf k1 (by decide +kernel) hDf)), (t_hR0 k2 (by decide +kernel) (t_hR0 k1 (by decide +kernel) hR0)), (t_hR1 k2 (by decide +kernel) r1), (t_hR2 k2 (by decide +kernel) (t_hR2 k1 (by decide +kernel) hR2)), (t_hR3 k2 (by decide +kernel) (t_hR3 k1 (by decide +kernel) hR3)), (t_hDg k2 (by decide +kernel) (t_hDg k1 (by decide +kernel) hDg)), (t_hSg k2 (by decide +kernel) (t_hSg k1 (by decide +kernel) hSg)), (t_hPl k2 (by decide +kernel) p1), (t_hMa k2 (by decide +kernel) (t_hMa k1 (by decide +kernel) hMa)), (t_hWt k2 (by decide +kernel) (t_hWt k1 (by decide +kernel) hWt)), (t_hRd k2 (by decide +kernel) (t_hRd k1 (by decide +kernel) hRd)), m1, ⟨(k2 63 (by decide)).trans (t_hMB k1 (by decide +kernel) hMB).1, m4⟩, (t_hMk k2 (by decide +kernel) (t_hMk k1 (by decide +kernel) hMk)), (t_hMs k2 (by decide +kernel) (t_hMs k1 (by decide +kernel) hMs)), (t_hMp k2 (by decide +kernel) (t_hMp k1 (by decide +kernel) hMp)), (t_hMx k2 (by decide +kernel) (t_hMx k1 (by decide +kernel) hMx)), (moK_fr hmk m3 (by decide)), ((m3 7 (by decide)).trans hF1), (fun q => ((m3 6 (by decide)).trans (hF2 q))), (m2.trans (by rw [if_pos rfl, if_neg (by decide)])), (fun q => absurd q (by decide)), ⟨((m3 46 (by decide)).trans hF5.1), ((m3 47 (by decide)).trans hF5.2.1), ((m3 48 (by decide)).trans hF5.2.2.1), ((m3 49 (by decide)).trans hF5.2.2.2.1), ((m3 50 (by decide)).trans hF5.2.2.2.2)⟩, hBb, ⟨hcb.1, ⟨by decide, by decide⟩, hcb.2.2.1, hcb.2.2.2⟩, ⟨(if_neg (by decide)).trans hsz.1, if_pos rfl, (if_neg (by decide)).trans hsz.2.2.1, (if_neg (by decide)).trans hsz.2.2.2⟩, ha0, ag_0, ha2, ha3, hmd, ⟨Or.inl rfl, hpm.2.1, hpm.2.2.1, fun q => absurd q (by decide)⟩, hst⟩
    · refine ⟨_, _, c_Df_clear_2 E f bk wi ns n1 n2 g2 c2 hDf hR2 hcb.2.2.1, fun f1 hm => ?_⟩
      obtain ⟨r1, k1⟩ := hm
      refine ⟨⟨_, (k1 61 (by decide)).trans hMo⟩, ?_⟩
      refine CF.mono (c_Mo_clear E f1 F 2 _ b sz (t_hMo k1 (by decide +kernel) hMo) hmk hF3 (t_hMB k1 (by decide +kernel) hMB).1 (t_hMB k1 (by decide +kernel) hMB).2 (szO hsz hcb) (by decide)) ?_
      rintro r f2 ⟨hr, F2, m1, m2, m3, m4, k2⟩
      refine ⟨hr.trans (by rw [hsz.2.2.1]), ?_⟩
      exact ⟨bk, wi, ns, n1, n2, g0, c0, g1, c1, g2, 0, g3, c3, W, Fs, L, md, bl, ct, P, pm, pw, ps, F2, b, (uz sz 2 0), Wm, Am, Lm, mt, ms, ma, mn, (t_hDf k2 (by decide +kernel) (t_hDf k1 (by decide +kernel) hDf)), (t_hR0 k2 (by decide +kernel) (t_hR0 k1 (by decide +kernel) hR0)), (t_hR1 k2 (by decide +kernel) (t_hR1 k1 (by decide +kernel) hR1)), (t_hR2 k2 (by decide +kernel) r1), (t_hR3 k2 (by decide +kernel) (t_hR3 k1 (by decide +kernel) hR3)), (t_hDg k2 (by decide +kernel) (t_hDg k1 (by decide +kernel) hDg)), (t_hSg k2 (by decide +kernel) (t_hSg k1 (by decide +kernel) hSg)), (t_hPl k2 (by decide +kernel) (t_hPl k1 (by decide +kernel) hPl)), (t_hMa k2 (by decide +kernel) (t_hMa k1 (by decide +kernel) hMa)), (t_hWt k2 (by decide +kernel) (t_hWt k1 (by decide +kernel) hWt)), (t_hRd k2 (by decide +kernel) (t_hRd k1 (by decide +kernel) hRd)), m1, ⟨(k2 63 (by decide)).trans (t_hMB k1 (by decide +kernel) hMB).1, m4⟩, (t_hMk k2 (by decide +kernel) (t_hMk k1 (by decide +kernel) hMk)), (t_hMs k2 (by decide +kernel) (t_hMs k1 (by decide +kernel) hMs)), (t_hMp k2 (by decide +kernel) (t_hMp k1 (by decide +kernel) hMp)), (t_hMx k2 (by decide +kernel) (t_hMx k1 (by decide +kernel) hMx)), (moK_fr hmk m3 (by decide)), ((m3 7 (by decide)).trans hF1), (fun q => ((m3 6 (by decide)).trans (hF2 q))), (m2.trans (by rw [if_neg (by decide)])), (fun q => ⟨((m3 12 (by decide)).trans ((hF4 q).1)), ((m3 13 (by decide)).trans ((hF4 q).2))⟩), ⟨((m3 46 (by decide)).trans hF5.1), ((m3 47 (by decide)).trans hF5.2.1), ((m3 48 (by decide)).trans hF5.2.2.1), ((m3 49 (by decide)).trans hF5.2.2.2.1), ((m3 50 (by decide)).trans hF5.2.2.2.2)⟩, hBb, ⟨hcb.1, hcb.2.1, ⟨by decide, by decide⟩, hcb.2.2.2⟩, ⟨(if_neg (by decide)).trans hsz.1, (if_neg (by decide)).trans hsz.2.1, if_pos rfl, (if_neg (by decide)).trans hsz.2.2.2⟩, ha0, ha1, ag_0, ha3, hmd, hpm, hst⟩
    · refine ⟨_, _, c_Df_clear_3 E f bk wi ns n1 n2 g3 c3 hDf hR3 hcb.2.2.2, fun f1 hm => ?_⟩
      obtain ⟨r1, k1⟩ := hm
      refine ⟨⟨_, (k1 61 (by decide)).trans hMo⟩, ?_⟩
      refine CF.mono (c_Mo_clear E f1 F 3 _ b sz (t_hMo k1 (by decide +kernel) hMo) hmk hF3 (t_hMB k1 (by decide +kernel) hMB).1 (t_hMB k1 (by decide +kernel) hMB).2 (szO hsz hcb) (by decide)) ?_
      rintro r f2 ⟨hr, F2, m1, m2, m3, m4, k2⟩
      refine ⟨hr.trans (by rw [hsz.2.2.2]), ?_⟩
      exact ⟨bk, wi, ns, n1, n2, g0, c0, g1, c1, g2, c2, g3, 0, W, Fs, L, md, bl, ct, P, pm, pw, ps, F2, b, (uz sz 3 0), Wm, Am, Lm, mt, ms, ma, mn, (t_hDf k2 (by decide +kernel) (t_hDf k1 (by decide +kernel) hDf)), (t_hR0 k2 (by decide +kernel) (t_hR0 k1 (by decide +kernel) hR0)), (t_hR1 k2 (by decide +kernel) (t_hR1 k1 (by decide +kernel) hR1)), (t_hR2 k2 (by decide +kernel) (t_hR2 k1 (by decide +kernel) hR2)), (t_hR3 k2 (by decide +kernel) r1), (t_hDg k2 (by decide +kernel) (t_hDg k1 (by decide +kernel) hDg)), (t_hSg k2 (by decide +kernel) (t_hSg k1 (by decide +kernel) hSg)), (t_hPl k2 (by decide +kernel) (t_hPl k1 (by decide +kernel) hPl)), (t_hMa k2 (by decide +kernel) (t_hMa k1 (by decide +kernel) hMa)), (t_hWt k2 (by decide +kernel) (t_hWt k1 (by decide +kernel) hWt)), (t_hRd k2 (by decide +kernel) (t_hRd k1 (by decide +kernel) hRd)), m1, ⟨(k2 63 (by decide)).trans (t_hMB k1 (by decide +kernel) hMB).1, m4⟩, (t_hMk k2 (by decide +kernel) (t_hMk k1 (by decide +kernel) hMk)), (t_hMs k2 (by decide +kernel) (t_hMs k1 (by decide +kernel) hMs)), (t_hMp k2 (by decide +kernel) (t_hMp k1 (by decide +kernel) hMp)), (t_hMx k2 (by decide +kernel) (t_hMx k1 (by decide +kernel) hMx)), (moK_fr hmk m3 (by decide)), ((m3 7 (by decide)).trans hF1), (fun q => ((m3 6 (by decide)).trans (hF2 q))), (m2.trans (by rw [if_neg (by decide)])), (fun q => ⟨((m3 12 (by decide)).trans ((hF4 q).1)), ((m3 13 (by decide)).trans ((hF4 q).2))⟩), ⟨((m3 46 (by decide)).trans hF5.1), ((m3 47 (by decide)).trans hF5.2.1), ((m3 48 (by decide)).trans hF5.2.2.1), ((m3 49 (by decide)).trans hF5.2.2.2.1), ((m3 50 (by decide)).trans hF5.2.2.2.2)⟩, hBb, ⟨hcb.1, hcb.2.1, hcb.2.2.1, ⟨by decide, by decide⟩⟩, ⟨(if_neg (by decide)).trans hsz.1, (if_neg (by decide)).trans hsz.2.1, (if_neg (by decide)).trans hsz.2.2.1, if_pos rfl⟩, ha0, ha1, ha2, ag_0, hmd, hpm, hst⟩
  · skip
    refine ⟨_, _, c_Df_clear_nf E f bk wi ns n1 n2 k 0 0 hDf (by omega) hk, fun f1 hm => ?_⟩
    obtain rfl := hm.symm
    refine ⟨⟨_, hMo⟩, ?_⟩
    refine CF.mono (c_Mo_clear_no E f F k b sz hMo hmk hMB.1 hMB.2 (szO hsz hcb) (by omega) hk) ?_
    rintro r f2 ⟨hr, e2⟩
    rw [e2]
    exact ⟨hr, hI⟩
theorem P_size {E : EV} {st : Int → Int} (k : Int) (hk : -2147483648 ≤ k ∧ k < 2147483648) : PrI E st yn_Df_size cd_Df_size 2 (some .int) 1 yn_Mo_size cd_Mo_size 2 1 [.int (zI k)] := by
  intro f hI
  have hJ := hI
  obtain ⟨bk, wi, ns, n1, n2, g0, c0, g1, c1, g2, c2, g3, c3, W, Fs, L, md, bl, ct, P, pm, pw, ps, F, b, sz, Wm, Am, Lm, mt, ms, ma, mn, hDf, hR0, hR1, hR2, hR3, hDg, hSg, hPl, hMa, hWt, hRd, hMo, hMB, hMk, hMs, hMp, hMx, hmk, hF1, hF2, hF3, hF4, hF5, hBb, hcb, hsz, ha0, ha1, ha2, ha3, hmd, hpm, hst⟩ := hJ
  by_cases hf : 0 ≤ k ∧ k ≤ 3
  · rcases (show k = 0 ∨ k = 1 ∨ k = 2 ∨ k = 3 by omega) with q | q | q | q <;> subst q
    · skip
      refine ⟨_, _, c_Df_size_0 E f bk wi ns n1 n2 g0 c0 hDf hR0 hcb.1, fun f1 hm => ?_⟩
      obtain rfl := hm.symm
      refine ⟨⟨_, hMo⟩, ?_⟩
      refine CF.mono (c_Mo_size E f F 0 b sz hMo hmk hMB.1 hMB.2 (szO hsz hcb) (by decide)) ?_
      rintro r f2 ⟨hr, e2⟩
      rw [e2]
      exact ⟨hr.trans (by rw [hsz.1]), hI⟩
    · skip
      refine ⟨_, _, c_Df_size_1 E f bk wi ns n1 n2 g1 c1 hDf hR1 hcb.2.1, fun f1 hm => ?_⟩
      obtain rfl := hm.symm
      refine ⟨⟨_, hMo⟩, ?_⟩
      refine CF.mono (c_Mo_size E f F 1 b sz hMo hmk hMB.1 hMB.2 (szO hsz hcb) (by decide)) ?_
      rintro r f2 ⟨hr, e2⟩
      rw [e2]
      exact ⟨hr.trans (by rw [hsz.2.1]), hI⟩
    · skip
      refine ⟨_, _, c_Df_size_2 E f bk wi ns n1 n2 g2 c2 hDf hR2 hcb.2.2.1, fun f1 hm => ?_⟩
      obtain rfl := hm.symm
      refine ⟨⟨_, hMo⟩, ?_⟩
      refine CF.mono (c_Mo_size E f F 2 b sz hMo hmk hMB.1 hMB.2 (szO hsz hcb) (by decide)) ?_
      rintro r f2 ⟨hr, e2⟩
      rw [e2]
      exact ⟨hr.trans (by rw [hsz.2.2.1]), hI⟩
    · skip
      refine ⟨_, _, c_Df_size_3 E f bk wi ns n1 n2 g3 c3 hDf hR3 hcb.2.2.2, fun f1 hm => ?_⟩
      obtain rfl := hm.symm
      refine ⟨⟨_, hMo⟩, ?_⟩
      refine CF.mono (c_Mo_size E f F 3 b sz hMo hmk hMB.1 hMB.2 (szO hsz hcb) (by decide)) ?_
      rintro r f2 ⟨hr, e2⟩
      rw [e2]
      exact ⟨hr.trans (by rw [hsz.2.2.2]), hI⟩
  · skip
    refine ⟨_, _, c_Df_size_nf E f bk wi ns n1 n2 k 0 0 hDf (by omega) hk, fun f1 hm => ?_⟩
    obtain rfl := hm.symm
    refine ⟨⟨_, hMo⟩, ?_⟩
    refine CF.mono (c_Mo_size_no E f F k b sz hMo hmk hMB.1 hMB.2 (szO hsz hcb) (by omega) hk) ?_
    rintro r f2 ⟨hr, e2⟩
    rw [e2]
    exact ⟨hr, hI⟩
theorem P_at {E : EV} {st : Int → Int} (k n : Int) (hk : -2147483648 ≤ k ∧ k < 2147483648) (hn2 : -2147483648 ≤ n ∧ n < 2147483648) : PrI E st yn_Df_at cd_Df_at 3 (some .int) 1 yn_Mo_at cd_Mo_at 3 1 [.int (zI k), .int (zI n)] := by
  intro f hI
  have hJ := hI
  obtain ⟨bk, wi, ns, n1, n2, g0, c0, g1, c1, g2, c2, g3, c3, W, Fs, L, md, bl, ct, P, pm, pw, ps, F, b, sz, Wm, Am, Lm, mt, ms, ma, mn, hDf, hR0, hR1, hR2, hR3, hDg, hSg, hPl, hMa, hWt, hRd, hMo, hMB, hMk, hMs, hMp, hMx, hmk, hF1, hF2, hF3, hF4, hF5, hBb, hcb, hsz, ha0, ha1, ha2, ha3, hmd, hpm, hst⟩ := hJ
  by_cases hf : 0 ≤ k ∧ k ≤ 3
  · rcases (show k = 0 ∨ k = 1 ∨ k = 2 ∨ k = 3 by omega) with q | q | q | q <;> subst q
    · by_cases hn : 0 ≤ n ∧ n < c0
      · skip
        refine ⟨_, _, c_Df_at_0 E f bk wi ns n1 n2 g0 c0 n hDf hR0 hcb.1 hn, fun f1 hm => ?_⟩
        obtain rfl := hm.symm
        refine ⟨⟨_, hMo⟩, ?_⟩
        refine CF.mono (c_Mo_at E f F 0 n b sz hMo hmk hMB.1 hMB.2 (szO hsz hcb) (by decide) (by omega)) ?_
        rintro r f2 ⟨hr, e2⟩
        rw [e2]
        exact ⟨hr.trans (congrArg (fun z => some (Value.int (zI z))) (ha0 n hn.1 hn.2)), hI⟩
      · skip
        refine ⟨_, _, c_Df_at_no0 E f bk wi ns n1 n2 g0 c0 n hDf hR0 hcb.1 (by omega) hn2, fun f1 hm => ?_⟩
        obtain rfl := hm.symm
        refine ⟨⟨_, hMo⟩, ?_⟩
        refine CF.mono (c_Mo_at_no E f F 0 n b sz hMo hmk hMB.1 hMB.2 (szO hsz hcb) (Or.inr ⟨by decide, by omega⟩) (by omega)) ?_
        rintro r f2 ⟨hr, e2⟩
        rw [e2]
        exact ⟨hr, hI⟩
    · by_cases hn : 0 ≤ n ∧ n < c1
      · skip
        refine ⟨_, _, c_Df_at_1 E f bk wi ns n1 n2 g1 c1 n hDf hR1 hcb.2.1 hn, fun f1 hm => ?_⟩
        obtain rfl := hm.symm
        refine ⟨⟨_, hMo⟩, ?_⟩
        refine CF.mono (c_Mo_at E f F 1 n b sz hMo hmk hMB.1 hMB.2 (szO hsz hcb) (by decide) (by omega)) ?_
        rintro r f2 ⟨hr, e2⟩
        rw [e2]
        exact ⟨hr.trans (congrArg (fun z => some (Value.int (zI z))) (ha1 n hn.1 hn.2)), hI⟩
      · skip
        refine ⟨_, _, c_Df_at_no1 E f bk wi ns n1 n2 g1 c1 n hDf hR1 hcb.2.1 (by omega) hn2, fun f1 hm => ?_⟩
        obtain rfl := hm.symm
        refine ⟨⟨_, hMo⟩, ?_⟩
        refine CF.mono (c_Mo_at_no E f F 1 n b sz hMo hmk hMB.1 hMB.2 (szO hsz hcb) (Or.inr ⟨by decide, by omega⟩) (by omega)) ?_
        rintro r f2 ⟨hr, e2⟩
        rw [e2]
        exact ⟨hr, hI⟩
    · by_cases hn : 0 ≤ n ∧ n < c2
      · skip
        refine ⟨_, _, c_Df_at_2 E f bk wi ns n1 n2 g2 c2 n hDf hR2 hcb.2.2.1 hn, fun f1 hm => ?_⟩
        obtain rfl := hm.symm
        refine ⟨⟨_, hMo⟩, ?_⟩
        refine CF.mono (c_Mo_at E f F 2 n b sz hMo hmk hMB.1 hMB.2 (szO hsz hcb) (by decide) (by omega)) ?_
        rintro r f2 ⟨hr, e2⟩
        rw [e2]
        exact ⟨hr.trans (congrArg (fun z => some (Value.int (zI z))) (ha2 n hn.1 hn.2)), hI⟩
      · skip
        refine ⟨_, _, c_Df_at_no2 E f bk wi ns n1 n2 g2 c2 n hDf hR2 hcb.2.2.1 (by omega) hn2, fun f1 hm => ?_⟩
        obtain rfl := hm.symm
        refine ⟨⟨_, hMo⟩, ?_⟩
        refine CF.mono (c_Mo_at_no E f F 2 n b sz hMo hmk hMB.1 hMB.2 (szO hsz hcb) (Or.inr ⟨by decide, by omega⟩) (by omega)) ?_
        rintro r f2 ⟨hr, e2⟩
        rw [e2]
        exact ⟨hr, hI⟩
    · by_cases hn : 0 ≤ n ∧ n < c3
      · skip
        refine ⟨_, _, c_Df_at_3 E f bk wi ns n1 n2 g3 c3 n hDf hR3 hcb.2.2.2 hn, fun f1 hm => ?_⟩
        obtain rfl := hm.symm
        refine ⟨⟨_, hMo⟩, ?_⟩
        refine CF.mono (c_Mo_at E f F 3 n b sz hMo hmk hMB.1 hMB.2 (szO hsz hcb) (by decide) (by omega)) ?_
        rintro r f2 ⟨hr, e2⟩
        rw [e2]
        exact ⟨hr.trans (congrArg (fun z => some (Value.int (zI z))) (ha3 n hn.1 hn.2)), hI⟩
      · skip
        refine ⟨_, _, c_Df_at_no3 E f bk wi ns n1 n2 g3 c3 n hDf hR3 hcb.2.2.2 (by omega) hn2, fun f1 hm => ?_⟩
        obtain rfl := hm.symm
        refine ⟨⟨_, hMo⟩, ?_⟩
        refine CF.mono (c_Mo_at_no E f F 3 n b sz hMo hmk hMB.1 hMB.2 (szO hsz hcb) (Or.inr ⟨by decide, by omega⟩) (by omega)) ?_
        rintro r f2 ⟨hr, e2⟩
        rw [e2]
        exact ⟨hr, hI⟩
  · skip
    refine ⟨_, _, c_Df_at_nf E f bk wi ns n1 n2 k n 0 hDf (by omega) hk, fun f1 hm => ?_⟩
    obtain rfl := hm.symm
    refine ⟨⟨_, hMo⟩, ?_⟩
    refine CF.mono (c_Mo_at_no E f F k n b sz hMo hmk hMB.1 hMB.2 (szO hsz hcb) (Or.inl (by omega)) (by omega)) ?_
    rintro r f2 ⟨hr, e2⟩
    rw [e2]
    exact ⟨hr, hI⟩
theorem P_digest {E : EV} {st : Int → Int} (k n : Int) (hk : -2147483648 ≤ k ∧ k < 2147483648) (hn2 : -2147483648 ≤ n ∧ n < 2147483648) : PrL E st yn_Df_digest cd_Df_digest 3 3 yn_Mo_digest cd_Mo_digest 3 3 [.int (zI k), .int (zI n)] := by
  intro f hI
  have hJ := hI
  obtain ⟨bk, wi, ns, n1, n2, g0, c0, g1, c1, g2, c2, g3, c3, W, Fs, L, md, bl, ct, P, pm, pw, ps, F, b, sz, Wm, Am, Lm, mt, ms, ma, mn, hDf, hR0, hR1, hR2, hR3, hDg, hSg, hPl, hMa, hWt, hRd, hMo, hMB, hMk, hMs, hMp, hMx, hmk, hF1, hF2, hF3, hF4, hF5, hBb, hcb, hsz, ha0, ha1, ha2, ha3, hmd, hpm, hst⟩ := hJ
  by_cases hf : 0 ≤ k ∧ k ≤ 3
  · rcases (show k = 0 ∨ k = 1 ∨ k = 2 ∨ k = 3 by omega) with q | q | q | q <;> subst q
    · obtain ⟨s0, wd0, x0, x1, x2, x3, hD, hV⟩ := hDg
      obtain ⟨hk62, sta, hk65⟩ := hMk
      refine ⟨_, _, c_Df_digest_0 E f bk wi ns n1 n2 g0 c0 s0 wd0 n hDf hR0 hcb.1 hD hn2, fun f1 hm => ?_⟩
      obtain ⟨⟨s1, wd1, d1⟩, k1⟩ := hm
      refine ⟨⟨_, (k1 61 (by decide)).trans hMo⟩, ?_⟩
      refine CF.mono (c_Mo_digest E f1 F 0 n b sz g0 sta (t_hMo k1 (by decide +kernel) hMo) hmk (t_hMB k1 (by decide +kernel) hMB).1 (t_hMB k1 (by decide +kernel) hMB).2 ((k1 62 (by decide)).trans hk62) ((k1 65 (by decide)).trans hk65) (szO hsz hcb) (by decide) hn2 hBb.1 (fun i h1 h2 => ha0 i h1 (by omega))) ?_
      rintro r f2 ⟨hr, F2, st2, m1, m2, m3, m4, m5, k2⟩
      refine ⟨hr.trans (by rw [hsz.1]), ?_⟩
      exact ⟨bk, wi, ns, n1, n2, g0, c0, g1, c1, g2, c2, g3, c3, W, Fs, L, md, bl, ct, P, pm, pw, ps, F2, b, sz, Wm, Am, Lm, mt, ms, ma, mn, (t_hDf k2 (by decide +kernel) (t_hDf k1 (by decide +kernel) hDf)), (t_hR0 k2 (by decide +kernel) (t_hR0 k1 (by decide +kernel) hR0)), (t_hR1 k2 (by decide +kernel) (t_hR1 k1 (by decide +kernel) hR1)), (t_hR2 k2 (by decide +kernel) (t_hR2 k1 (by decide +kernel) hR2)), (t_hR3 k2 (by decide +kernel) (t_hR3 k1 (by decide +kernel) hR3)), ⟨s1, wd1, x0, x1, x2, x3, ⟨(k2 10 (by decide)).trans d1.1, (k2 11 (by decide)).trans d1.2.1, (k2 12 (by decide)).trans d1.2.2⟩, (k2 13 (by decide)).trans ((k1 13 (by decide)).trans hV)⟩, (t_hSg k2 (by decide +kernel) (t_hSg k1 (by decide +kernel) hSg)), (t_hPl k2 (by decide +kernel) (t_hPl k1 (by decide +kernel) hPl)), (t_hMa k2 (by decide +kernel) (t_hMa k1 (by decide +kernel) hMa)), (t_hWt k2 (by decide +kernel) (t_hWt k1 (by decide +kernel) hWt)), (t_hRd k2 (by decide +kernel) (t_hRd k1 (by decide +kernel) hRd)), m1, (t_hMB k2 (by decide +kernel) (t_hMB k1 (by decide +kernel) hMB)), ⟨(k2 62 (by decide)).trans ((k1 62 (by decide)).trans hk62), st2, m5⟩, (t_hMs k2 (by decide +kernel) (t_hMs k1 (by decide +kernel) hMs)), (t_hMp k2 (by decide +kernel) (t_hMp k1 (by decide +kernel) hMp)), (t_hMx k2 (by decide +kernel) (t_hMx k1 (by decide +kernel) hMx)), (moK_fr hmk m4 (by decide)), ((m4 7 (by decide)).trans hF1), (fun q => ((m4 6 (by decide)).trans (hF2 q))), ((m4 11 (by decide)).trans hF3), (fun q => ⟨((m4 12 (by decide)).trans ((hF4 q).1)), ((m4 13 (by decide)).trans ((hF4 q).2))⟩), ⟨((m4 46 (by decide)).trans hF5.1), ((m4 47 (by decide)).trans hF5.2.1), ((m4 48 (by decide)).trans hF5.2.2.1), ((m4 49 (by decide)).trans hF5.2.2.2.1), ((m4 50 (by decide)).trans hF5.2.2.2.2)⟩, hBb, hcb, hsz, ha0, ha1, ha2, ha3, hmd, hpm, hst⟩
    · obtain ⟨s0, wd0, x0, x1, x2, x3, hD, hV⟩ := hDg
      obtain ⟨hk62, sta, hk65⟩ := hMk
      refine ⟨_, _, c_Df_digest_1 E f bk wi ns n1 n2 g1 c1 s0 wd0 n hDf hR1 hcb.2.1 hD hn2, fun f1 hm => ?_⟩
      obtain ⟨⟨s1, wd1, d1⟩, k1⟩ := hm
      refine ⟨⟨_, (k1 61 (by decide)).trans hMo⟩, ?_⟩
      refine CF.mono (c_Mo_digest E f1 F 1 n b sz g1 sta (t_hMo k1 (by decide +kernel) hMo) hmk (t_hMB k1 (by decide +kernel) hMB).1 (t_hMB k1 (by decide +kernel) hMB).2 ((k1 62 (by decide)).trans hk62) ((k1 65 (by decide)).trans hk65) (szO hsz hcb) (by decide) hn2 hBb.2.1 (fun i h1 h2 => ha1 i h1 (by omega))) ?_
      rintro r f2 ⟨hr, F2, st2, m1, m2, m3, m4, m5, k2⟩
      refine ⟨hr.trans (by rw [hsz.2.1]), ?_⟩
      exact ⟨bk, wi, ns, n1, n2, g0, c0, g1, c1, g2, c2, g3, c3, W, Fs, L, md, bl, ct, P, pm, pw, ps, F2, b, sz, Wm, Am, Lm, mt, ms, ma, mn, (t_hDf k2 (by decide +kernel) (t_hDf k1 (by decide +kernel) hDf)), (t_hR0 k2 (by decide +kernel) (t_hR0 k1 (by decide +kernel) hR0)), (t_hR1 k2 (by decide +kernel) (t_hR1 k1 (by decide +kernel) hR1)), (t_hR2 k2 (by decide +kernel) (t_hR2 k1 (by decide +kernel) hR2)), (t_hR3 k2 (by decide +kernel) (t_hR3 k1 (by decide +kernel) hR3)), ⟨s1, wd1, x0, x1, x2, x3, ⟨(k2 10 (by decide)).trans d1.1, (k2 11 (by decide)).trans d1.2.1, (k2 12 (by decide)).trans d1.2.2⟩, (k2 13 (by decide)).trans ((k1 13 (by decide)).trans hV)⟩, (t_hSg k2 (by decide +kernel) (t_hSg k1 (by decide +kernel) hSg)), (t_hPl k2 (by decide +kernel) (t_hPl k1 (by decide +kernel) hPl)), (t_hMa k2 (by decide +kernel) (t_hMa k1 (by decide +kernel) hMa)), (t_hWt k2 (by decide +kernel) (t_hWt k1 (by decide +kernel) hWt)), (t_hRd k2 (by decide +kernel) (t_hRd k1 (by decide +kernel) hRd)), m1, (t_hMB k2 (by decide +kernel) (t_hMB k1 (by decide +kernel) hMB)), ⟨(k2 62 (by decide)).trans ((k1 62 (by decide)).trans hk62), st2, m5⟩, (t_hMs k2 (by decide +kernel) (t_hMs k1 (by decide +kernel) hMs)), (t_hMp k2 (by decide +kernel) (t_hMp k1 (by decide +kernel) hMp)), (t_hMx k2 (by decide +kernel) (t_hMx k1 (by decide +kernel) hMx)), (moK_fr hmk m4 (by decide)), ((m4 7 (by decide)).trans hF1), (fun q => ((m4 6 (by decide)).trans (hF2 q))), ((m4 11 (by decide)).trans hF3), (fun q => ⟨((m4 12 (by decide)).trans ((hF4 q).1)), ((m4 13 (by decide)).trans ((hF4 q).2))⟩), ⟨((m4 46 (by decide)).trans hF5.1), ((m4 47 (by decide)).trans hF5.2.1), ((m4 48 (by decide)).trans hF5.2.2.1), ((m4 49 (by decide)).trans hF5.2.2.2.1), ((m4 50 (by decide)).trans hF5.2.2.2.2)⟩, hBb, hcb, hsz, ha0, ha1, ha2, ha3, hmd, hpm, hst⟩
    · obtain ⟨s0, wd0, x0, x1, x2, x3, hD, hV⟩ := hDg
      obtain ⟨hk62, sta, hk65⟩ := hMk
      refine ⟨_, _, c_Df_digest_2 E f bk wi ns n1 n2 g2 c2 s0 wd0 n hDf hR2 hcb.2.2.1 hD hn2, fun f1 hm => ?_⟩
      obtain ⟨⟨s1, wd1, d1⟩, k1⟩ := hm
      refine ⟨⟨_, (k1 61 (by decide)).trans hMo⟩, ?_⟩
      refine CF.mono (c_Mo_digest E f1 F 2 n b sz g2 sta (t_hMo k1 (by decide +kernel) hMo) hmk (t_hMB k1 (by decide +kernel) hMB).1 (t_hMB k1 (by decide +kernel) hMB).2 ((k1 62 (by decide)).trans hk62) ((k1 65 (by decide)).trans hk65) (szO hsz hcb) (by decide) hn2 hBb.2.2.1 (fun i h1 h2 => ha2 i h1 (by omega))) ?_
      rintro r f2 ⟨hr, F2, st2, m1, m2, m3, m4, m5, k2⟩
      refine ⟨hr.trans (by rw [hsz.2.2.1]), ?_⟩
      exact ⟨bk, wi, ns, n1, n2, g0, c0, g1, c1, g2, c2, g3, c3, W, Fs, L, md, bl, ct, P, pm, pw, ps, F2, b, sz, Wm, Am, Lm, mt, ms, ma, mn, (t_hDf k2 (by decide +kernel) (t_hDf k1 (by decide +kernel) hDf)), (t_hR0 k2 (by decide +kernel) (t_hR0 k1 (by decide +kernel) hR0)), (t_hR1 k2 (by decide +kernel) (t_hR1 k1 (by decide +kernel) hR1)), (t_hR2 k2 (by decide +kernel) (t_hR2 k1 (by decide +kernel) hR2)), (t_hR3 k2 (by decide +kernel) (t_hR3 k1 (by decide +kernel) hR3)), ⟨s1, wd1, x0, x1, x2, x3, ⟨(k2 10 (by decide)).trans d1.1, (k2 11 (by decide)).trans d1.2.1, (k2 12 (by decide)).trans d1.2.2⟩, (k2 13 (by decide)).trans ((k1 13 (by decide)).trans hV)⟩, (t_hSg k2 (by decide +kernel) (t_hSg k1 (by decide +kernel) hSg)), (t_hPl k2 (by decide +kernel) (t_hPl k1 (by decide +kernel) hPl)), (t_hMa k2 (by decide +kernel) (t_hMa k1 (by decide +kernel) hMa)), (t_hWt k2 (by decide +kernel) (t_hWt k1 (by decide +kernel) hWt)), (t_hRd k2 (by decide +kernel) (t_hRd k1 (by decide +kernel) hRd)), m1, (t_hMB k2 (by decide +kernel) (t_hMB k1 (by decide +kernel) hMB)), ⟨(k2 62 (by decide)).trans ((k1 62 (by decide)).trans hk62), st2, m5⟩, (t_hMs k2 (by decide +kernel) (t_hMs k1 (by decide +kernel) hMs)), (t_hMp k2 (by decide +kernel) (t_hMp k1 (by decide +kernel) hMp)), (t_hMx k2 (by decide +kernel) (t_hMx k1 (by decide +kernel) hMx)), (moK_fr hmk m4 (by decide)), ((m4 7 (by decide)).trans hF1), (fun q => ((m4 6 (by decide)).trans (hF2 q))), ((m4 11 (by decide)).trans hF3), (fun q => ⟨((m4 12 (by decide)).trans ((hF4 q).1)), ((m4 13 (by decide)).trans ((hF4 q).2))⟩), ⟨((m4 46 (by decide)).trans hF5.1), ((m4 47 (by decide)).trans hF5.2.1), ((m4 48 (by decide)).trans hF5.2.2.1), ((m4 49 (by decide)).trans hF5.2.2.2.1), ((m4 50 (by decide)).trans hF5.2.2.2.2)⟩, hBb, hcb, hsz, ha0, ha1, ha2, ha3, hmd, hpm, hst⟩
    · obtain ⟨s0, wd0, x0, x1, x2, x3, hD, hV⟩ := hDg
      obtain ⟨hk62, sta, hk65⟩ := hMk
      refine ⟨_, _, c_Df_digest_3 E f bk wi ns n1 n2 g3 c3 s0 wd0 n hDf hR3 hcb.2.2.2 hD hn2, fun f1 hm => ?_⟩
      obtain ⟨⟨s1, wd1, d1⟩, k1⟩ := hm
      refine ⟨⟨_, (k1 61 (by decide)).trans hMo⟩, ?_⟩
      refine CF.mono (c_Mo_digest E f1 F 3 n b sz g3 sta (t_hMo k1 (by decide +kernel) hMo) hmk (t_hMB k1 (by decide +kernel) hMB).1 (t_hMB k1 (by decide +kernel) hMB).2 ((k1 62 (by decide)).trans hk62) ((k1 65 (by decide)).trans hk65) (szO hsz hcb) (by decide) hn2 hBb.2.2.2 (fun i h1 h2 => ha3 i h1 (by omega))) ?_
      rintro r f2 ⟨hr, F2, st2, m1, m2, m3, m4, m5, k2⟩
      refine ⟨hr.trans (by rw [hsz.2.2.2]), ?_⟩
      exact ⟨bk, wi, ns, n1, n2, g0, c0, g1, c1, g2, c2, g3, c3, W, Fs, L, md, bl, ct, P, pm, pw, ps, F2, b, sz, Wm, Am, Lm, mt, ms, ma, mn, (t_hDf k2 (by decide +kernel) (t_hDf k1 (by decide +kernel) hDf)), (t_hR0 k2 (by decide +kernel) (t_hR0 k1 (by decide +kernel) hR0)), (t_hR1 k2 (by decide +kernel) (t_hR1 k1 (by decide +kernel) hR1)), (t_hR2 k2 (by decide +kernel) (t_hR2 k1 (by decide +kernel) hR2)), (t_hR3 k2 (by decide +kernel) (t_hR3 k1 (by decide +kernel) hR3)), ⟨s1, wd1, x0, x1, x2, x3, ⟨(k2 10 (by decide)).trans d1.1, (k2 11 (by decide)).trans d1.2.1, (k2 12 (by decide)).trans d1.2.2⟩, (k2 13 (by decide)).trans ((k1 13 (by decide)).trans hV)⟩, (t_hSg k2 (by decide +kernel) (t_hSg k1 (by decide +kernel) hSg)), (t_hPl k2 (by decide +kernel) (t_hPl k1 (by decide +kernel) hPl)), (t_hMa k2 (by decide +kernel) (t_hMa k1 (by decide +kernel) hMa)), (t_hWt k2 (by decide +kernel) (t_hWt k1 (by decide +kernel) hWt)), (t_hRd k2 (by decide +kernel) (t_hRd k1 (by decide +kernel) hRd)), m1, (t_hMB k2 (by decide +kernel) (t_hMB k1 (by decide +kernel) hMB)), ⟨(k2 62 (by decide)).trans ((k1 62 (by decide)).trans hk62), st2, m5⟩, (t_hMs k2 (by decide +kernel) (t_hMs k1 (by decide +kernel) hMs)), (t_hMp k2 (by decide +kernel) (t_hMp k1 (by decide +kernel) hMp)), (t_hMx k2 (by decide +kernel) (t_hMx k1 (by decide +kernel) hMx)), (moK_fr hmk m4 (by decide)), ((m4 7 (by decide)).trans hF1), (fun q => ((m4 6 (by decide)).trans (hF2 q))), ((m4 11 (by decide)).trans hF3), (fun q => ⟨((m4 12 (by decide)).trans ((hF4 q).1)), ((m4 13 (by decide)).trans ((hF4 q).2))⟩), ⟨((m4 46 (by decide)).trans hF5.1), ((m4 47 (by decide)).trans hF5.2.1), ((m4 48 (by decide)).trans hF5.2.2.1), ((m4 49 (by decide)).trans hF5.2.2.2.1), ((m4 50 (by decide)).trans hF5.2.2.2.2)⟩, hBb, hcb, hsz, ha0, ha1, ha2, ha3, hmd, hpm, hst⟩
  · skip
    refine ⟨_, _, c_Df_digest_nf E f bk wi ns n1 n2 k n 0 hDf (by omega) hk, fun f1 hm => ?_⟩
    obtain rfl := hm.symm
    refine ⟨⟨_, hMo⟩, ?_⟩
    refine CF.mono (c_Mo_digest_no E f F k n hMo hmk (by omega) hk) ?_
    rintro r f2 ⟨hr, e2⟩
    rw [e2]
    exact ⟨hr, hI⟩
theorem P_sum {E : EV} {st : Int → Int} (k a n : Int) (hk : -2147483648 ≤ k ∧ k < 2147483648) (hA2 : -2147483648 ≤ a ∧ a < 2147483648) (hn2 : -2147483648 ≤ n ∧ n < 2147483648) : PrL E st yn_Df_sum cd_Df_sum 5 1 yn_Mo_sum cd_Mo_sum 9 1 [.int (zI k), .int (zI a), .int (zI n)] := by
  intro f hI
  have hJ := hI
  obtain ⟨bk, wi, ns, n1, n2, g0, c0, g1, c1, g2, c2, g3, c3, W, Fs, L, md, bl, ct, P, pm, pw, ps, F, b, sz, Wm, Am, Lm, mt, ms, ma, mn, hDf, hR0, hR1, hR2, hR3, hDg, hSg, hPl, hMa, hWt, hRd, hMo, hMB, hMk, hMs, hMp, hMx, hmk, hF1, hF2, hF3, hF4, hF5, hBb, hcb, hsz, ha0, ha1, ha2, ha3, hmd, hpm, hst⟩ := hJ
  by_cases hf : 0 ≤ k ∧ k ≤ 3
  · rcases (show k = 0 ∨ k = 1 ∨ k = 2 ∨ k = 3 by omega) with q | q | q | q <;> subst q
    · obtain ⟨s0, wd0, x0, x1, x2, x3, hD, hV⟩ := hDg
      refine ⟨_, _, c_Df_sum_0 E f bk wi ns n1 n2 g0 c0 x0 x1 x2 x3 a n hDf hR0 hcb.1 hBb.1 hV (by omega), fun f1 hm => ?_⟩
      obtain ⟨⟨z0, z1, z2, z3, v1⟩, k1⟩ := hm
      refine ⟨⟨_, (k1 61 (by decide)).trans hMo⟩, ?_⟩
      refine CF.mono (c_Mo_sum E f1 F 0 a n b sz g0 (t_hMo k1 (by decide +kernel) hMo) hmk (t_hMB k1 (by decide +kernel) hMB).1 (t_hMB k1 (by decide +kernel) hMB).2 (szO hsz hcb) (by decide) (by omega) hBb.1 (fun i h1 h2 => ha0 i h1 (by omega))) ?_
      rintro r f2 ⟨hr, e2⟩
      rw [e2]
      refine ⟨hr.trans (by rw [hsz.1]), ?_⟩
      exact ⟨bk, wi, ns, n1, n2, g0, c0, g1, c1, g2, c2, g3, c3, W, Fs, L, md, bl, ct, P, pm, pw, ps, F, b, sz, Wm, Am, Lm, mt, ms, ma, mn, (t_hDf k1 (by decide +kernel) hDf), (t_hR0 k1 (by decide +kernel) hR0), (t_hR1 k1 (by decide +kernel) hR1), (t_hR2 k1 (by decide +kernel) hR2), (t_hR3 k1 (by decide +kernel) hR3), ⟨s0, wd0, z0, z1, z2, z3, ⟨(k1 10 (by decide)).trans hD.1, (k1 11 (by decide)).trans hD.2.1, (k1 12 (by decide)).trans hD.2.2⟩, v1⟩, (t_hSg k1 (by decide +kernel) hSg), (t_hPl k1 (by decide +kernel) hPl), (t_hMa k1 (by decide +kernel) hMa), (t_hWt k1 (by decide +kernel) hWt), (t_hRd k1 (by decide +kernel) hRd), (t_hMo k1 (by decide +kernel) hMo), (t_hMB k1 (by decide +kernel) hMB), (t_hMk k1 (by decide +kernel) hMk), (t_hMs k1 (by decide +kernel) hMs), (t_hMp k1 (by decide +kernel) hMp), (t_hMx k1 (by decide +kernel) hMx), hmk, hF1, hF2, hF3, hF4, hF5, hBb, hcb, hsz, ha0, ha1, ha2, ha3, hmd, hpm, hst⟩
    · obtain ⟨s0, wd0, x0, x1, x2, x3, hD, hV⟩ := hDg
      refine ⟨_, _, c_Df_sum_1 E f bk wi ns n1 n2 g1 c1 x0 x1 x2 x3 a n hDf hR1 hcb.2.1 hBb.2.1 hV (by omega), fun f1 hm => ?_⟩
      obtain ⟨⟨z0, z1, z2, z3, v1⟩, k1⟩ := hm
      refine ⟨⟨_, (k1 61 (by decide)).trans hMo⟩, ?_⟩
      refine CF.mono (c_Mo_sum E f1 F 1 a n b sz g1 (t_hMo k1 (by decide +kernel) hMo) hmk (t_hMB k1 (by decide +kernel) hMB).1 (t_hMB k1 (by decide +kernel) hMB).2 (szO hsz hcb) (by decide) (by omega) hBb.2.1 (fun i h1 h2 => ha1 i h1 (by omega))) ?_
      rintro r f2 ⟨hr, e2⟩
      rw [e2]
      refine ⟨hr.trans (by rw [hsz.2.1]), ?_⟩
      exact ⟨bk, wi, ns, n1, n2, g0, c0, g1, c1, g2, c2, g3, c3, W, Fs, L, md, bl, ct, P, pm, pw, ps, F, b, sz, Wm, Am, Lm, mt, ms, ma, mn, (t_hDf k1 (by decide +kernel) hDf), (t_hR0 k1 (by decide +kernel) hR0), (t_hR1 k1 (by decide +kernel) hR1), (t_hR2 k1 (by decide +kernel) hR2), (t_hR3 k1 (by decide +kernel) hR3), ⟨s0, wd0, z0, z1, z2, z3, ⟨(k1 10 (by decide)).trans hD.1, (k1 11 (by decide)).trans hD.2.1, (k1 12 (by decide)).trans hD.2.2⟩, v1⟩, (t_hSg k1 (by decide +kernel) hSg), (t_hPl k1 (by decide +kernel) hPl), (t_hMa k1 (by decide +kernel) hMa), (t_hWt k1 (by decide +kernel) hWt), (t_hRd k1 (by decide +kernel) hRd), (t_hMo k1 (by decide +kernel) hMo), (t_hMB k1 (by decide +kernel) hMB), (t_hMk k1 (by decide +kernel) hMk), (t_hMs k1 (by decide +kernel) hMs), (t_hMp k1 (by decide +kernel) hMp), (t_hMx k1 (by decide +kernel) hMx), hmk, hF1, hF2, hF3, hF4, hF5, hBb, hcb, hsz, ha0, ha1, ha2, ha3, hmd, hpm, hst⟩
    · obtain ⟨s0, wd0, x0, x1, x2, x3, hD, hV⟩ := hDg
      refine ⟨_, _, c_Df_sum_2 E f bk wi ns n1 n2 g2 c2 x0 x1 x2 x3 a n hDf hR2 hcb.2.2.1 hBb.2.2.1 hV (by omega), fun f1 hm => ?_⟩
      obtain ⟨⟨z0, z1, z2, z3, v1⟩, k1⟩ := hm
      refine ⟨⟨_, (k1 61 (by decide)).trans hMo⟩, ?_⟩
      refine CF.mono (c_Mo_sum E f1 F 2 a n b sz g2 (t_hMo k1 (by decide +kernel) hMo) hmk (t_hMB k1 (by decide +kernel) hMB).1 (t_hMB k1 (by decide +kernel) hMB).2 (szO hsz hcb) (by decide) (by omega) hBb.2.2.1 (fun i h1 h2 => ha2 i h1 (by omega))) ?_
      rintro r f2 ⟨hr, e2⟩
      rw [e2]
      refine ⟨hr.trans (by rw [hsz.2.2.1]), ?_⟩
      exact ⟨bk, wi, ns, n1, n2, g0, c0, g1, c1, g2, c2, g3, c3, W, Fs, L, md, bl, ct, P, pm, pw, ps, F, b, sz, Wm, Am, Lm, mt, ms, ma, mn, (t_hDf k1 (by decide +kernel) hDf), (t_hR0 k1 (by decide +kernel) hR0), (t_hR1 k1 (by decide +kernel) hR1), (t_hR2 k1 (by decide +kernel) hR2), (t_hR3 k1 (by decide +kernel) hR3), ⟨s0, wd0, z0, z1, z2, z3, ⟨(k1 10 (by decide)).trans hD.1, (k1 11 (by decide)).trans hD.2.1, (k1 12 (by decide)).trans hD.2.2⟩, v1⟩, (t_hSg k1 (by decide +kernel) hSg), (t_hPl k1 (by decide +kernel) hPl), (t_hMa k1 (by decide +kernel) hMa), (t_hWt k1 (by decide +kernel) hWt), (t_hRd k1 (by decide +kernel) hRd), (t_hMo k1 (by decide +kernel) hMo), (t_hMB k1 (by decide +kernel) hMB), (t_hMk k1 (by decide +kernel) hMk), (t_hMs k1 (by decide +kernel) hMs), (t_hMp k1 (by decide +kernel) hMp), (t_hMx k1 (by decide +kernel) hMx), hmk, hF1, hF2, hF3, hF4, hF5, hBb, hcb, hsz, ha0, ha1, ha2, ha3, hmd, hpm, hst⟩
    · obtain ⟨s0, wd0, x0, x1, x2, x3, hD, hV⟩ := hDg
      refine ⟨_, _, c_Df_sum_3 E f bk wi ns n1 n2 g3 c3 x0 x1 x2 x3 a n hDf hR3 hcb.2.2.2 hBb.2.2.2 hV (by omega), fun f1 hm => ?_⟩
      obtain ⟨⟨z0, z1, z2, z3, v1⟩, k1⟩ := hm
      refine ⟨⟨_, (k1 61 (by decide)).trans hMo⟩, ?_⟩
      refine CF.mono (c_Mo_sum E f1 F 3 a n b sz g3 (t_hMo k1 (by decide +kernel) hMo) hmk (t_hMB k1 (by decide +kernel) hMB).1 (t_hMB k1 (by decide +kernel) hMB).2 (szO hsz hcb) (by decide) (by omega) hBb.2.2.2 (fun i h1 h2 => ha3 i h1 (by omega))) ?_
      rintro r f2 ⟨hr, e2⟩
      rw [e2]
      refine ⟨hr.trans (by rw [hsz.2.2.2]), ?_⟩
      exact ⟨bk, wi, ns, n1, n2, g0, c0, g1, c1, g2, c2, g3, c3, W, Fs, L, md, bl, ct, P, pm, pw, ps, F, b, sz, Wm, Am, Lm, mt, ms, ma, mn, (t_hDf k1 (by decide +kernel) hDf), (t_hR0 k1 (by decide +kernel) hR0), (t_hR1 k1 (by decide +kernel) hR1), (t_hR2 k1 (by decide +kernel) hR2), (t_hR3 k1 (by decide +kernel) hR3), ⟨s0, wd0, z0, z1, z2, z3, ⟨(k1 10 (by decide)).trans hD.1, (k1 11 (by decide)).trans hD.2.1, (k1 12 (by decide)).trans hD.2.2⟩, v1⟩, (t_hSg k1 (by decide +kernel) hSg), (t_hPl k1 (by decide +kernel) hPl), (t_hMa k1 (by decide +kernel) hMa), (t_hWt k1 (by decide +kernel) hWt), (t_hRd k1 (by decide +kernel) hRd), (t_hMo k1 (by decide +kernel) hMo), (t_hMB k1 (by decide +kernel) hMB), (t_hMk k1 (by decide +kernel) hMk), (t_hMs k1 (by decide +kernel) hMs), (t_hMp k1 (by decide +kernel) hMp), (t_hMx k1 (by decide +kernel) hMx), hmk, hF1, hF2, hF3, hF4, hF5, hBb, hcb, hsz, ha0, ha1, ha2, ha3, hmd, hpm, hst⟩
  · skip
    refine ⟨_, _, c_Df_sum_nf E f bk wi ns n1 n2 k a n hDf (by omega) hk, fun f1 hm => ?_⟩
    obtain rfl := hm.symm
    refine ⟨⟨_, hMo⟩, ?_⟩
    refine CF.mono (c_Mo_sum_no E f F k a n hMo hmk (by omega) hk) ?_
    rintro r f2 ⟨hr, e2⟩
    rw [e2]
    exact ⟨hr, hI⟩
theorem P_copy {E : EV} {st : Int → Int} (a k : Int) (hA2 : -2147483648 ≤ a ∧ a < 2147483648) (hk : -2147483648 ≤ k ∧ k < 2147483648) : PrI E st yn_Df_copy cd_Df_copy 3 (some .boolean) 3 yn_Mo_copy cd_Mo_copy 4 1 [.int (zI a), .int (zI k)] := by
  intro f hI
  have hJ := hI
  obtain ⟨bk, wi, ns, n1, n2, g0, c0, g1, c1, g2, c2, g3, c3, W, Fs, L, md, bl, ct, P, pm, pw, ps, F, b, sz, Wm, Am, Lm, mt, ms, ma, mn, hDf, hR0, hR1, hR2, hR3, hDg, hSg, hPl, hMa, hWt, hRd, hMo, hMB, hMk, hMs, hMp, hMx, hmk, hF1, hF2, hF3, hF4, hF5, hBb, hcb, hsz, ha0, ha1, ha2, ha3, hmd, hpm, hst⟩ := hJ
  by_cases hf : (0 ≤ a ∧ a ≤ 3) ∧ 0 ≤ k ∧ k ≤ 2
  · rcases (show (a = 0 ∨ a = 1 ∨ a = 2 ∨ a = 3) ∧ (k = 0 ∨ k = 1 ∨ k = 2) by omega) with ⟨q | q | q | q, w | w | w⟩ <;> subst q <;> subst w
    · skip
      refine ⟨_, _, c_Df_copy_00 E f bk wi ns n1 n2 g0 c0 hDf hR0 hcb.1 (by omega), fun f1 hm => ?_⟩
      obtain ⟨r1, k1⟩ := hm
      refine ⟨⟨_, (k1 61 (by decide)).trans hMo⟩, ?_⟩
      refine CF.mono (c_Mo_copy E f1 F 0 0 _ b sz (t_hMo k1 (by decide +kernel) hMo) hmk hF3 (t_hMB k1 (by decide +kernel) hMB).1 (t_hMB k1 (by decide +kernel) hMB).2 (szO hsz hcb) ⟨by decide, by decide, by rw [if_neg (by decide)]; omega⟩) ?_
      rintro r f2 ⟨hr, F2, b2, m1, m2, m3, m4, m5, m6, m7, k2⟩
      refine ⟨hr, ?_⟩
      rw [hsz.1] at m5 m6 m7
      exact ⟨bk, wi, ns, n1, n2, (cz g0 g0 0 0 c0), c0, g1, c1, g2, c2, g3, c3, W, Fs, L, md, bl, ct, P, pm, pw, ps, F2, b2, (uz sz 0 c0), Wm, Am, Lm, mt, ms, ma, mn, (t_hDf k2 (by decide +kernel) (t_hDf k1 (by decide +kernel) hDf)), (t_hR0 k2 (by decide +kernel) r1), (t_hR1 k2 (by decide +kernel) (t_hR1 k1 (by decide +kernel) hR1)), (t_hR2 k2 (by decide +kernel) (t_hR2 k1 (by decide +kernel) hR2)), (t_hR3 k2 (by decide +kernel) (t_hR3 k1 (by decide +kernel) hR3)), (t_hDg k2 (by decide +kernel) (t_hDg k1 (by decide +kernel) hDg)), (t_hSg k2 (by decide +kernel) (t_hSg k1 (by decide +kernel) hSg)), (t_hPl k2 (by decide +kernel) (t_hPl k1 (by decide +kernel) hPl)), (t_hMa k2 (by decide +kernel) (t_hMa k1 (by decide +kernel) hMa)), (t_hWt k2 (by decide +kernel) (t_hWt k1 (by decide +kernel) hWt)), (t_hRd k2 (by decide +kernel) (t_hRd k1 (by decide +kernel) hRd)), m1, ⟨m4, m5⟩, (t_hMk k2 (by decide +kernel) (t_hMk k1 (by decide +kernel) hMk)), (t_hMs k2 (by decide +kernel) (t_hMs k1 (by decide +kernel) hMs)), (t_hMp k2 (by decide +kernel) (t_hMp k1 (by decide +kernel) hMp)), (t_hMx k2 (by decide +kernel) (t_hMx k1 (by decide +kernel) hMx)), (moK_fr hmk m3 (by decide)), ((m3 7 (by decide)).trans hF1), (fun q => ((m3 6 (by decide)).trans (hF2 q))), (m2.trans (by rw [if_neg (by decide)])), (fun q => ⟨((m3 12 (by decide)).trans ((hF4 q).1)), ((m3 13 (by decide)).trans ((hF4 q).2))⟩), ⟨((m3 46 (by decide)).trans hF5.1), ((m3 47 (by decide)).trans hF5.2.1), ((m3 48 (by decide)).trans hF5.2.2.1), ((m3 49 (by decide)).trans hF5.2.2.2.1), ((m3 50 (by decide)).trans hF5.2.2.2.2)⟩, ⟨isB_cz hBb.1 hBb.1, hBb.2.1, hBb.2.2.1, hBb.2.2.2⟩, ⟨⟨by omega, by omega⟩, hcb.2.1, hcb.2.2.1, hcb.2.2.2⟩, ⟨if_pos rfl, (if_neg (by decide)).trans hsz.2.1, (if_neg (by decide)).trans hsz.2.2.1, (if_neg (by decide)).trans hsz.2.2.2⟩, (ag_cpy ha0 (fun i h1 h2 => (congrArg b2 (by omega)).trans ((m6 i h1 h2).trans (congrArg b (by omega))))), (ag_oth ha1 (by omega) m7), (ag_oth ha2 (by omega) m7), (ag_oth ha3 (by omega) m7), hmd, hpm, hst⟩
    · skip
      refine ⟨_, _, c_Df_copy_01 E f bk wi ns n1 n2 g1 c1 g0 c0 P pm pw ps hDf hR1 hcb.2.1 hR0 hcb.1 hPl (by omega), fun f1 hm => ?_⟩
      obtain ⟨r1, p1, k1⟩ := hm
      refine ⟨⟨_, (k1 61 (by decide)).trans hMo⟩, ?_⟩
      refine CF.mono (c_Mo_copy E f1 F 0 1 _ b sz (t_hMo k1 (by decide +kernel) hMo) hmk hF3 (t_hMB k1 (by decide +kernel) hMB).1 (t_hMB k1 (by decide +kernel) hMB).2 (szO hsz hcb) ⟨by decide, by decide, by rw [if_neg (by decide)]; omega⟩) ?_
      rintro r f2 ⟨hr, F2, b2, m1, m2, m3, m4, m5, m6, m7, k2⟩
      refine ⟨hr, ?_⟩
      rw [hsz.1] at m5 m6 m7
      exact ⟨bk, wi, ns, n1, n2, g0, c0, (cz g0 g1 0 0 c0), c0, g2, c2, g3, c3, W, Fs, L, md, bl, ct, P, 0, pw, ps, F2, b2, (uz sz 1 c0), Wm, Am, Lm, mt, ms, ma, mn, (t_hDf k2 (by decide +kernel) (t_hDf k1 (by decide +kernel) hDf)), (t_hR0 k2 (by decide +kernel) (t_hR0 k1 (by decide +kernel) hR0)), (t_hR1 k2 (by decide +kernel) r1), (t_hR2 k2 (by decide +kernel) (t_hR2 k1 (by decide +kernel) hR2)), (t_hR3 k2 (by decide +kernel) (t_hR3 k1 (by decide +kernel) hR3)), (t_hDg k2 (by decide +kernel) (t_hDg k1 (by decide +kernel) hDg)), (t_hSg k2 (by decide +kernel) (t_hSg k1 (by decide +kernel) hSg)), (t_hPl k2 (by decide +kernel) p1), (t_hMa k2 (by decide +kernel) (t_hMa k1 (by decide +kernel) hMa)), (t_hWt k2 (by decide +kernel) (t_hWt k1 (by decide +kernel) hWt)), (t_hRd k2 (by decide +kernel) (t_hRd k1 (by decide +kernel) hRd)), m1, ⟨m4, m5⟩, (t_hMk k2 (by decide +kernel) (t_hMk k1 (by decide +kernel) hMk)), (t_hMs k2 (by decide +kernel) (t_hMs k1 (by decide +kernel) hMs)), (t_hMp k2 (by decide +kernel) (t_hMp k1 (by decide +kernel) hMp)), (t_hMx k2 (by decide +kernel) (t_hMx k1 (by decide +kernel) hMx)), (moK_fr hmk m3 (by decide)), ((m3 7 (by decide)).trans hF1), (fun q => ((m3 6 (by decide)).trans (hF2 q))), (m2.trans (by rw [if_pos rfl, if_neg (by decide)])), (fun q => absurd q (by decide)), ⟨((m3 46 (by decide)).trans hF5.1), ((m3 47 (by decide)).trans hF5.2.1), ((m3 48 (by decide)).trans hF5.2.2.1), ((m3 49 (by decide)).trans hF5.2.2.2.1), ((m3 50 (by decide)).trans hF5.2.2.2.2)⟩, ⟨hBb.1, isB_cz hBb.1 hBb.2.1, hBb.2.2.1, hBb.2.2.2⟩, ⟨hcb.1, ⟨by omega, by omega⟩, hcb.2.2.1, hcb.2.2.2⟩, ⟨(if_neg (by decide)).trans hsz.1, if_pos rfl, (if_neg (by decide)).trans hsz.2.2.1, (if_neg (by decide)).trans hsz.2.2.2⟩, (ag_oth ha0 (by omega) m7), (ag_cpy ha0 (fun i h1 h2 => (congrArg b2 (by omega)).trans ((m6 i h1 h2).trans (congrArg b (by omega))))), (ag_oth ha2 (by omega) m7), (ag_oth ha3 (by omega) m7), hmd, ⟨Or.inl rfl, hpm.2.1, hpm.2.2.1, fun q => absurd q (by decide)⟩, hst⟩
    · skip
      refine ⟨_, _, c_Df_copy_02 E f bk wi ns n1 n2 g2 c2 g0 c0 hDf hR2 hcb.2.2.1 hR0 hcb.1 (by omega), fun f1 hm => ?_⟩
      obtain ⟨r1, k1⟩ := hm
      refine ⟨⟨_, (k1 61 (by decide)).trans hMo⟩, ?_⟩
      refine CF.mono (c_Mo_copy E f1 F 0 2 _ b sz (t_hMo k1 (by decide +kernel) hMo) hmk hF3 (t_hMB k1 (by decide +kernel) hMB).1 (t_hMB k1 (by decide +kernel) hMB).2 (szO hsz hcb) ⟨by decide, by decide, by rw [if_pos rfl]; omega⟩) ?_
      rintro r f2 ⟨hr, F2, b2, m1, m2, m3, m4, m5, m6, m7, k2⟩
      refine ⟨hr, ?_⟩
      rw [hsz.1] at m5 m6 m7
      exact ⟨bk, wi, ns, n1, n2, g0, c0, g1, c1, (cz g0 g2 0 0 c0), c0, g3, c3, W, Fs, L, md, bl, ct, P, pm, pw, ps, F2, b2, (uz sz 2 c0), Wm, Am, Lm, mt, ms, ma, mn, (t_hDf k2 (by decide +kernel) (t_hDf k1 (by decide +kernel) hDf)), (t_hR0 k2 (by decide +kernel) (t_hR0 k1 (by decide +kernel) hR0)), (t_hR1 k2 (by decide +kernel) (t_hR1 k1 (by decide +kernel) hR1)), (t_hR2 k2 (by decide +kernel) r1), (t_hR3 k2 (by decide +kernel) (t_hR3 k1 (by decide +kernel) hR3)), (t_hDg k2 (by decide +kernel) (t_hDg k1 (by decide +kernel) hDg)), (t_hSg k2 (by decide +kernel) (t_hSg k1 (by decide +kernel) hSg)), (t_hPl k2 (by decide +kernel) (t_hPl k1 (by decide +kernel) hPl)), (t_hMa k2 (by decide +kernel) (t_hMa k1 (by decide +kernel) hMa)), (t_hWt k2 (by decide +kernel) (t_hWt k1 (by decide +kernel) hWt)), (t_hRd k2 (by decide +kernel) (t_hRd k1 (by decide +kernel) hRd)), m1, ⟨m4, m5⟩, (t_hMk k2 (by decide +kernel) (t_hMk k1 (by decide +kernel) hMk)), (t_hMs k2 (by decide +kernel) (t_hMs k1 (by decide +kernel) hMs)), (t_hMp k2 (by decide +kernel) (t_hMp k1 (by decide +kernel) hMp)), (t_hMx k2 (by decide +kernel) (t_hMx k1 (by decide +kernel) hMx)), (moK_fr hmk m3 (by decide)), ((m3 7 (by decide)).trans hF1), (fun q => ((m3 6 (by decide)).trans (hF2 q))), (m2.trans (by rw [if_neg (by decide)])), (fun q => ⟨((m3 12 (by decide)).trans ((hF4 q).1)), ((m3 13 (by decide)).trans ((hF4 q).2))⟩), ⟨((m3 46 (by decide)).trans hF5.1), ((m3 47 (by decide)).trans hF5.2.1), ((m3 48 (by decide)).trans hF5.2.2.1), ((m3 49 (by decide)).trans hF5.2.2.2.1), ((m3 50 (by decide)).trans hF5.2.2.2.2)⟩, ⟨hBb.1, hBb.2.1, isB_cz hBb.1 hBb.2.2.1, hBb.2.2.2⟩, ⟨hcb.1, hcb.2.1, ⟨by omega, by omega⟩, hcb.2.2.2⟩, ⟨(if_neg (by decide)).trans hsz.1, (if_neg (by decide)).trans hsz.2.1, if_pos rfl, (if_neg (by decide)).trans hsz.2.2.2⟩, (ag_oth ha0 (by omega) m7), (ag_oth ha1 (by omega) m7), (ag_cpy ha0 (fun i h1 h2 => (congrArg b2 (by omega)).trans ((m6 i h1 h2).trans (congrArg b (by omega))))), (ag_oth ha3 (by omega) m7), hmd, hpm, hst⟩
    · skip
      refine ⟨_, _, c_Df_copy_10 E f bk wi ns n1 n2 g0 c0 g1 c1 hDf hR0 hcb.1 hR1 hcb.2.1 (by omega), fun f1 hm => ?_⟩
      obtain ⟨r1, k1⟩ := hm
      refine ⟨⟨_, (k1 61 (by decide)).trans hMo⟩, ?_⟩
      refine CF.mono (c_Mo_copy E f1 F 1 0 _ b sz (t_hMo k1 (by decide +kernel) hMo) hmk hF3 (t_hMB k1 (by decide +kernel) hMB).1 (t_hMB k1 (by decide +kernel) hMB).2 (szO hsz hcb) ⟨by decide, by decide, by rw [if_neg (by decide)]; omega⟩) ?_
      rintro r f2 ⟨hr, F2, b2, m1, m2, m3, m4, m5, m6, m7, k2⟩
      refine ⟨hr, ?_⟩
      rw [hsz.2.1] at m5 m6 m7
      exact ⟨bk, wi, ns, n1, n2, (cz g1 g0 0 0 c1), c1, g1, c1, g2, c2, g3, c3, W, Fs, L, md, bl, ct, P, pm, pw, ps, F2, b2, (uz sz 0 c1), Wm, Am, Lm, mt, ms, ma, mn, (t_hDf k2 (by decide +kernel) (t_hDf k1 (by decide +kernel) hDf)), (t_hR0 k2 (by decide +kernel) r1), (t_hR1 k2 (by decide +kernel) (t_hR1 k1 (by decide +kernel) hR1)), (t_hR2 k2 (by decide +kernel) (t_hR2 k1 (by decide +kernel) hR2)), (t_hR3 k2 (by decide +kernel) (t_hR3 k1 (by decide +kernel) hR3)), (t_hDg k2 (by decide +kernel) (t_hDg k1 (by decide +kernel) hDg)), (t_hSg k2 (by decide +kernel) (t_hSg k1 (by decide +kernel) hSg)), (t_hPl k2 (by decide +kernel) (t_hPl k1 (by decide +kernel) hPl)), (t_hMa k2 (by decide +kernel) (t_hMa k1 (by decide +kernel) hMa)), (t_hWt k2 (by decide +kernel) (t_hWt k1 (by decide +kernel) hWt)), (t_hRd k2 (by decide +kernel) (t_hRd k1 (by decide +kernel) hRd)), m1, ⟨m4, m5⟩, (t_hMk k2 (by decide +kernel) (t_hMk k1 (by decide +kernel) hMk)), (t_hMs k2 (by decide +kernel) (t_hMs k1 (by decide +kernel) hMs)), (t_hMp k2 (by decide +kernel) (t_hMp k1 (by decide +kernel) hMp)), (t_hMx k2 (by decide +kernel) (t_hMx k1 (by decide +kernel) hMx)), (moK_fr hmk m3 (by decide)), ((m3 7 (by decide)).trans hF1), (fun q => ((m3 6 (by decide)).trans (hF2 q))), (m2.trans (by rw [if_neg (by decide)])), (fun q => ⟨((m3 12 (by decide)).trans ((hF4 q).1)), ((m3 13 (by decide)).trans ((hF4 q).2))⟩), ⟨((m3 46 (by decide)).trans hF5.1), ((m3 47 (by decide)).trans hF5.2.1), ((m3 48 (by decide)).trans hF5.2.2.1), ((m3 49 (by decide)).trans hF5.2.2.2.1), ((m3 50 (by decide)).trans hF5.2.2.2.2)⟩, ⟨isB_cz hBb.2.1 hBb.1, hBb.2.1, hBb.2.2.1, hBb.2.2.2⟩, ⟨⟨by omega, by omega⟩, hcb.2.1, hcb.2.2.1, hcb.2.2.2⟩, ⟨if_pos rfl, (if_neg (by decide)).trans hsz.2.1, (if_neg (by decide)).trans hsz.2.2.1, (if_neg (by decide)).trans hsz.2.2.2⟩, (ag_cpy ha1 (fun i h1 h2 => (congrArg b2 (by omega)).trans ((m6 i h1 h2).trans (congrArg b (by omega))))), (ag_oth ha1 (by omega) m7), (ag_oth ha2 (by omega) m7), (ag_oth ha3 (by omega) m7), hmd, hpm, hst⟩
    · skip
      refine ⟨_, _, c_Df_copy_11 E f bk wi ns n1 n2 g1 c1 P pm pw ps hDf hR1 hcb.2.1 hPl (by omega), fun f1 hm => ?_⟩
      obtain ⟨r1, p1, k1⟩ := hm
      refine ⟨⟨_, (k1 61 (by decide)).trans hMo⟩, ?_⟩
      refine CF.mono (c_Mo_copy E f1 F 1 1 _ b sz (t_hMo k1 (by decide +kernel) hMo) hmk hF3 (t_hMB k1 (by decide +kernel) hMB).1 (t_hMB k1 (by decide +kernel) hMB).2 (szO hsz hcb) ⟨by decide, by decide, by rw [if_neg (by decide)]; omega⟩) ?_
      rintro r f2 ⟨hr, F2, b2, m1, m2, m3, m4, m5, m6, m7, k2⟩
      refine ⟨hr, ?_⟩
      rw [hsz.2.1] at m5 m6 m7
      exact ⟨bk, wi, ns, n1, n2, g0, c0, (cz g1 g1 0 0 c1), c1, g2, c2, g3, c3, W, Fs, L, md, bl, ct, P, 0, pw, ps, F2, b2, (uz sz 1 c1), Wm, Am, Lm, mt, ms, ma, mn, (t_hDf k2 (by decide +kernel) (t_hDf k1 (by decide +kernel) hDf)), (t_hR0 k2 (by decide +kernel) (t_hR0 k1 (by decide +kernel) hR0)), (t_hR1 k2 (by decide +kernel) r1), (t_hR2 k2 (by decide +kernel) (t_hR2 k1 (by decide +kernel) hR2)), (t_hR3 k2 (by decide +kernel) (t_hR3 k1 (by decide +kernel) hR3)), (t_hDg k2 (by decide +kernel) (t_hDg k1 (by decide +kernel) hDg)), (t_hSg k2 (by decide +kernel) (t_hSg k1 (by decide +kernel) hSg)), (t_hPl k2 (by decide +kernel) p1), (t_hMa k2 (by decide +kernel) (t_hMa k1 (by decide +kernel) hMa)), (t_hWt k2 (by decide +kernel) (t_hWt k1 (by decide +kernel) hWt)), (t_hRd k2 (by decide +kernel) (t_hRd k1 (by decide +kernel) hRd)), m1, ⟨m4, m5⟩, (t_hMk k2 (by decide +kernel) (t_hMk k1 (by decide +kernel) hMk)), (t_hMs k2 (by decide +kernel) (t_hMs k1 (by decide +kernel) hMs)), (t_hMp k2 (by decide +kernel) (t_hMp k1 (by decide +kernel) hMp)), (t_hMx k2 (by decide +kernel) (t_hMx k1 (by decide +kernel) hMx)), (moK_fr hmk m3 (by decide)), ((m3 7 (by decide)).trans hF1), (fun q => ((m3 6 (by decide)).trans (hF2 q))), (m2.trans (by rw [if_pos rfl, if_neg (by decide)])), (fun q => absurd q (by decide)), ⟨((m3 46 (by decide)).trans hF5.1), ((m3 47 (by decide)).trans hF5.2.1), ((m3 48 (by decide)).trans hF5.2.2.1), ((m3 49 (by decide)).trans hF5.2.2.2.1), ((m3 50 (by decide)).trans hF5.2.2.2.2)⟩, ⟨hBb.1, isB_cz hBb.2.1 hBb.2.1, hBb.2.2.1, hBb.2.2.2⟩, ⟨hcb.1, ⟨by omega, by omega⟩, hcb.2.2.1, hcb.2.2.2⟩, ⟨(if_neg (by decide)).trans hsz.1, if_pos rfl, (if_neg (by decide)).trans hsz.2.2.1, (if_neg (by decide)).trans hsz.2.2.2⟩, (ag_oth ha0 (by omega) m7), (ag_cpy ha1 (fun i h1 h2 => (congrArg b2 (by omega)).trans ((m6 i h1 h2).trans (congrArg b (by omega))))), (ag_oth ha2 (by omega) m7), (ag_oth ha3 (by omega) m7), hmd, ⟨Or.inl rfl, hpm.2.1, hpm.2.2.1, fun q => absurd q (by decide)⟩, hst⟩
    · skip
      refine ⟨_, _, c_Df_copy_12 E f bk wi ns n1 n2 g2 c2 g1 c1 hDf hR2 hcb.2.2.1 hR1 hcb.2.1 (by omega), fun f1 hm => ?_⟩
      obtain ⟨r1, k1⟩ := hm
      refine ⟨⟨_, (k1 61 (by decide)).trans hMo⟩, ?_⟩
      refine CF.mono (c_Mo_copy E f1 F 1 2 _ b sz (t_hMo k1 (by decide +kernel) hMo) hmk hF3 (t_hMB k1 (by decide +kernel) hMB).1 (t_hMB k1 (by decide +kernel) hMB).2 (szO hsz hcb) ⟨by decide, by decide, by rw [if_pos rfl]; omega⟩) ?_
      rintro r f2 ⟨hr, F2, b2, m1, m2, m3, m4, m5, m6, m7, k2⟩
      refine ⟨hr, ?_⟩
      rw [hsz.2.1] at m5 m6 m7
      exact ⟨bk, wi, ns, n1, n2, g0, c0, g1, c1, (cz g1 g2 0 0 c1), c1, g3, c3, W, Fs, L, md, bl, ct, P, pm, pw, ps, F2, b2, (uz sz 2 c1), Wm, Am, Lm, mt, ms, ma, mn, (t_hDf k2 (by decide +kernel) (t_hDf k1 (by decide +kernel) hDf)), (t_hR0 k2 (by decide +kernel) (t_hR0 k1 (by decide +kernel) hR0)), (t_hR1 k2 (by decide +kernel) (t_hR1 k1 (by decide +kernel) hR1)), (t_hR2 k2 (by decide +kernel) r1), (t_hR3 k2 (by decide +kernel) (t_hR3 k1 (by decide +kernel) hR3)), (t_hDg k2 (by decide +kernel) (t_hDg k1 (by decide +kernel) hDg)), (t_hSg k2 (by decide +kernel) (t_hSg k1 (by decide +kernel) hSg)), (t_hPl k2 (by decide +kernel) (t_hPl k1 (by decide +kernel) hPl)), (t_hMa k2 (by decide +kernel) (t_hMa k1 (by decide +kernel) hMa)), (t_hWt k2 (by decide +kernel) (t_hWt k1 (by decide +kernel) hWt)), (t_hRd k2 (by decide +kernel) (t_hRd k1 (by decide +kernel) hRd)), m1, ⟨m4, m5⟩, (t_hMk k2 (by decide +kernel) (t_hMk k1 (by decide +kernel) hMk)), (t_hMs k2 (by decide +kernel) (t_hMs k1 (by decide +kernel) hMs)), (t_hMp k2 (by decide +kernel) (t_hMp k1 (by decide +kernel) hMp)), (t_hMx k2 (by decide +kernel) (t_hMx k1 (by decide +kernel) hMx)), (moK_fr hmk m3 (by decide)), ((m3 7 (by decide)).trans hF1), (fun q => ((m3 6 (by decide)).trans (hF2 q))), (m2.trans (by rw [if_neg (by decide)])), (fun q => ⟨((m3 12 (by decide)).trans ((hF4 q).1)), ((m3 13 (by decide)).trans ((hF4 q).2))⟩), ⟨((m3 46 (by decide)).trans hF5.1), ((m3 47 (by decide)).trans hF5.2.1), ((m3 48 (by decide)).trans hF5.2.2.1), ((m3 49 (by decide)).trans hF5.2.2.2.1), ((m3 50 (by decide)).trans hF5.2.2.2.2)⟩, ⟨hBb.1, hBb.2.1, isB_cz hBb.2.1 hBb.2.2.1, hBb.2.2.2⟩, ⟨hcb.1, hcb.2.1, ⟨by omega, by omega⟩, hcb.2.2.2⟩, ⟨(if_neg (by decide)).trans hsz.1, (if_neg (by decide)).trans hsz.2.1, if_pos rfl, (if_neg (by decide)).trans hsz.2.2.2⟩, (ag_oth ha0 (by omega) m7), (ag_oth ha1 (by omega) m7), (ag_cpy ha1 (fun i h1 h2 => (congrArg b2 (by omega)).trans ((m6 i h1 h2).trans (congrArg b (by omega))))), (ag_oth ha3 (by omega) m7), hmd, hpm, hst⟩
    · skip
      by_cases hl : c2 ≤ 300
      · skip
        refine ⟨_, _, c_Df_copy_20 E f bk wi ns n1 n2 g0 c0 g2 c2 hDf hR0 hcb.1 hR2 hcb.2.2.1 (by omega), fun f1 hm => ?_⟩
        obtain ⟨r1, k1⟩ := hm
        refine ⟨⟨_, (k1 61 (by decide)).trans hMo⟩, ?_⟩
        refine CF.mono (c_Mo_copy E f1 F 2 0 _ b sz (t_hMo k1 (by decide +kernel) hMo) hmk hF3 (t_hMB k1 (by decide +kernel) hMB).1 (t_hMB k1 (by decide +kernel) hMB).2 (szO hsz hcb) ⟨by decide, by decide, by rw [if_neg (by decide)]; omega⟩) ?_
        rintro r f2 ⟨hr, F2, b2, m1, m2, m3, m4, m5, m6, m7, k2⟩
        refine ⟨hr, ?_⟩
        rw [hsz.2.2.1] at m5 m6 m7
        exact ⟨bk, wi, ns, n1, n2, (cz g2 g0 0 0 c2), c2, g1, c1, g2, c2, g3, c3, W, Fs, L, md, bl, ct, P, pm, pw, ps, F2, b2, (uz sz 0 c2), Wm, Am, Lm, mt, ms, ma, mn, (t_hDf k2 (by decide +kernel) (t_hDf k1 (by decide +kernel) hDf)), (t_hR0 k2 (by decide +kernel) r1), (t_hR1 k2 (by decide +kernel) (t_hR1 k1 (by decide +kernel) hR1)), (t_hR2 k2 (by decide +kernel) (t_hR2 k1 (by decide +kernel) hR2)), (t_hR3 k2 (by decide +kernel) (t_hR3 k1 (by decide +kernel) hR3)), (t_hDg k2 (by decide +kernel) (t_hDg k1 (by decide +kernel) hDg)), (t_hSg k2 (by decide +kernel) (t_hSg k1 (by decide +kernel) hSg)), (t_hPl k2 (by decide +kernel) (t_hPl k1 (by decide +kernel) hPl)), (t_hMa k2 (by decide +kernel) (t_hMa k1 (by decide +kernel) hMa)), (t_hWt k2 (by decide +kernel) (t_hWt k1 (by decide +kernel) hWt)), (t_hRd k2 (by decide +kernel) (t_hRd k1 (by decide +kernel) hRd)), m1, ⟨m4, m5⟩, (t_hMk k2 (by decide +kernel) (t_hMk k1 (by decide +kernel) hMk)), (t_hMs k2 (by decide +kernel) (t_hMs k1 (by decide +kernel) hMs)), (t_hMp k2 (by decide +kernel) (t_hMp k1 (by decide +kernel) hMp)), (t_hMx k2 (by decide +kernel) (t_hMx k1 (by decide +kernel) hMx)), (moK_fr hmk m3 (by decide)), ((m3 7 (by decide)).trans hF1), (fun q => ((m3 6 (by decide)).trans (hF2 q))), (m2.trans (by rw [if_neg (by decide)])), (fun q => ⟨((m3 12 (by decide)).trans ((hF4 q).1)), ((m3 13 (by decide)).trans ((hF4 q).2))⟩), ⟨((m3 46 (by decide)).trans hF5.1), ((m3 47 (by decide)).trans hF5.2.1), ((m3 48 (by decide)).trans hF5.2.2.1), ((m3 49 (by decide)).trans hF5.2.2.2.1), ((m3 50 (by decide)).trans hF5.2.2.2.2)⟩, ⟨isB_cz hBb.2.2.1 hBb.1, hBb.2.1, hBb.2.2.1, hBb.2.2.2⟩, ⟨⟨by omega, by omega⟩, hcb.2.1, hcb.2.2.1, hcb.2.2.2⟩, ⟨if_pos rfl, (if_neg (by decide)).trans hsz.2.1, (if_neg (by decide)).trans hsz.2.2.1, (if_neg (by decide)).trans hsz.2.2.2⟩, (ag_cpy ha2 (fun i h1 h2 => (congrArg b2 (by omega)).trans ((m6 i h1 h2).trans (congrArg b (by omega))))), (ag_oth ha1 (by omega) m7), (ag_oth ha2 (by omega) m7), (ag_oth ha3 (by omega) m7), hmd, hpm, hst⟩
      · skip
        refine ⟨_, _, c_Df_copy_no20 E f bk wi ns n1 n2 g0 c0 g2 c2 hDf hR0 hcb.1 hR2 hcb.2.2.1 (by omega), fun f1 hm => ?_⟩
        obtain rfl := hm.symm
        refine ⟨⟨_, hMo⟩, ?_⟩
        refine CF.mono (c_Mo_copy_no E f F 2 0 b sz hMo hmk hMB.1 hMB.2 (szO hsz hcb) (Or.inr (Or.inr ⟨by decide, by decide, by rw [if_neg (by decide)]; omega⟩)) (by omega)) ?_
        rintro r f2 ⟨hr, e2⟩
        rw [e2]
        exact ⟨hr, hI⟩
    · skip
      by_cases hl : c2 ≤ 300
      · skip
        refine ⟨_, _, c_Df_copy_21 E f bk wi ns n1 n2 g1 c1 g2 c2 P pm pw ps hDf hR1 hcb.2.1 hR2 hcb.2.2.1 hPl (by omega), fun f1 hm => ?_⟩
        obtain ⟨r1, p1, k1⟩ := hm
        refine ⟨⟨_, (k1 61 (by decide)).trans hMo⟩, ?_⟩
        refine CF.mono (c_Mo_copy E f1 F 2 1 _ b sz (t_hMo k1 (by decide +kernel) hMo) hmk hF3 (t_hMB k1 (by decide +kernel) hMB).1 (t_hMB k1 (by decide +kernel) hMB).2 (szO hsz hcb) ⟨by decide, by decide, by rw [if_neg (by decide)]; omega⟩) ?_
        rintro r f2 ⟨hr, F2, b2, m1, m2, m3, m4, m5, m6, m7, k2⟩
        refine ⟨hr, ?_⟩
        rw [hsz.2.2.1] at m5 m6 m7
        exact ⟨bk, wi, ns, n1, n2, g0, c0, (cz g2 g1 0 0 c2), c2, g2, c2, g3, c3, W, Fs, L, md, bl, ct, P, 0, pw, ps, F2, b2, (uz sz 1 c2), Wm, Am, Lm, mt, ms, ma, mn, (t_hDf k2 (by decide +kernel) (t_hDf k1 (by decide +kernel) hDf)), (t_hR0 k2 (by decide +kernel) (t_hR0 k1 (by decide +kernel) hR0)), (t_hR1 k2 (by decide +kernel) r1), (t_hR2 k2 (by decide +kernel) (t_hR2 k1 (by decide +kernel) hR2)), (t_hR3 k2 (by decide +kernel) (t_hR3 k1 (by decide +kernel) hR3)), (t_hDg k2 (by decide +kernel) (t_hDg k1 (by decide +kernel) hDg)), (t_hSg k2 (by decide +kernel) (t_hSg k1 (by decide +kernel) hSg)), (t_hPl k2 (by decide +kernel) p1), (t_hMa k2 (by decide +kernel) (t_hMa k1 (by decide +kernel) hMa)), (t_hWt k2 (by decide +kernel) (t_hWt k1 (by decide +kernel) hWt)), (t_hRd k2 (by decide +kernel) (t_hRd k1 (by decide +kernel) hRd)), m1, ⟨m4, m5⟩, (t_hMk k2 (by decide +kernel) (t_hMk k1 (by decide +kernel) hMk)), (t_hMs k2 (by decide +kernel) (t_hMs k1 (by decide +kernel) hMs)), (t_hMp k2 (by decide +kernel) (t_hMp k1 (by decide +kernel) hMp)), (t_hMx k2 (by decide +kernel) (t_hMx k1 (by decide +kernel) hMx)), (moK_fr hmk m3 (by decide)), ((m3 7 (by decide)).trans hF1), (fun q => ((m3 6 (by decide)).trans (hF2 q))), (m2.trans (by rw [if_pos rfl, if_neg (by decide)])), (fun q => absurd q (by decide)), ⟨((m3 46 (by decide)).trans hF5.1), ((m3 47 (by decide)).trans hF5.2.1), ((m3 48 (by decide)).trans hF5.2.2.1), ((m3 49 (by decide)).trans hF5.2.2.2.1), ((m3 50 (by decide)).trans hF5.2.2.2.2)⟩, ⟨hBb.1, isB_cz hBb.2.2.1 hBb.2.1, hBb.2.2.1, hBb.2.2.2⟩, ⟨hcb.1, ⟨by omega, by omega⟩, hcb.2.2.1, hcb.2.2.2⟩, ⟨(if_neg (by decide)).trans hsz.1, if_pos rfl, (if_neg (by decide)).trans hsz.2.2.1, (if_neg (by decide)).trans hsz.2.2.2⟩, (ag_oth ha0 (by omega) m7), (ag_cpy ha2 (fun i h1 h2 => (congrArg b2 (by omega)).trans ((m6 i h1 h2).trans (congrArg b (by omega))))), (ag_oth ha2 (by omega) m7), (ag_oth ha3 (by omega) m7), hmd, ⟨Or.inl rfl, hpm.2.1, hpm.2.2.1, fun q => absurd q (by decide)⟩, hst⟩
      · skip
        refine ⟨_, _, c_Df_copy_no21 E f bk wi ns n1 n2 g1 c1 g2 c2 P pm pw ps hDf hR1 hcb.2.1 hR2 hcb.2.2.1 hPl (by omega), fun f1 hm => ?_⟩
        obtain rfl := hm.symm
        refine ⟨⟨_, hMo⟩, ?_⟩
        refine CF.mono (c_Mo_copy_no E f F 2 1 b sz hMo hmk hMB.1 hMB.2 (szO hsz hcb) (Or.inr (Or.inr ⟨by decide, by decide, by rw [if_neg (by decide)]; omega⟩)) (by omega)) ?_
        rintro r f2 ⟨hr, e2⟩
        rw [e2]
        exact ⟨hr, hI⟩
    · skip
      refine ⟨_, _, c_Df_copy_22 E f bk wi ns n1 n2 g2 c2 hDf hR2 hcb.2.2.1 (by omega), fun f1 hm => ?_⟩
      obtain ⟨r1, k1⟩ := hm
      refine ⟨⟨_, (k1 61 (by decide)).trans hMo⟩, ?_⟩
      refine CF.mono (c_Mo_copy E f1 F 2 2 _ b sz (t_hMo k1 (by decide +kernel) hMo) hmk hF3 (t_hMB k1 (by decide +kernel) hMB).1 (t_hMB k1 (by decide +kernel) hMB).2 (szO hsz hcb) ⟨by decide, by decide, by rw [if_pos rfl]; omega⟩) ?_
      rintro r f2 ⟨hr, F2, b2, m1, m2, m3, m4, m5, m6, m7, k2⟩
      refine ⟨hr, ?_⟩
      rw [hsz.2.2.1] at m5 m6 m7
      exact ⟨bk, wi, ns, n1, n2, g0, c0, g1, c1, (cz g2 g2 0 0 c2), c2, g3, c3, W, Fs, L, md, bl, ct, P, pm, pw, ps, F2, b2, (uz sz 2 c2), Wm, Am, Lm, mt, ms, ma, mn, (t_hDf k2 (by decide +kernel) (t_hDf k1 (by decide +kernel) hDf)), (t_hR0 k2 (by decide +kernel) (t_hR0 k1 (by decide +kernel) hR0)), (t_hR1 k2 (by decide +kernel) (t_hR1 k1 (by decide +kernel) hR1)), (t_hR2 k2 (by decide +kernel) r1), (t_hR3 k2 (by decide +kernel) (t_hR3 k1 (by decide +kernel) hR3)), (t_hDg k2 (by decide +kernel) (t_hDg k1 (by decide +kernel) hDg)), (t_hSg k2 (by decide +kernel) (t_hSg k1 (by decide +kernel) hSg)), (t_hPl k2 (by decide +kernel) (t_hPl k1 (by decide +kernel) hPl)), (t_hMa k2 (by decide +kernel) (t_hMa k1 (by decide +kernel) hMa)), (t_hWt k2 (by decide +kernel) (t_hWt k1 (by decide +kernel) hWt)), (t_hRd k2 (by decide +kernel) (t_hRd k1 (by decide +kernel) hRd)), m1, ⟨m4, m5⟩, (t_hMk k2 (by decide +kernel) (t_hMk k1 (by decide +kernel) hMk)), (t_hMs k2 (by decide +kernel) (t_hMs k1 (by decide +kernel) hMs)), (t_hMp k2 (by decide +kernel) (t_hMp k1 (by decide +kernel) hMp)), (t_hMx k2 (by decide +kernel) (t_hMx k1 (by decide +kernel) hMx)), (moK_fr hmk m3 (by decide)), ((m3 7 (by decide)).trans hF1), (fun q => ((m3 6 (by decide)).trans (hF2 q))), (m2.trans (by rw [if_neg (by decide)])), (fun q => ⟨((m3 12 (by decide)).trans ((hF4 q).1)), ((m3 13 (by decide)).trans ((hF4 q).2))⟩), ⟨((m3 46 (by decide)).trans hF5.1), ((m3 47 (by decide)).trans hF5.2.1), ((m3 48 (by decide)).trans hF5.2.2.1), ((m3 49 (by decide)).trans hF5.2.2.2.1), ((m3 50 (by decide)).trans hF5.2.2.2.2)⟩, ⟨hBb.1, hBb.2.1, isB_cz hBb.2.2.1 hBb.2.2.1, hBb.2.2.2⟩, ⟨hcb.1, hcb.2.1, ⟨by omega, by omega⟩, hcb.2.2.2⟩, ⟨(if_neg (by decide)).trans hsz.1, (if_neg (by decide)).trans hsz.2.1, if_pos rfl, (if_neg (by decide)).trans hsz.2.2.2⟩, (ag_oth ha0 (by omega) m7), (ag_oth ha1 (by omega) m7), (ag_cpy ha2 (fun i h1 h2 => (congrArg b2 (by omega)).trans ((m6 i h1 h2).trans (congrArg b (by omega))))), (ag_oth ha3 (by omega) m7), hmd, hpm, hst⟩
    · skip
      refine ⟨_, _, c_Df_copy_30 E f bk wi ns n1 n2 g0 c0 g3 c3 hDf hR0 hcb.1 hR3 hcb.2.2.2 (by omega), fun f1 hm => ?_⟩
      obtain ⟨r1, k1⟩ := hm
      refine ⟨⟨_, (k1 61 (by decide)).trans hMo⟩, ?_⟩
      refine CF.mono (c_Mo_copy E f1 F 3 0 _ b sz (t_hMo k1 (by decide +kernel) hMo) hmk hF3 (t_hMB k1 (by decide +kernel) hMB).1 (t_hMB k1 (by decide +kernel) hMB).2 (szO hsz hcb) ⟨by decide, by decide, by rw [if_neg (by decide)]; omega⟩) ?_
      rintro r f2 ⟨hr, F2, b2, m1, m2, m3, m4, m5, m6, m7, k2⟩
      refine ⟨hr, ?_⟩
      rw [hsz.2.2.2] at m5 m6 m7
      exact ⟨bk, wi, ns, n1, n2, (cz g3 g0 0 0 c3), c3, g1, c1, g2, c2, g3, c3, W, Fs, L, md, bl, ct, P, pm, pw, ps, F2, b2, (uz sz 0 c3), Wm, Am, Lm, mt, ms, ma, mn, (t_hDf k2 (by decide +kernel) (t_hDf k1 (by decide +kernel) hDf)), (t_hR0 k2 (by decide +kernel) r1), (t_hR1 k2 (by decide +kernel) (t_hR1 k1 (by decide +kernel) hR1)), (t_hR2 k2 (by decide +kernel) (t_hR2 k1 (by decide +kernel) hR2)), (t_hR3 k2 (by decide +kernel) (t_hR3 k1 (by decide +kernel) hR3)), (t_hDg k2 (by decide +kernel) (t_hDg k1 (by decide +kernel) hDg)), (t_hSg k2 (by decide +kernel) (t_hSg k1 (by decide +kernel) hSg)), (t_hPl k2 (by decide +kernel) (t_hPl k1 (by decide +kernel) hPl)), (t_hMa k2 (by decide +kernel) (t_hMa k1 (by decide +kernel) hMa)), (t_hWt k2 (by decide +kernel) (t_hWt k1 (by decide +kernel) hWt)), (t_hRd k2 (by decide +kernel) (t_hRd k1 (by decide +kernel) hRd)), m1, ⟨m4, m5⟩, (t_hMk k2 (by decide +kernel) (t_hMk k1 (by decide +kernel) hMk)), (t_hMs k2 (by decide +kernel) (t_hMs k1 (by decide +kernel) hMs)), (t_hMp k2 (by decide +kernel) (t_hMp k1 (by decide +kernel) hMp)), (t_hMx k2 (by decide +kernel) (t_hMx k1 (by decide +kernel) hMx)), (moK_fr hmk m3 (by decide)), ((m3 7 (by decide)).trans hF1), (fun q => ((m3 6 (by decide)).trans (hF2 q))), (m2.trans (by rw [if_neg (by decide)])), (fun q => ⟨((m3 12 (by decide)).trans ((hF4 q).1)), ((m3 13 (by decide)).trans ((hF4 q).2))⟩), ⟨((m3 46 (by decide)).trans hF5.1), ((m3 47 (by decide)).trans hF5.2.1), ((m3 48 (by decide)).trans hF5.2.2.1), ((m3 49 (by decide)).trans hF5.2.2.2.1), ((m3 50 (by decide)).trans hF5.2.2.2.2)⟩, ⟨isB_cz hBb.2.2.2 hBb.1, hBb.2.1, hBb.2.2.1, hBb.2.2.2⟩, ⟨⟨by omega, by omega⟩, hcb.2.1, hcb.2.2.1, hcb.2.2.2⟩, ⟨if_pos rfl, (if_neg (by decide)).trans hsz.2.1, (if_neg (by decide)).trans hsz.2.2.1, (if_neg (by decide)).trans hsz.2.2.2⟩, (ag_cpy ha3 (fun i h1 h2 => (congrArg b2 (by omega)).trans ((m6 i h1 h2).trans (congrArg b (by omega))))), (ag_oth ha1 (by omega) m7), (ag_oth ha2 (by omega) m7), (ag_oth ha3 (by omega) m7), hmd, hpm, hst⟩
    · skip
      refine ⟨_, _, c_Df_copy_31 E f bk wi ns n1 n2 g1 c1 g3 c3 P pm pw ps hDf hR1 hcb.2.1 hR3 hcb.2.2.2 hPl (by omega), fun f1 hm => ?_⟩
      obtain ⟨r1, p1, k1⟩ := hm
      refine ⟨⟨_, (k1 61 (by decide)).trans hMo⟩, ?_⟩
      refine CF.mono (c_Mo_copy E f1 F 3 1 _ b sz (t_hMo k1 (by decide +kernel) hMo) hmk hF3 (t_hMB k1 (by decide +kernel) hMB).1 (t_hMB k1 (by decide +kernel) hMB).2 (szO hsz hcb) ⟨by decide, by decide, by rw [if_neg (by decide)]; omega⟩) ?_
      rintro r f2 ⟨hr, F2, b2, m1, m2, m3, m4, m5, m6, m7, k2⟩
      refine ⟨hr, ?_⟩
      rw [hsz.2.2.2] at m5 m6 m7
      exact ⟨bk, wi, ns, n1, n2, g0, c0, (cz g3 g1 0 0 c3), c3, g2, c2, g3, c3, W, Fs, L, md, bl, ct, P, 0, pw, ps, F2, b2, (uz sz 1 c3), Wm, Am, Lm, mt, ms, ma, mn, (t_hDf k2 (by decide +kernel) (t_hDf k1 (by decide +kernel) hDf)), (t_hR0 k2 (by decide +kernel) (t_hR0 k1 (by decide +kernel) hR0)), (t_hR1 k2 (by decide +kernel) r1), (t_hR2 k2 (by decide +kernel) (t_hR2 k1 (by decide +kernel) hR2)), (t_hR3 k2 (by decide +kernel) (t_hR3 k1 (by decide +kernel) hR3)), (t_hDg k2 (by decide +kernel) (t_hDg k1 (by decide +kernel) hDg)), (t_hSg k2 (by decide +kernel) (t_hSg k1 (by decide +kernel) hSg)), (t_hPl k2 (by decide +kernel) p1), (t_hMa k2 (by decide +kernel) (t_hMa k1 (by decide +kernel) hMa)), (t_hWt k2 (by decide +kernel) (t_hWt k1 (by decide +kernel) hWt)), (t_hRd k2 (by decide +kernel) (t_hRd k1 (by decide +kernel) hRd)), m1, ⟨m4, m5⟩, (t_hMk k2 (by decide +kernel) (t_hMk k1 (by decide +kernel) hMk)), (t_hMs k2 (by decide +kernel) (t_hMs k1 (by decide +kernel) hMs)), (t_hMp k2 (by decide +kernel) (t_hMp k1 (by decide +kernel) hMp)), (t_hMx k2 (by decide +kernel) (t_hMx k1 (by decide +kernel) hMx)), (moK_fr hmk m3 (by decide)), ((m3 7 (by decide)).trans hF1), (fun q => ((m3 6 (by decide)).trans (hF2 q))), (m2.trans (by rw [if_pos rfl, if_neg (by decide)])), (fun q => absurd q (by decide)), ⟨((m3 46 (by decide)).trans hF5.1), ((m3 47 (by decide)).trans hF5.2.1), ((m3 48 (by decide)).trans hF5.2.2.1), ((m3 49 (by decide)).trans hF5.2.2.2.1), ((m3 50 (by decide)).trans hF5.2.2.2.2)⟩, ⟨hBb.1, isB_cz hBb.2.2.2 hBb.2.1, hBb.2.2.1, hBb.2.2.2⟩, ⟨hcb.1, ⟨by omega, by omega⟩, hcb.2.2.1, hcb.2.2.2⟩, ⟨(if_neg (by decide)).trans hsz.1, if_pos rfl, (if_neg (by decide)).trans hsz.2.2.1, (if_neg (by decide)).trans hsz.2.2.2⟩, (ag_oth ha0 (by omega) m7), (ag_cpy ha3 (fun i h1 h2 => (congrArg b2 (by omega)).trans ((m6 i h1 h2).trans (congrArg b (by omega))))), (ag_oth ha2 (by omega) m7), (ag_oth ha3 (by omega) m7), hmd, ⟨Or.inl rfl, hpm.2.1, hpm.2.2.1, fun q => absurd q (by decide)⟩, hst⟩
    · skip
      refine ⟨_, _, c_Df_copy_32 E f bk wi ns n1 n2 g2 c2 g3 c3 hDf hR2 hcb.2.2.1 hR3 hcb.2.2.2 (by omega), fun f1 hm => ?_⟩
      obtain ⟨r1, k1⟩ := hm
      refine ⟨⟨_, (k1 61 (by decide)).trans hMo⟩, ?_⟩
      refine CF.mono (c_Mo_copy E f1 F 3 2 _ b sz (t_hMo k1 (by decide +kernel) hMo) hmk hF3 (t_hMB k1 (by decide +kernel) hMB).1 (t_hMB k1 (by decide +kernel) hMB).2 (szO hsz hcb) ⟨by decide, by decide, by rw [if_pos rfl]; omega⟩) ?_
      rintro r f2 ⟨hr, F2, b2, m1, m2, m3, m4, m5, m6, m7, k2⟩
      refine ⟨hr, ?_⟩
      rw [hsz.2.2.2] at m5 m6 m7
      exact ⟨bk, wi, ns, n1, n2, g0, c0, g1, c1, (cz g3 g2 0 0 c3), c3, g3, c3, W, Fs, L, md, bl, ct, P, pm, pw, ps, F2, b2, (uz sz 2 c3), Wm, Am, Lm, mt, ms, ma, mn, (t_hDf k2 (by decide +kernel) (t_hDf k1 (by decide +kernel) hDf)), (t_hR0 k2 (by decide +kernel) (t_hR0 k1 (by decide +kernel) hR0)), (t_hR1 k2 (by decide +kernel) (t_hR1 k1 (by decide +kernel) hR1)), (t_hR2 k2 (by decide +kernel) r1), (t_hR3 k2 (by decide +kernel) (t_hR3 k1 (by decide +kernel) hR3)), (t_hDg k2 (by decide +kernel) (t_hDg k1 (by decide +kernel) hDg)), (t_hSg k2 (by decide +kernel) (t_hSg k1 (by decide +kernel) hSg)), (t_hPl k2 (by decide +kernel) (t_hPl k1 (by decide +kernel) hPl)), (t_hMa k2 (by decide +kernel) (t_hMa k1 (by decide +kernel) hMa)), (t_hWt k2 (by decide +kernel) (t_hWt k1 (by decide +kernel) hWt)), (t_hRd k2 (by decide +kernel) (t_hRd k1 (by decide +kernel) hRd)), m1, ⟨m4, m5⟩, (t_hMk k2 (by decide +kernel) (t_hMk k1 (by decide +kernel) hMk)), (t_hMs k2 (by decide +kernel) (t_hMs k1 (by decide +kernel) hMs)), (t_hMp k2 (by decide +kernel) (t_hMp k1 (by decide +kernel) hMp)), (t_hMx k2 (by decide +kernel) (t_hMx k1 (by decide +kernel) hMx)), (moK_fr hmk m3 (by decide)), ((m3 7 (by decide)).trans hF1), (fun q => ((m3 6 (by decide)).trans (hF2 q))), (m2.trans (by rw [if_neg (by decide)])), (fun q => ⟨((m3 12 (by decide)).trans ((hF4 q).1)), ((m3 13 (by decide)).trans ((hF4 q).2))⟩), ⟨((m3 46 (by decide)).trans hF5.1), ((m3 47 (by decide)).trans hF5.2.1), ((m3 48 (by decide)).trans hF5.2.2.1), ((m3 49 (by decide)).trans hF5.2.2.2.1), ((m3 50 (by decide)).trans hF5.2.2.2.2)⟩, ⟨hBb.1, hBb.2.1, isB_cz hBb.2.2.2 hBb.2.2.1, hBb.2.2.2⟩, ⟨hcb.1, hcb.2.1, ⟨by omega, by omega⟩, hcb.2.2.2⟩, ⟨(if_neg (by decide)).trans hsz.1, (if_neg (by decide)).trans hsz.2.1, if_pos rfl, (if_neg (by decide)).trans hsz.2.2.2⟩, (ag_oth ha0 (by omega) m7), (ag_oth ha1 (by omega) m7), (ag_cpy ha3 (fun i h1 h2 => (congrArg b2 (by omega)).trans ((m6 i h1 h2).trans (congrArg b (by omega))))), (ag_oth ha3 (by omega) m7), hmd, hpm, hst⟩
  · skip
    refine ⟨_, _, c_Df_copy_nf E f bk wi ns n1 n2 a k hDf (by omega) (by omega), fun f1 hm => ?_⟩
    obtain rfl := hm.symm
    refine ⟨⟨_, hMo⟩, ?_⟩
    refine CF.mono (c_Mo_copy_no E f F a k b sz hMo hmk hMB.1 hMB.2 (szO hsz hcb) (by omega) (by omega)) ?_
    rintro r f2 ⟨hr, e2⟩
    rw [e2]
    exact ⟨hr, hI⟩
