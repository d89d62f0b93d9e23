/-! DeltaFerry: encode, differ; printed by wip/tools/m_df4.py -/
def enL (P : PS) (w s : Int) (g : Int → Int) (c ck : Int) : Nat → Int → Int → List Int
  | 0, _, _ => []
  | k + 1, num, a => if num * w < c then wnL P w s g c num a ck ++ enL P w s g c ck k (num + 1) (wnE P num a) else []
def enF (P : PS) (w s : Int) (g : Int → Int) (c ck : Int) : List Int := [214, 195, 196, 0, 0] ++ enL P w s g c ck c.toNat 0 0
theorem enL_e {P : PS} {w s : Int} {g : Int → Int} {c ck num a : Int} {k : Nat} (h : c ≤ num * w) : enL P w s g c ck k num a = [] := by
  cases k with
  | zero => rfl
  | succ k => unfold enL; rw [if_neg (by omega)]
theorem enL_s {P : PS} {w s : Int} {g : Int → Int} {c ck num a : Int} {k : Nat} (h : num * w < c) (hk : c - num * w ≤ k) : enL P w s g c ck k num a = wnL P w s g c num a ck ++ enL P w s g c ck (k - 1) (num + 1) (wnE P num a) := by
  cases k with
  | zero => exfalso; have : ((0 : Nat) : Int) = 0 := rfl; omega
  | succ k =>
    show (if num * w < c then _ else _) = _
    rw [if_pos h]; rfl
theorem wtS_keep {E : EV} {f f' : Nat → va_E} {S : List Nat} (h : Fr S f f') (hs : ∀ x, 32 ≤ x → x ≤ 43 → x ∉ S) (hw : wtS E f) : wtS E f' := by
  obtain ⟨g1, c1, g2, c2, g3, c3, g4, c4, m, nr, sm, N, S', T, h1, h2, h3, h4, h5, h6⟩ := hw
  have k : ∀ x, 32 ≤ x → x ≤ 43 → f' x = f x := fun x a b => h x (hs x a b)
  refine ⟨g1, c1, g2, c2, g3, c3, g4, c4, m, nr, sm, N, S', T, ⟨?_, ?_⟩, ⟨?_, ?_⟩, ⟨?_, ?_⟩, ⟨?_, ?_⟩, ?_, ⟨?_, ?_, ?_⟩⟩
  · rw [k 32 (by decide) (by decide)]; exact h1.1
  · rw [k 33 (by decide) (by decide)]; exact h1.2
  · rw [k 34 (by decide) (by decide)]; exact h2.1
  · rw [k 35 (by decide) (by decide)]; exact h2.2
  · rw [k 36 (by decide) (by decide)]; exact h3.1
  · rw [k 37 (by decide) (by decide)]; exact h3.2
  · rw [k 38 (by decide) (by decide)]; exact h4.1
  · rw [k 39 (by decide) (by decide)]; exact h4.2
  · rw [k 40 (by decide) (by decide)]; exact h5
  · rw [k 41 (by decide) (by decide)]; exact h6.1
  · rw [k 42 (by decide) (by decide)]; exact h6.2.1
  · rw [k 43 (by decide) (by decide)]; exact h6.2.2
theorem en_x {P : PS} {w c num a : Int} (h1 : (num + 1) * w = num * w + w) (h2 : psI P (wnE P num a) = num * w + (if w ≤ c - num * w then w else c - num * w)) : (num + 1) * w = psI P (wnE P num a) ∨ c ≤ (num + 1) * w := by
  rw [h1, h2]
  by_cases h9 : w ≤ c - num * w
  · rw [if_pos h9]; exact Or.inl rfl
  · exact Or.inr (by omega)
theorem en_c {w c num co co2 : Int} (h1 : co2 ≤ co + 5 * (if w ≤ c - num * w then w else c - num * w) + 20) (h2 : co ≤ 5 * (num * w) + 20 * num + 5) : co2 ≤ 5 * (if num * w + w ≤ c then num * w + w else c) + 20 * (num + 1) + 5 := by
  by_cases h9 : w ≤ c - num * w
  · rw [if_pos h9] at h1
    rw [if_pos (by omega)]
    omega
  · rw [if_neg h9] at h1
    rw [if_neg (by omega)]
    omega
theorem c_Df_encode (E : EV) (f : Nat → va_E) (bk wi ns : Int) (n1 n2 : Int64) (P : PS) (md w s : Int) (g gd go : Int → Int) (c cd co nx ck : Int) (hF : isDf E f bk wi ns n1 n2) (hP : isPl E f P md w s) (hmd : md = 1) (hB : plB P) (hR : isR E f 4 5 300 g c) (hg : isB g) (hRd : isR E f 6 7 700 gd cd) (hT : isWt E f nx) (hO : isR E f 30 31 1885 go co) (hS0 : wtS E f) (hW : plW P w c) (hw : 16 ≤ w ∧ w ≤ 256) (hc : 0 ≤ c ∧ c ≤ 300) (hso : 0 ≤ s ∧ s ≤ 300) (hcd : 0 ≤ cd ∧ cd ≤ 700) (hck : ck = 0 ∨ ck = 1) : CF yn_Df_encode cd_Df_encode 3 (some (.int)) 5 E [.ref (eA E 0), .int (zI ck)] f (fun r f' => (if 700 < ((enF P w s g c ck).length : Int) then r = some (.int (zI (-4))) ∧ isR E f' 6 7 700 gd cd else r = some (.int (zI ((enF P w s g c ck).length : Int))) ∧ (∃ gd', isR E f' 6 7 700 gd' ((enF P w s g c ck).length : Int) ∧ rep gd' ((enF P w s g c ck).length : Int) (enF P w s g c ck) ∧ ∀ k : Int, ((enF P w s g c ck).length : Int) ≤ k → gd' k = gd k)) ∧ (∃ go' co' nx', isWt E f' nx' ∧ isR E f' 30 31 1885 go' co' ∧ wtS E f') ∧ Fr [6, 7, 29, 30, 31, 32, 33, 34, 35, 36, 37, 38, 39, 40, 41, 42, 43] f f') := by
  refine CF.of (by decide +kernel) (Nat.le_of_ble_eq_true rfl) fun X hX hE => ?_
  have hX : Ok E X "DeltaFerry" "encode" cd_Df_encode 3 (some (.int)) (rl 5) := hX
  refine G_cast (lv' := [(0, .ref (eA E 0)), (1, .int (zI ck))]) ?_ rfl rfl rfl rfl
  subst hmd
  refine G_aload_n hX 0 rfl rfl d_Df_encode_0 ?_
  refine F_get hX fg_Df_39 d_Df_encode_1 0 (by decide) hF.1 rfl ?_
  refine F_get hX fg_Df_175 d_Df_encode_4 22 (by decide) hP.1 rfl ?_
  refine G_if_ne_z hX (tgt := 12) d_Df_encode_7 rfl (by omega) (fun c1 => ?_) (fun c2 => by exfalso; omega)
  refine G_aload_n hX 0 rfl rfl d_Df_encode_12 ?_
  refine F_get hX fg_Df_53 d_Df_encode_13 0 (by decide) hF.1 rfl ?_
  refine F_callV hX (st := []) (c_Wt_open E f nx go co hT ⟨hO.1, hO.2⟩) cm_Wt_open im_Wt_open se_Wt_open rfl ml_Df_188 d_Df_encode_16 (by decide) hT rfl rfl (Nat.le_of_ble_eq_true rfl) (by decide) ?_
  rintro _ f3 ⟨rfl, h7, ⟨g6, ⟨h8, h9⟩, rp10⟩, k11⟩
  have hS1 : wtS E f3 := wtS_keep k11 (fun x h1 h2 => by simp only [List.mem_cons, List.not_mem_nil, or_false]; omega) hS0
  refine G_cast (st' := []) ?_ rfl rfl rfl rfl
  refine G_iconst hX d_Df_encode_19 ?_
  refine G_istore_n hX (lv' := [(2, .int (zI 0)), (0, .ref (eA E 0)), (1, .int (zI ck))]) rfl (by decide) rfl d_Df_encode_20 ?_
  have loop12 : ∀ (q : Nat) (num : Int) (a : Int) (go1 : Int → Int) (co1 : Int) (Lo : List Int) (kk : Nat) (f13 : Nat → va_E), (c - num * w).toNat < q → (0 ≤ num ∧ num * w ≤ c + w) → (0 ≤ a ∧ a ≤ pC P) → (num * w = psI P a ∨ c ≤ num * w) → (rep go1 co1 Lo) → (co1 ≤ 5 * (if num * w ≤ c then num * w else c) + 20 * num + 5) → (c - num * w ≤ kk) → (wtS E f13) → (enF P w s g c ck = Lo ++ enL P w s g c ck kk num a) → f13 29 = ob 10 [.ref (eA E 30), .ref (eA E 32), .ref (eA E 34), .ref (eA E 36), .ref (eA E 38), .ref (eA E 40), .ref (eA E 41), .int (zI a)] → f13 30 = ob 6 [.ref (eA E 31), .int (zI co1)] → f13 31 = iz E 1885 go1 → Fr [29, 30, 31, 32, 33, 34, 35, 36, 37, 38, 39, 40, 41, 42, 43] f3 f13 → G E X 0 0 21 [(0, .ref (eA E 0)), (1, .int (zI ck)), (2, .int (zI num))] [] (wl E f13) := by
    intro q
    induction q with
    | zero => intro num a go1 co1 Lo kk f13 hms15; exact absurd hms15 (Nat.not_lt_zero _)
    | succ q ih16 =>
      intro num a go1 co1 Lo kk f13 hms15 hnu ha9 hx hrp hco hkk hS2 hs h17 h18 h19 k14
      have hnw : num * 16 ≤ num * w := Int.mul_le_mul_of_nonneg_left hw.1 hnu.1
      have hco0 := hrp.1
      have hco2 : co1 ≤ 1505 + 20 * num := by split at hco <;> omega
      have hn1 : (num + 1) * w = num * w + w := by rw [Int.add_mul, Int.one_mul]
      refine G_iload_n hX 2 rfl rfl d_Df_encode_21 ?_
      refine G_aload_n hX 0 rfl rfl d_Df_encode_22 ?_
      have h20 : f13 0 = ob 11 [.ref (eA E 1), .ref (eA E 10), .ref (eA E 13), .ref (eA E 14), .ref (eA E 22), .ref (eA E 27), .ref (eA E 29), .ref (eA E 44), .int (zI bk), .int (zI wi), .int (zI ns), .long n1, .long n2] := (k14 0 (by decide)).trans ((k11 0 (by decide)).trans hF.1)
      refine F_get hX fg_Df_39 d_Df_encode_23 0 (by decide) h20 rfl ?_
      have h21 : f13 22 = ob 4 [.ref (eA E 23), .ref (eA E 24), .ref (eA E 25), .ref (eA E 26), .int (zI 1), .int (zI (pC P)), .int (zI w), .int (zI s)] := (k14 22 (by decide)).trans ((k11 22 (by decide)).trans hP.1)
      refine F_get hX fg_Df_190 d_Df_encode_26 22 (by decide) h21 rfl ?_
      refine G_imul_z hX d_Df_encode_29 ?_
      refine G_aload_n hX 0 rfl rfl d_Df_encode_30 ?_
      refine F_get hX fg_Df_9 d_Df_encode_31 0 (by decide) h20 rfl ?_
      refine G_iconst hX d_Df_encode_34 ?_
      have h22 : f13 1 = ra E 4 (fun j => some (eA E (2 + 2 * j))) := (k14 1 (by decide)).trans ((k11 1 (by decide)).trans hF.2)
      refine F_aald hX d_Df_encode_35 1 (by decide) h22 (by decide) (a := eA E 4) rfl ?_
      have h23 : f13 4 = ob 6 [.ref (eA E 5), .int (zI c)] := (k14 4 (by decide)).trans ((k11 4 (by decide)).trans hR.1)
      refine F_get hX fg_Df_101 d_Df_encode_36 4 (by decide) h23 rfl ?_
      refine G_icmp_ge_z hX (tgt := 67) d_Df_encode_39 rfl (by omega) (fun c24 => ?_) (fun c25 => ?_)
      · skip
        refine G_aload_n hX 0 rfl rfl d_Df_encode_67 ?_
        refine F_get hX fg_Df_53 d_Df_encode_68 0 (by decide) h20 rfl ?_
        refine F_get hX fg_Df_195 d_Df_encode_71 29 (by decide) h17 rfl ?_
        refine F_get hX fg_Df_101 d_Df_encode_74 30 (by decide) h18 rfl ?_
        refine G_sipush hX (by decide) d_Df_encode_77 ?_
        refine G_icmp_le_z hX (tgt := 86) d_Df_encode_80 rfl (by omega) (fun c26 => ?_) (fun c27 => ?_)
        · skip
          refine G_aload_n hX 0 rfl rfl d_Df_encode_86 ?_
          refine F_get hX fg_Df_9 d_Df_encode_87 0 (by decide) h20 rfl ?_
          refine G_iconst hX d_Df_encode_90 ?_
          refine F_aald hX d_Df_encode_91 1 (by decide) h22 (by decide) (a := eA E 6) rfl ?_
          refine G_aload_n hX 0 rfl rfl d_Df_encode_92 ?_
          refine F_get hX fg_Df_53 d_Df_encode_93 0 (by decide) h20 rfl ?_
          refine F_get hX fg_Df_195 d_Df_encode_96 29 (by decide) h17 rfl ?_
          have h28 : f13 6 = ob 6 [.ref (eA E 7), .int (zI cd)] := (k14 6 (by decide)).trans ((k11 6 (by decide)).trans hRd.1)
          have h29 : f13 7 = iz E 700 gd := (k14 7 (by decide)).trans ((k11 7 (by decide)).trans hRd.2)
          refine F_callV hX (st := []) (c_Ro_become E f13 6 7 700 gd cd 30 31 1885 go1 co1 (by decide) (by decide) (by decide) ⟨h28, h29⟩ (by omega) (by decide) (by decide) (by decide) (by decide) ⟨h18, h19⟩ (by omega)) cm_Ro_become im_Ro_become se_Ro_become rfl ml_Df_104 d_Df_encode_99 (by decide) h28 rfl rfl (Nat.le_of_ble_eq_true rfl) (by decide) ?_
          rintro _ f30 ⟨rfl, ⟨h33, h34⟩, k35⟩
          refine G_cast (st' := []) ?_ rfl rfl rfl rfl
          refine G_aload_n hX 0 rfl rfl d_Df_encode_102 ?_
          have h36 : f30 0 = ob 11 [.ref (eA E 1), .ref (eA E 10), .ref (eA E 13), .ref (eA E 14), .ref (eA E 22), .ref (eA E 27), .ref (eA E 29), .ref (eA E 44), .int (zI bk), .int (zI wi), .int (zI ns), .long n1, .long n2] := (k35 0 (by decide)).trans h20
          refine F_get hX fg_Df_9 d_Df_encode_103 0 (by decide) h36 rfl ?_
          refine G_iconst hX d_Df_encode_106 ?_
          have h37 : f30 1 = ra E 4 (fun j => some (eA E (2 + 2 * j))) := (k35 1 (by decide)).trans h22
          refine F_aald hX d_Df_encode_107 1 (by decide) h37 (by decide) (a := eA E 6) rfl ?_
          refine F_get hX fg_Df_101 d_Df_encode_108 6 (by decide) h33 rfl ?_
          rw [enL_e (by omega), List.append_nil] at hs
          have hlen := hrp.1
          rw [← hs] at hlen hrp
          have h38 : f30 29 = ob 10 [.ref (eA E 30), .ref (eA E 32), .ref (eA E 34), .ref (eA E 36), .ref (eA E 38), .ref (eA E 40), .ref (eA E 41), .int (zI a)] := (k35 29 (by decide)).trans h17
          have h39 : f30 30 = ob 6 [.ref (eA E 31), .int (zI co1)] := (k35 30 (by decide)).trans h18
          have h40 : f30 31 = iz E 1885 go1 := (k35 31 (by decide)).trans h19
          have hS41 : wtS E f30 := wtS_keep (S := [6, 7]) (Fr.tr Fr.rf k35 (by decide)) (by intro x h1 h2; simp only [List.mem_cons, List.not_mem_nil, or_false]; omega) hS2
          have hrc := rep_cz (g0 := go1) (p := 0) (m := co1) (rep_0 gd) (by omega)
          rw [rep_sl hrp, Int.zero_add, List.nil_append] at hrc
          refine F_iret hX hE d_Df_encode_111 ⟨?_, ⟨_, _, _, h38, ⟨h39, h40⟩, hS41⟩, (Fr.tr (Fr.tr (Fr.tr Fr.rf k11 (by decide)) k14 (by decide)) k35 (by decide))⟩
          rw [if_neg (by omega), ← hlen]
          exact ⟨rfl, _, ⟨h33, h34⟩, hrc, fun k hk => by unfold cz; rw [if_neg (by omega)]⟩
        · skip
          refine G_bipush hX (by decide) d_Df_encode_83 ?_
          rw [enL_e (by omega), List.append_nil] at hs
          have hlen := hrp.1
          rw [← hs] at hlen hrp
          have h42 : f13 6 = ob 6 [.ref (eA E 7), .int (zI cd)] := (k14 6 (by decide)).trans ((k11 6 (by decide)).trans hRd.1)
          have h43 : f13 7 = iz E 700 gd := (k14 7 (by decide)).trans ((k11 7 (by decide)).trans hRd.2)
          have hS44 : wtS E f13 := wtS_keep (S := [6, 7]) Fr.rf (by intro x h1 h2; simp only [List.mem_cons, List.not_mem_nil, or_false]; omega) hS2
          exact F_iret hX hE d_Df_encode_85 ⟨by rw [if_pos (by omega)]; exact ⟨rfl, h42, h43⟩, ⟨_, _, _, h17, ⟨h18, h19⟩, hS44⟩, (Fr.tr (Fr.tr Fr.rf k11 (by decide)) k14 (by decide))⟩
      · skip
        have hx9 : num * w = psI P a := by omega
        rw [if_pos (by omega)] at hco
        have hcw : co1 + 5 * (if w ≤ c - num * w then w else c - num * w) + 20 ≤ 1885 := by split <;> omega
        have hpe := wnOK_sz hW hw hc.2 ha9 hx9 (by omega)
        have hEb := wnE_b (P := P) (num := num) ha9.2
        refine G_aload_n hX 0 rfl rfl d_Df_encode_42 ?_
        refine F_get hX fg_Df_53 d_Df_encode_43 0 (by decide) h20 rfl ?_
        refine G_aload_n hX 0 rfl rfl d_Df_encode_46 ?_
        refine F_get hX fg_Df_39 d_Df_encode_47 0 (by decide) h20 rfl ?_
        refine G_aload_n hX 0 rfl rfl d_Df_encode_50 ?_
        refine F_get hX fg_Df_9 d_Df_encode_51 0 (by decide) h20 rfl ?_
        refine G_iconst hX d_Df_encode_54 ?_
        refine F_aald hX d_Df_encode_55 1 (by decide) h22 (by decide) (a := eA E 4) rfl ?_
        refine G_iload_n hX 2 rfl rfl d_Df_encode_56 ?_
        refine G_iload_n hX 1 rfl rfl d_Df_encode_57 ?_
        have h45 : f13 23 = iz E 300 (pT P) := (k14 23 (by decide)).trans ((k11 23 (by decide)).trans hP.2.1)
        have h46 : f13 24 = iz E 300 (pS P) := (k14 24 (by decide)).trans ((k11 24 (by decide)).trans hP.2.2.1)
        have h47 : f13 25 = iz E 300 (pA P) := (k14 25 (by decide)).trans ((k11 25 (by decide)).trans hP.2.2.2.1)
        have h48 : f13 26 = iz E 300 (pN P) := (k14 26 (by decide)).trans ((k11 26 (by decide)).trans hP.2.2.2.2)
        have h49 : f13 5 = iz E 300 g := (k14 5 (by decide)).trans ((k11 5 (by decide)).trans hR.2)
        refine F_callV hX (st := []) (c_Wt_writeWindow E f13 P 1 w s g go1 c co1 num a ck Lo h17 ⟨h21, h45, h46, h47, h48⟩ hB ⟨h23, h49⟩ hg ⟨h18, h19⟩ hrp hS2 hW hw hc ha9 hx9 (by omega) hso hcw hck) cm_Wt_writeWindow im_Wt_writeWindow se_Wt_writeWindow rfl ml_Df_191 d_Df_encode_58 (by decide) h17 rfl rfl (Nat.le_of_ble_eq_true rfl) (by decide) ?_
        rintro _ f50 ⟨rfl, h55, h56, ⟨g53, n54, ⟨h57, h58⟩, rp61, h59⟩, k62⟩
        refine G_cast (st' := []) ?_ rfl rfl rfl rfl
        refine G_iinc_z hX (lv' := [(2, .int (zI (num + 1))), (0, .ref (eA E 0)), (1, .int (zI ck))]) 2 rfl (by decide) rfl d_Df_encode_61 ?_
        refine G_goto hX (tgt := 21) d_Df_encode_64 rfl ?_
        refine G_loc (lv' := [(0, .ref (eA E 0)), (1, .int (zI ck)), (2, .int (zI (num + 1)))]) [1, 2, 0] rfl ?_
        exact ih16 (num + 1) (wnE P num a) g53 n54 (Lo ++ wnL P w s g c num a ck) (kk - 1) f50 (by rw [hn1]; omega) ⟨by omega, by rw [hn1]; omega⟩ (by omega) (en_x hn1 hpe) rp61 (by rw [hn1]; exact en_c h59 hco) (by rw [hn1]; omega) h56 (by rw [hs, enL_s (by omega) hkk, List.append_assoc]) h55 h57 h58 (Fr.tr (Fr.tr Fr.rf k14 (by decide)) k62 (by decide))
  refine G_loc (lv' := [(0, .ref (eA E 0)), (1, .int (zI ck)), (2, .int (zI 0))]) [1, 2, 0] rfl ?_
  exact loop12 (_ + 1) 0 0 g6 5 ([214, 195, 196, 0, 0]) c.toNat f3 (Nat.lt_succ_self _) ⟨Int.le_refl 0, by rw [Int.zero_mul]; omega⟩ ⟨Int.le_refl 0, hW.1.1⟩ (Or.inl (by rw [Int.zero_mul]; rfl)) rp10 (by rw [Int.zero_mul, if_pos hc.1]; omega) (by omega) hS1 rfl h7 h8 h9 Fr.rf
