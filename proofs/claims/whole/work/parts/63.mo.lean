/-! DeltaFerryModel: instructions; printed by wip/tools/m_mo12.py -/
/-- rows that agree below c -/
def agB (o m : Int → Int) (c : Int) : Prop := ∀ i, 0 ≤ i → i < c → o i = m i
theorem agB_u {o m : Int → Int} {c v x : Int} (h : agB o m c) (hx : x = c) : agB (uz o x v) (uz m c v) (c + 1) := by
  subst hx
  intro i h1 h2
  unfold uz
  split
  · rfl
  · exact h i h1 (by omega)
theorem agB_e {o m m2 : Int → Int} {c : Int} (h : agB o m c) (h2 : ∀ i, 0 ≤ i → i < c → m i = m2 i) : agB o m2 c := fun i a b => (h i a b).trans (h2 i a b)
theorem cz_at {g m : Int → Int} {p c n i : Int} (h : 0 ≤ i ∧ i < n) : cz g m p c n (c + i) = g (p + i) := by
  unfold cz; rw [if_pos (by omega)]; congr 1; omega
theorem cz_lo2 {g m : Int → Int} {p c n j : Int} (h : j < c) : cz g m p c n j = m j := by
  unfold cz; rw [if_neg (by omega)]
theorem pz_at2 {m b : Int → Int} {c n i : Int} (h : 0 ≤ i ∧ i < n) : pz m c b n (c + i) = b i := by
  unfold pz; rw [if_pos (by omega)]; congr 1; omega
theorem pz_lo2 {m b : Int → Int} {c n j : Int} (h : j < c) : pz m c b n j = m j := by
  unfold pz; rw [if_neg (by omega)]
theorem ag_st {o m2 : Int → Int} {c v x : Int} (h : agB o m2 c) (hx : x = c) (hv : v = m2 c) : agB (uz o x v) m2 (c + 1) := by
  subst hx
  intro i h1 h2
  unfold uz
  split
  · rename_i e; rw [e, hv]
  · exact h i h1 (by omega)
theorem hrR_bd {nr sm g : Int → Int} {N S md here p e : Int} (hG : isB g) (hnr : ∀ k, 0 ≤ nr k ∧ nr k ≤ 100000) (hsm : ∀ k, 0 ≤ sm k ∧ sm k ≤ 100000) (hp : p ≤ e) (hh : 0 ≤ here ∧ here ≤ 100000) : -1000000000 ≤ (hrR nr sm N S md here g p e).1 ∧ (hrR nr sm N S md here g p e).1 < 1000000000 := by
  have h4 := numL_4 hG hp
  have h1 := hnr (md - 2)
  have h2 := hsm (256 * (md - 2 - N) + g p)
  unfold hrR
  by_cases q1 : md < 2 + N
  · rw [if_pos q1]
    by_cases q2 : (numL g e 4 p 0).1 < 0
    · rw [if_pos q2]; exact ⟨show (-1000000000 : Int) ≤ -1 by decide, show (-1 : Int) < 1000000000 by decide⟩
    · rw [if_neg q2]
      show -1000000000 ≤ (if md = 0 then _ else _) ∧ (if md = 0 then _ else _) < 1000000000
      by_cases q3 : md = 0
      · rw [if_pos q3]; omega
      · rw [if_neg q3]
        by_cases q4 : md = 1
        · rw [if_pos q4]; omega
        · rw [if_neg q4]; omega
  · rw [if_neg q1]
    by_cases q2 : md < 2 + N + S
    · rw [if_pos q2]
      by_cases q3 : p < e
      · rw [if_pos q3]; exact ⟨by omega, by omega⟩
      · rw [if_neg q3]; exact ⟨show (-1000000000 : Int) ≤ -1 by decide, show (-1 : Int) < 1000000000 by decide⟩
    · rw [if_neg q2]; exact ⟨show (-1000000000 : Int) ≤ -1 by decide, show (-1 : Int) < 1000000000 by decide⟩
theorem c_Mo_sourceByte (E : EV) (f : Nat → va_E) (F : Nat → Value) (x : Int) (K : WK) (oo : Int) (c : Int) (ob : Int → Int) (o : Int → Int) (old : Int → Int) (m : Int → Int) (oc : Int) (hMo : f 61 = mob F) (hmk : moK E F) (hF39 : F 39 = .int (zI (kF K))) (hF40 : F 40 = .int (zI (kS K))) (hF41 : F 41 = .int (zI oo)) (hF42 : F 42 = .int (zI (kT K))) (hc81 : f 81 = iz E 1536 ob) (hc82 : f 82 = iz E 1536 o) (hoo : (oo = 1 ∧ kO K = 2) ∨ (oo = 0 ∧ ¬ kO K = 2)) (hK : (0 ≤ kT K ∧ 0 ≤ kS K ∧ 0 ≤ kF K) ∧ (kO K = 2 → kF K + kS K ≤ kT K) ∧ (¬ kO K = 2 → kF K + kS K ≤ oc) ∧ 0 ≤ oc ∧ oc ≤ 1536) (hold : agB ob old oc) (hout : agB o m c) (hc : kT K ≤ c ∧ c ≤ 1536) (hx : 0 ≤ x ∧ x < kS K + (c - kT K)) : CF yn_Mo_sourceByte cd_Mo_sourceByte 2 (some (.int)) 0 E [.ref (eA E 61), .int (zI x)] f (fun r f' => r = some (.int (zI (sbW K old m x))) ∧ f' = f) := by
  refine CF.of (by decide +kernel) (Nat.le_of_ble_eq_true rfl) fun X hX hE => ?_
  have hX : Ok E X "DeltaFerryModel" "sourceByte" cd_Mo_sourceByte 2 (some (.int)) (rl 0) := hX
  refine G_cast (lv' := [(0, .ref (eA E 61)), (1, .int (zI x))]) ?_ rfl rfl rfl rfl
  refine G_iload_n hX 1 rfl rfl d_Mo_sourceByte_0 ?_
  refine G_aload_n hX 0 rfl rfl d_Mo_sourceByte_1 ?_
  refine M_get hX fg_Mo_373 d_Mo_sourceByte_2 hMo (by decide) hF40 ?_
  refine G_icmp_lt_z hX (tgt := 25) d_Mo_sourceByte_5 rfl (by omega) (fun c1 => ?_) (fun c2 => ?_)
  · skip
    refine G_aload_n hX 0 rfl rfl d_Mo_sourceByte_25 ?_
    refine M_get hX fg_Mo_379 d_Mo_sourceByte_26 hMo (by decide) hF41 ?_
    refine G_if_eq_z hX (tgt := 46) d_Mo_sourceByte_29 rfl (by omega) (fun c3 => ?_) (fun c4 => ?_)
    · skip
      refine G_aload_n hX 0 rfl rfl d_Mo_sourceByte_46 ?_
      refine M_get hX fg_Mo_139 d_Mo_sourceByte_47 hMo (by decide) (hmk 35 81 (by decide)) ?_
      refine G_aload_n hX 0 rfl rfl d_Mo_sourceByte_50 ?_
      refine M_get hX fg_Mo_383 d_Mo_sourceByte_51 hMo (by decide) hF39 ?_
      refine G_iload_n hX 1 rfl rfl d_Mo_sourceByte_54 ?_
      refine G_iadd_z hX d_Mo_sourceByte_55 ?_
      refine F_iald hX d_Mo_sourceByte_56 81 (by decide) hc81 (by omega) ?_
      refine G_top (show zI (ob ((kF K) + x)) = zI (old ((kF K) + x)) from congrArg zI (hold _ (by omega) (by omega))) ?_
      exact F_iret hX hE d_Mo_sourceByte_57 ⟨by unfold sbW; rw [if_pos (by omega), if_neg (by omega)], rfl⟩
    · skip
      refine G_aload_n hX 0 rfl rfl d_Mo_sourceByte_32 ?_
      refine M_get hX fg_Mo_142 d_Mo_sourceByte_33 hMo (by decide) (hmk 38 82 (by decide)) ?_
      refine G_aload_n hX 0 rfl rfl d_Mo_sourceByte_36 ?_
      refine M_get hX fg_Mo_383 d_Mo_sourceByte_37 hMo (by decide) hF39 ?_
      refine G_iload_n hX 1 rfl rfl d_Mo_sourceByte_40 ?_
      refine G_iadd_z hX d_Mo_sourceByte_41 ?_
      refine F_iald hX d_Mo_sourceByte_42 82 (by decide) hc82 (by omega) ?_
      refine G_top (show zI (o ((kF K) + x)) = zI (m ((kF K) + x)) from congrArg zI (hout _ (by omega) (by omega))) ?_
      refine G_goto hX (tgt := 57) d_Mo_sourceByte_43 rfl ?_
      exact F_iret hX hE d_Mo_sourceByte_57 ⟨by unfold sbW; rw [if_pos (by omega), if_pos (by omega)], rfl⟩
  · skip
    refine G_aload_n hX 0 rfl rfl d_Mo_sourceByte_8 ?_
    refine M_get hX fg_Mo_142 d_Mo_sourceByte_9 hMo (by decide) (hmk 38 82 (by decide)) ?_
    refine G_aload_n hX 0 rfl rfl d_Mo_sourceByte_12 ?_
    refine M_get hX fg_Mo_376 d_Mo_sourceByte_13 hMo (by decide) hF42 ?_
    refine G_iload_n hX 1 rfl rfl d_Mo_sourceByte_16 ?_
    refine G_iadd_z hX d_Mo_sourceByte_17 ?_
    refine G_aload_n hX 0 rfl rfl d_Mo_sourceByte_18 ?_
    refine M_get hX fg_Mo_373 d_Mo_sourceByte_19 hMo (by decide) hF40 ?_
    refine G_isub_z hX d_Mo_sourceByte_22 ?_
    refine F_iald hX d_Mo_sourceByte_23 82 (by decide) hc82 (by omega) ?_
    refine G_top (show zI (o (((kT K) + x) - (kS K))) = zI (m (((kT K) + x) - (kS K))) from congrArg zI (hout _ (by omega) (by omega))) ?_
    exact F_iret hX hE d_Mo_sourceByte_24 ⟨by unfold sbW; rw [if_neg (by omega)], rfl⟩
theorem c_Mo_make1_ok (E : EV) (f : Nat → va_E) (F : Nat → Value) (n : Int) (md : Int) (K : WK) (oo : Int) (c : Int) (N : Int) (S : Int) (T : Int) (ob : Int → Int) (o : Int → Int) (old : Int → Int) (m : Int → Int) (oc : Int) (nr : Int → Int) (sm : Int → Int) (av : Int → Int) (ev : Int → Int) (b : Int → Int) (g : Int → Int) (sE : Int) (hMo : f 61 = mob F) (hmk : moK E F) (hF25 : F 25 = .int (zI N)) (hF26 : F 26 = .int (zI S)) (hF27 : F 27 = .int (zI T)) (hF32 : F 32 = .int (zI 0)) (hF36 : F 36 = .int (zI c)) (hF39 : F 39 = .int (zI (kF K))) (hF40 : F 40 = .int (zI (kS K))) (hF41 : F 41 = .int (zI oo)) (hF42 : F 42 = .int (zI (kT K))) (hF43 : F 43 = .int (zI (kZ K))) (hc81 : f 81 = iz E 1536 ob) (hc82 : f 82 = iz E 1536 o) (hc78 : f 78 = iz E 8 nr) (hc79 : f 79 = iz E 1024 sm) (hc83 : f 83 = iz E 3 av) (hc84 : f 84 = iz E 3 ev) (hc63 : f 63 = iz E 1600 b) (hoo : (oo = 1 ∧ kO K = 2) ∨ (oo = 0 ∧ ¬ kO K = 2)) (hK : (0 ≤ kT K ∧ 0 ≤ kS K ∧ 0 ≤ kF K) ∧ (kO K = 2 → kF K + kS K ≤ kT K) ∧ (¬ kO K = 2 → kF K + kS K ≤ oc) ∧ 0 ≤ oc ∧ oc ≤ 1536) (hold : agB ob old oc) (hout : agB o m c) (hn : 0 ≤ n ∧ n < 268435456) (hmd : 0 ≤ md ∧ md < 256) (hc : kT K ≤ c ∧ c ≤ kT K + kZ K ∧ kT K + kZ K ≤ 1536) (hN : 0 ≤ N ∧ N ≤ 8 ∧ 0 ≤ S ∧ S ≤ 4) (hT : 0 ≤ T ∧ T < 8 ∧ (0 < N → T < N)) (hnr : ∀ k, 0 ≤ nr k ∧ nr k ≤ 100000) (hsm : ∀ k, 0 ≤ sm k ∧ sm k ≤ 100000) (hG : isB g) (hgb : ∀ i, 0 ≤ i → i < sE → b (600 + i) = g i) (hav : avB av) (hev : avB ev) (hen : (av 0 ≤ ev 0 ∧ ev 0 ≤ sE) ∧ (av 1 ≤ ev 1 ∧ ev 1 ≤ sE) ∧ (av 2 ≤ ev 2 ∧ ev 2 ≤ sE)) (hsE : sE ≤ 700) (hk : n ≤ kT K + kZ K - c ∧ n ≤ ev 0 - av 0) : CF yn_Mo_make cd_Mo_make 8 none 4 E [.ref (eA E 61), .int (zI 1), .int (zI n), .int (zI md)] f (fun r f' => r = none ∧ ∃ (F' : Nat → Value) (o' : Int → Int), f' 61 = mob F' ∧ F' 36 = .int (zI (c + n)) ∧ FrF [36] F F' ∧ f' 82 = iz E 1536 o' ∧ f' 83 = iz E 3 (uz av 0 (av 0 + n)) ∧ (agB o' (cz g m (av 0) c n) (c + n)) ∧ Fr [82, 83, 61] f f') := by
  refine CF.of (by decide +kernel) (Nat.le_of_ble_eq_true rfl) fun X hX hE => ?_
  have hX : Ok E X "DeltaFerryModel" "make" cd_Mo_make 8 none (rl 4) := hX
  refine G_cast (lv' := [(0, .ref (eA E 61)), (1, .int (zI 1)), (2, .int (zI n)), (3, .int (zI md))]) ?_ rfl rfl rfl rfl
  have hv0 := hav 0 (by decide) (by decide)
  have hv2 := hav 2 (by decide) (by decide)
  have hv1 := hav 1 (by decide) (by decide)
  have he0 := hev 0 (by decide) (by decide)
  have he2 := hev 2 (by decide) (by decide)
  have hen2 : ∀ i, 0 ≤ i → i ≤ 2 → ev i ≤ sE := fun i h1 h2 => by rcases (show i = 0 ∨ i = 1 ∨ i = 2 by omega) with h | h | h <;> rw [h] <;> omega
  have hhe : kS K + c - kT K ≤ 100000 := by rcases hoo with q | q; (have := hK.2.1 q.2; omega); (have := hK.2.2.1 q.2; omega)
  refine G_aload_n hX 0 rfl rfl d_Mo_make_0 ?_
  refine M_get hX fg_Mo_373 d_Mo_make_1 hMo (by decide) hF40 ?_
  refine G_aload_n hX 0 rfl rfl d_Mo_make_4 ?_
  refine M_get hX fg_Mo_386 d_Mo_make_5 hMo (by decide) hF36 ?_
  refine G_iadd_z hX d_Mo_make_8 ?_
  refine G_aload_n hX 0 rfl rfl d_Mo_make_9 ?_
  refine M_get hX fg_Mo_376 d_Mo_make_10 hMo (by decide) hF42 ?_
  refine G_isub_z hX d_Mo_make_13 ?_
  refine G_istore hX (lv' := [(4, .int (zI (((kS K) + c) - (kT K)))), (0, .ref (eA E 61)), (1, .int (zI 1)), (2, .int (zI n)), (3, .int (zI md))]) (by decide) rfl d_Mo_make_14 ?_
  refine G_aload_n hX 1 rfl rfl d_Mo_make_16 ?_
  refine M_get hX fg_Mo_386 d_Mo_make_17 hMo (by decide) hF36 ?_
  refine G_iload_n hX 3 rfl rfl d_Mo_make_20 ?_
  refine G_iadd_z hX d_Mo_make_21 ?_
  refine G_aload_n hX 1 rfl rfl d_Mo_make_22 ?_
  refine M_get hX fg_Mo_376 d_Mo_make_23 hMo (by decide) hF42 ?_
  refine G_aload_n hX 1 rfl rfl d_Mo_make_26 ?_
  refine M_get hX fg_Mo_389 d_Mo_make_27 hMo (by decide) hF43 ?_
  refine G_iadd_z hX d_Mo_make_30 ?_
  refine G_icmp_le_z hX (tgt := 40) d_Mo_make_31 rfl (by omega) (fun c1 => ?_) (fun c2 => by exfalso; omega)
  refine G_iload_n hX 2 rfl rfl d_Mo_make_40 ?_
  refine G_iconst hX d_Mo_make_41 ?_
  refine G_icmp_ne_z hX (tgt := 53) d_Mo_make_42 rfl (by omega) (fun c3 => ?_) (fun c4 => by exfalso; omega)
  refine G_iconst hX d_Mo_make_53 ?_
  refine G_istore hX (lv' := [(5, .int (zI 0)), (4, .int (zI (((kS K) + c) - (kT K)))), (0, .ref (eA E 61)), (1, .int (zI 1)), (2, .int (zI n)), (3, .int (zI md))]) (by decide) rfl d_Mo_make_54 ?_
  refine G_iload_n hX 3 rfl rfl d_Mo_make_56 ?_
  refine G_iconst hX d_Mo_make_57 ?_
  refine G_icmp_ne_z hX (tgt := 71) d_Mo_make_58 rfl (by omega) (fun c5 => ?_) (fun c6 => by exfalso; omega)
  refine G_iconst hX d_Mo_make_71 ?_
  refine G_istore hX (lv' := [(6, .int (zI 0)), (5, .int (zI 0)), (4, .int (zI (((kS K) + c) - (kT K)))), (0, .ref (eA E 61)), (1, .int (zI 1)), (2, .int (zI n)), (3, .int (zI md))]) (by decide) rfl d_Mo_make_72 ?_
  refine G_iload_n hX 4 rfl rfl d_Mo_make_74 ?_
  refine G_iconst hX d_Mo_make_75 ?_
  refine G_icmp_ne_z hX (tgt := 97) d_Mo_make_76 rfl (by omega) (fun c7 => ?_) (fun c8 => by exfalso; omega)
  refine G_iload_n hX 4 rfl rfl d_Mo_make_97 ?_
  refine G_iconst hX d_Mo_make_98 ?_
  refine G_icmp_ne_z hX (tgt := 115) d_Mo_make_99 rfl (by omega) (fun c9 => ?_) (fun c10 => by exfalso; omega)
  refine G_iconst hX d_Mo_make_115 ?_
  refine G_istore hX (lv' := [(7, .int (zI 0)), (6, .int (zI 0)), (5, .int (zI 0)), (4, .int (zI (((kS K) + c) - (kT K)))), (0, .ref (eA E 61)), (1, .int (zI 1)), (2, .int (zI n)), (3, .int (zI md))]) (by decide) rfl d_Mo_make_116 ?_
  have loop14 : ∀ (q : Nat) (i : Int) (o1 : Int → Int) (F11 : Nat → Value) (f15 : Nat → va_E), (n - i).toNat < q → (0 ≤ i ∧ i ≤ n) → (agB o1 (cz g m (av 0) c n) (c + i)) → (F11 36 = .int (zI (c + i))) → (FrF [36] F F11) → f15 82 = iz E 1536 o1 → f15 83 = iz E 3 (uz av 0 (av 0 + i)) → f15 61 = mob F11 → Fr [82, 83, 61] f f15 → G E X 0 0 118 [(0, .ref (eA E 61)), (1, .int (zI 1)), (2, .int (zI n)), (5, .int (zI 0)), (6, .int (zI 0)), (7, .int (zI i))] [] (wl E f15) := by
    intro q
    induction q with
    | zero => intro i o1 F11 f15 hms17; exact absurd hms17 (Nat.not_lt_zero _)
    | succ q ih18 =>
      intro i o1 F11 f15 hms17 hi ho1 h12 k13 h19 h20 h21 k16
      refine G_iload hX 5 rfl d_Mo_make_118 ?_
      refine G_iload_n hX 2 rfl rfl d_Mo_make_120 ?_
      refine G_icmp_ge_z hX (tgt := 188) d_Mo_make_121 rfl (by omega) (fun c22 => ?_) (fun c23 => ?_)
      · skip
        obtain rfl : i = n := by omega
        exact F_vret hX hE d_Mo_make_188 ⟨rfl, F11, _, h21, h12, (FrF.tr FrF.rf k13 (by decide)), h19, h20, ho1, (Fr.tr Fr.rf k16 (by decide))⟩
      · skip
        refine G_aload_n hX 0 rfl rfl d_Mo_make_124 ?_
        have h24 : F11 32 = .int (zI 0) := (k13 32 (by decide)).trans hF32
        refine M_get hX fg_Mo_345 d_Mo_make_125 h21 (by decide) h24 ?_
        refine G_if_ne_z hX (tgt := 188) d_Mo_make_128 rfl (by omega) (fun c25 => by exfalso; omega) (fun c26 => ?_)
        refine G_aload_n hX 0 rfl rfl d_Mo_make_131 ?_
        have h27 : F11 38 = .ref (eA E 82) := (k13 38 (by decide)).trans (hmk 38 82 (by decide))
        refine M_get hX fg_Mo_142 d_Mo_make_132 h21 (by decide) h27 ?_
        refine G_aload_n hX 0 rfl rfl d_Mo_make_135 ?_
        refine M_get hX fg_Mo_386 d_Mo_make_136 h21 (by decide) h12 ?_
        refine G_iload_n hX 1 rfl rfl d_Mo_make_139 ?_
        refine G_iconst hX d_Mo_make_140 ?_
        refine G_icmp_ne_z hX (tgt := 152) d_Mo_make_141 rfl (by omega) (fun c28 => by exfalso; omega) (fun c29 => ?_)
        refine G_aload_n hX 0 rfl rfl d_Mo_make_144 ?_
        refine G_iconst hX d_Mo_make_145 ?_
        have h30 : f15 84 = iz E 3 ev := (k16 84 (by decide)).trans hc84
        have h31 : f15 63 = iz E 1600 b := (k16 63 (by decide)).trans hc63
        refine F_callV hX (st := [.int (zI (c + i)), .ref (eA E 82)]) (c_Mo_readPart_ok E f15 F11 0 (uz av 0 (av 0 + i)) ev b g sE h21 (moK_fr hmk (FrF.tr (FrF.rf (S := [36])) k13 (by decide)) (by decide)) h20 h30 h31 (by omega) hG hgb (by rw [uz_at]; omega)) cm_Mo_readPart im_Mo_readPart se_Mo_readPart rfl ml_Mo_361 d_Mo_make_146 (by decide) h21 rfl rfl (Nat.le_of_ble_eq_true rfl) (by decide) ?_
        rintro _ f32 ⟨rfl, h35, k36⟩
        refine G_cast (st' := [.int (zI (g ((uz av 0 (av 0 + i)) 0))), .int (zI (c + i)), .ref (eA E 82)]) ?_ rfl rfl rfl rfl
        refine G_top (show zI (g ((uz av 0 (av 0 + i)) 0)) = zI (g (av 0 + i)) from congrArg (fun z => zI (g z)) (uz_at av 0 (av 0 + i))) ?_
        refine G_goto hX (tgt := 171) d_Mo_make_149 rfl ?_
        have h37 : f32 82 = iz E 1536 o1 := (k36 82 (by decide)).trans h19
        refine F_iast hX d_Mo_make_171 82 (by decide) h37 (by omega) (fun f38 h39 k40 => ?_)
        refine G_aload_n hX 0 rfl rfl d_Mo_make_172 ?_
        refine G_dup hX rfl d_Mo_make_173 ?_
        have h41 : f38 61 = mob F11 := (k40 61 (by decide)).trans ((k36 61 (by decide)).trans h21)
        refine M_get hX fg_Mo_386 d_Mo_make_174 h41 (by decide) h12 ?_
        refine G_iconst hX d_Mo_make_177 ?_
        refine G_iadd_z hX d_Mo_make_178 ?_
        refine M_put hX fg_Mo_386 fp_Mo_36 d_Mo_make_179 h41 rfl rfl (by decide) (fun f42 F43 h44 h45 k46 k47 => ?_)
        refine G_iinc_z hX (lv' := [(7, .int (zI (i + 1))), (0, .ref (eA E 61)), (1, .int (zI 1)), (2, .int (zI n)), (5, .int (zI 0)), (6, .int (zI 0))]) 5 rfl (by decide) rfl d_Mo_make_182 ?_
        refine G_goto hX (tgt := 118) d_Mo_make_185 rfl ?_
        have h48 : f42 82 = iz E 1536 (uz o1 (c + i) (g (av 0 + i))) := (k47 82 (by decide)).trans h39
        have h49 : f42 83 = iz E 3 (uz (uz av 0 (av 0 + i)) 0 ((uz av 0 (av 0 + i)) 0 + 1)) := (k47 83 (by decide)).trans ((k40 83 (by decide)).trans h35)
        refine G_loc (lv' := [(0, .ref (eA E 61)), (1, .int (zI 1)), (2, .int (zI n)), (5, .int (zI 0)), (6, .int (zI 0)), (7, .int (zI (i + 1)))]) [1, 2, 3, 4, 5, 0] rfl ?_
        exact ih18 (i + 1) (uz o1 (c + i) (g (av 0 + i))) F43 f42 (by omega) (by omega) (by rw [← Int.add_assoc]; exact ag_st ho1 rfl (cz_at (by omega)).symm) (by rw [← Int.add_assoc]; exact h45) (FrF.tr (FrF.tr FrF.rf k13 (by decide)) k46 (by decide)) h48 (by rw [← uz_uz av 0 (av 0 + i) (av 0 + (i + 1))]; exact h49.trans (by rw [uz_at, Int.add_assoc])) h44 (Fr.tr (Fr.tr (Fr.tr (Fr.tr Fr.rf k16 (by decide)) k36 (by decide)) k40 (by decide)) k47 (by decide))
  refine G_loc (lv' := [(0, .ref (eA E 61)), (1, .int (zI 1)), (2, .int (zI n)), (5, .int (zI 0)), (6, .int (zI 0)), (7, .int (zI 0))]) [4, 5, 6, 2, 1, 0] rfl ?_
  exact loop14 (_ + 1) 0 o F f (Nat.lt_succ_self _) (by omega) (by rw [Int.add_zero]; exact agB_e hout (fun j h1 h2 => (cz_lo2 h2).symm)) (by rw [Int.add_zero]; exact hF36) FrF.rf hc82 (by rw [Int.add_zero, uz_self]; exact hc83) hMo Fr.rf
theorem c_Mo_make2_ok (E : EV) (f : Nat → va_E) (F : Nat → Value) (n : Int) (md : Int) (K : WK) (oo : Int) (c : Int) (N : Int) (S : Int) (T : Int) (ob : Int → Int) (o : Int → Int) (old : Int → Int) (m : Int → Int) (oc : Int) (nr : Int → Int) (sm : Int → Int) (av : Int → Int) (ev : Int → Int) (b : Int → Int) (g : Int → Int) (sE : Int) (hMo : f 61 = mob F) (hmk : moK E F) (hF25 : F 25 = .int (zI N)) (hF26 : F 26 = .int (zI S)) (hF27 : F 27 = .int (zI T)) (hF32 : F 32 = .int (zI 0)) (hF36 : F 36 = .int (zI c)) (hF39 : F 39 = .int (zI (kF K))) (hF40 : F 40 = .int (zI (kS K))) (hF41 : F 41 = .int (zI oo)) (hF42 : F 42 = .int (zI (kT K))) (hF43 : F 43 = .int (zI (kZ K))) (hc81 : f 81 = iz E 1536 ob) (hc82 : f 82 = iz E 1536 o) (hc78 : f 78 = iz E 8 nr) (hc79 : f 79 = iz E 1024 sm) (hc83 : f 83 = iz E 3 av) (hc84 : f 84 = iz E 3 ev) (hc63 : f 63 = iz E 1600 b) (hoo : (oo = 1 ∧ kO K = 2) ∨ (oo = 0 ∧ ¬ kO K = 2)) (hK : (0 ≤ kT K ∧ 0 ≤ kS K ∧ 0 ≤ kF K) ∧ (kO K = 2 → kF K + kS K ≤ kT K) ∧ (¬ kO K = 2 → kF K + kS K ≤ oc) ∧ 0 ≤ oc ∧ oc ≤ 1536) (hold : agB ob old oc) (hout : agB o m c) (hn : 0 ≤ n ∧ n < 268435456) (hmd : 0 ≤ md ∧ md < 256) (hc : kT K ≤ c ∧ c ≤ kT K + kZ K ∧ kT K + kZ K ≤ 1536) (hN : 0 ≤ N ∧ N ≤ 8 ∧ 0 ≤ S ∧ S ≤ 4) (hT : 0 ≤ T ∧ T < 8 ∧ (0 < N → T < N)) (hnr : ∀ k, 0 ≤ nr k ∧ nr k ≤ 100000) (hsm : ∀ k, 0 ≤ sm k ∧ sm k ≤ 100000) (hG : isB g) (hgb : ∀ i, 0 ≤ i → i < sE → b (600 + i) = g i) (hav : avB av) (hev : avB ev) (hen : (av 0 ≤ ev 0 ∧ ev 0 ≤ sE) ∧ (av 1 ≤ ev 1 ∧ ev 1 ≤ sE) ∧ (av 2 ≤ ev 2 ∧ ev 2 ≤ sE)) (hsE : sE ≤ 700) (hk : n ≤ kT K + kZ K - c ∧ av 0 < ev 0) : CF yn_Mo_make cd_Mo_make 8 none 4 E [.ref (eA E 61), .int (zI 2), .int (zI n), .int (zI md)] f (fun r f' => r = none ∧ ∃ (F' : Nat → Value) (o' : Int → Int), f' 61 = mob F' ∧ F' 36 = .int (zI (c + n)) ∧ FrF [36] F F' ∧ f' 82 = iz E 1536 o' ∧ f' 83 = iz E 3 (uz av 0 (av 0 + 1)) ∧ (agB o' (pz m c (fun _ => g (av 0)) n) (c + n)) ∧ Fr [82, 83, 61] f f') := by
  refine CF.of (by decide +kernel) (Nat.le_of_ble_eq_true rfl) fun X hX hE => ?_
  have hX : Ok E X "DeltaFerryModel" "make" cd_Mo_make 8 none (rl 4) := hX
  refine G_cast (lv' := [(0, .ref (eA E 61)), (1, .int (zI 2)), (2, .int (zI n)), (3, .int (zI md))]) ?_ rfl rfl rfl rfl
  have hv0 := hav 0 (by decide) (by decide)
  have hv2 := hav 2 (by decide) (by decide)
  have hv1 := hav 1 (by decide) (by decide)
  have he0 := hev 0 (by decide) (by decide)
  have he2 := hev 2 (by decide) (by decide)
  have hen2 : ∀ i, 0 ≤ i → i ≤ 2 → ev i ≤ sE := fun i h1 h2 => by rcases (show i = 0 ∨ i = 1 ∨ i = 2 by omega) with h | h | h <;> rw [h] <;> omega
  have hhe : kS K + c - kT K ≤ 100000 := by rcases hoo with q | q; (have := hK.2.1 q.2; omega); (have := hK.2.2.1 q.2; omega)
  refine G_aload_n hX 0 rfl rfl d_Mo_make_0 ?_
  refine M_get hX fg_Mo_373 d_Mo_make_1 hMo (by decide) hF40 ?_
  refine G_aload_n hX 0 rfl rfl d_Mo_make_4 ?_
  refine M_get hX fg_Mo_386 d_Mo_make_5 hMo (by decide) hF36 ?_
  refine G_iadd_z hX d_Mo_make_8 ?_
  refine G_aload_n hX 0 rfl rfl d_Mo_make_9 ?_
  refine M_get hX fg_Mo_376 d_Mo_make_10 hMo (by decide) hF42 ?_
  refine G_isub_z hX d_Mo_make_13 ?_
  refine G_istore hX (lv' := [(4, .int (zI (((kS K) + c) - (kT K)))), (0, .ref (eA E 61)), (1, .int (zI 2)), (2, .int (zI n)), (3, .int (zI md))]) (by decide) rfl d_Mo_make_14 ?_
  refine G_aload_n hX 1 rfl rfl d_Mo_make_16 ?_
  refine M_get hX fg_Mo_386 d_Mo_make_17 hMo (by decide) hF36 ?_
  refine G_iload_n hX 3 rfl rfl d_Mo_make_20 ?_
  refine G_iadd_z hX d_Mo_make_21 ?_
  refine G_aload_n hX 1 rfl rfl d_Mo_make_22 ?_
  refine M_get hX fg_Mo_376 d_Mo_make_23 hMo (by decide) hF42 ?_
  refine G_aload_n hX 1 rfl rfl d_Mo_make_26 ?_
  refine M_get hX fg_Mo_389 d_Mo_make_27 hMo (by decide) hF43 ?_
  refine G_iadd_z hX d_Mo_make_30 ?_
  refine G_icmp_le_z hX (tgt := 40) d_Mo_make_31 rfl (by omega) (fun c1 => ?_) (fun c2 => by exfalso; omega)
  refine G_iload_n hX 2 rfl rfl d_Mo_make_40 ?_
  refine G_iconst hX d_Mo_make_41 ?_
  refine G_icmp_ne_z hX (tgt := 53) d_Mo_make_42 rfl (by omega) (fun c3 => by exfalso; omega) (fun c4 => ?_)
  refine G_aload_n hX 1 rfl rfl d_Mo_make_45 ?_
  refine G_iconst hX d_Mo_make_46 ?_
  refine F_callV hX (st := []) (c_Mo_readPart_ok E f F 0 av ev b g sE hMo hmk hc83 hc84 hc63 (by omega) hG hgb (by omega)) cm_Mo_readPart im_Mo_readPart se_Mo_readPart rfl ml_Mo_361 d_Mo_make_47 (by decide) hMo rfl rfl (Nat.le_of_ble_eq_true rfl) (by decide) ?_
  rintro _ f5 ⟨rfl, h8, k9⟩
  refine G_cast (st' := [.int (zI (g (av 0)))]) ?_ rfl rfl rfl rfl
  refine G_goto hX (tgt := 54) d_Mo_make_50 rfl ?_
  refine G_istore hX (lv' := [(5, .int (zI (g (av 0)))), (4, .int (zI (((kS K) + c) - (kT K)))), (0, .ref (eA E 61)), (1, .int (zI 2)), (2, .int (zI n)), (3, .int (zI md))]) (by decide) rfl d_Mo_make_54 ?_
  refine G_iload_n hX 3 rfl rfl d_Mo_make_56 ?_
  refine G_iconst hX d_Mo_make_57 ?_
  refine G_icmp_ne_z hX (tgt := 71) d_Mo_make_58 rfl (by omega) (fun c10 => ?_) (fun c11 => by exfalso; omega)
  refine G_iconst hX d_Mo_make_71 ?_
  refine G_istore hX (lv' := [(6, .int (zI 0)), (5, .int (zI (g (av 0)))), (4, .int (zI (((kS K) + c) - (kT K)))), (0, .ref (eA E 61)), (1, .int (zI 2)), (2, .int (zI n)), (3, .int (zI md))]) (by decide) rfl d_Mo_make_72 ?_
  refine G_iload_n hX 4 rfl rfl d_Mo_make_74 ?_
  refine G_iconst hX d_Mo_make_75 ?_
  refine G_icmp_ne_z hX (tgt := 97) d_Mo_make_76 rfl (by omega) (fun c12 => ?_) (fun c13 => by exfalso; omega)
  refine G_iload_n hX 4 rfl rfl d_Mo_make_97 ?_
  refine G_iconst hX d_Mo_make_98 ?_
  refine G_icmp_ne_z hX (tgt := 115) d_Mo_make_99 rfl (by omega) (fun c14 => ?_) (fun c15 => by exfalso; omega)
  refine G_iconst hX d_Mo_make_115 ?_
  refine G_istore hX (lv' := [(7, .int (zI 0)), (6, .int (zI 0)), (5, .int (zI (g (av 0)))), (4, .int (zI (((kS K) + c) - (kT K)))), (0, .ref (eA E 61)), (1, .int (zI 2)), (2, .int (zI n)), (3, .int (zI md))]) (by decide) rfl d_Mo_make_116 ?_
  have loop19 : ∀ (q : Nat) (i : Int) (o1 : Int → Int) (F16 : Nat → Value) (f20 : Nat → va_E), (n - i).toNat < q → (0 ≤ i ∧ i ≤ n) → (agB o1 (pz m c (fun _ => g (av 0)) n) (c + i)) → (F16 36 = .int (zI (c + i))) → (FrF [36] F F16) → f20 82 = iz E 1536 o1 → f20 61 = mob F16 → Fr [82, 61] f5 f20 → G E X 0 0 118 [(0, .ref (eA E 61)), (1, .int (zI 2)), (2, .int (zI n)), (5, .int (zI (g (av 0)))), (6, .int (zI 0)), (7, .int (zI i))] [] (wl E f20) := by
    intro q
    induction q with
    | zero => intro i o1 F16 f20 hms22; exact absurd hms22 (Nat.not_lt_zero _)
    | succ q ih23 =>
      intro i o1 F16 f20 hms22 hi ho1 h17 k18 h24 h25 k21
      refine G_iload hX 5 rfl d_Mo_make_118 ?_
      refine G_iload_n hX 2 rfl rfl d_Mo_make_120 ?_
      refine G_icmp_ge_z hX (tgt := 188) d_Mo_make_121 rfl (by omega) (fun c26 => ?_) (fun c27 => ?_)
      · skip
        obtain rfl : i = n := by omega
        have h28 : f20 83 = iz E 3 (uz av 0 (av 0 + 1)) := (k21 83 (by decide)).trans h8
        exact F_vret hX hE d_Mo_make_188 ⟨rfl, F16, _, h25, h17, (FrF.tr FrF.rf k18 (by decide)), h24, h28, ho1, (Fr.tr (Fr.tr Fr.rf k9 (by decide)) k21 (by decide))⟩
      · skip
        refine G_aload_n hX 0 rfl rfl d_Mo_make_124 ?_
        have h29 : F16 32 = .int (zI 0) := (k18 32 (by decide)).trans hF32
        refine M_get hX fg_Mo_345 d_Mo_make_125 h25 (by decide) h29 ?_
        refine G_if_ne_z hX (tgt := 188) d_Mo_make_128 rfl (by omega) (fun c30 => by exfalso; omega) (fun c31 => ?_)
        refine G_aload_n hX 0 rfl rfl d_Mo_make_131 ?_
        have h32 : F16 38 = .ref (eA E 82) := (k18 38 (by decide)).trans (hmk 38 82 (by decide))
        refine M_get hX fg_Mo_142 d_Mo_make_132 h25 (by decide) h32 ?_
        refine G_aload_n hX 0 rfl rfl d_Mo_make_135 ?_
        refine M_get hX fg_Mo_386 d_Mo_make_136 h25 (by decide) h17 ?_
        refine G_iload_n hX 1 rfl rfl d_Mo_make_139 ?_
        refine G_iconst hX d_Mo_make_140 ?_
        refine G_icmp_ne_z hX (tgt := 152) d_Mo_make_141 rfl (by omega) (fun c33 => ?_) (fun c34 => by exfalso; omega)
        refine G_iload_n hX 1 rfl rfl d_Mo_make_152 ?_
        refine G_iconst hX d_Mo_make_153 ?_
        refine G_icmp_ne_z hX (tgt := 162) d_Mo_make_154 rfl (by omega) (fun c35 => by exfalso; omega) (fun c36 => ?_)
        refine G_iload hX 3 rfl d_Mo_make_157 ?_
        refine G_goto hX (tgt := 171) d_Mo_make_159 rfl ?_
        refine F_iast hX d_Mo_make_171 82 (by decide) h24 (by omega) (fun f37 h38 k39 => ?_)
        refine G_aload_n hX 0 rfl rfl d_Mo_make_172 ?_
        refine G_dup hX rfl d_Mo_make_173 ?_
        have h40 : f37 61 = mob F16 := (k39 61 (by decide)).trans h25
        refine M_get hX fg_Mo_386 d_Mo_make_174 h40 (by decide) h17 ?_
        refine G_iconst hX d_Mo_make_177 ?_
        refine G_iadd_z hX d_Mo_make_178 ?_
        refine M_put hX fg_Mo_386 fp_Mo_36 d_Mo_make_179 h40 rfl rfl (by decide) (fun f41 F42 h43 h44 k45 k46 => ?_)
        refine G_iinc_z hX (lv' := [(7, .int (zI (i + 1))), (0, .ref (eA E 61)), (1, .int (zI 2)), (2, .int (zI n)), (5, .int (zI (g (av 0)))), (6, .int (zI 0))]) 5 rfl (by decide) rfl d_Mo_make_182 ?_
        refine G_goto hX (tgt := 118) d_Mo_make_185 rfl ?_
        have h47 : f41 82 = iz E 1536 (uz o1 (c + i) (g (av 0))) := (k46 82 (by decide)).trans h38
        refine G_loc (lv' := [(0, .ref (eA E 61)), (1, .int (zI 2)), (2, .int (zI n)), (5, .int (zI (g (av 0)))), (6, .int (zI 0)), (7, .int (zI (i + 1)))]) [1, 2, 3, 4, 5, 0] rfl ?_
        exact ih23 (i + 1) (uz o1 (c + i) (g (av 0))) F42 f41 (by omega) (by omega) (by rw [← Int.add_assoc]; exact ag_st ho1 rfl (pz_at2 (b := fun _ => g (av 0)) (i := i) (by omega)).symm) (by rw [← Int.add_assoc]; exact h44) (FrF.tr (FrF.tr FrF.rf k18 (by decide)) k45 (by decide)) h47 h43 (Fr.tr (Fr.tr (Fr.tr Fr.rf k21 (by decide)) k39 (by decide)) k46 (by decide))
  have h48 : f5 82 = iz E 1536 o := (k9 82 (by decide)).trans hc82
  have h49 : f5 61 = mob F := (k9 61 (by decide)).trans hMo
  refine G_loc (lv' := [(0, .ref (eA E 61)), (1, .int (zI 2)), (2, .int (zI n)), (5, .int (zI (g (av 0)))), (6, .int (zI 0)), (7, .int (zI 0))]) [4, 5, 6, 2, 1, 0] rfl ?_
  exact loop19 (_ + 1) 0 o F f5 (Nat.lt_succ_self _) (by omega) (by rw [Int.add_zero]; exact agB_e hout (fun j h1 h2 => (pz_lo2 h2).symm)) (by rw [Int.add_zero]; exact hF36) FrF.rf h48 h49 Fr.rf
theorem c_Mo_make3_ok (E : EV) (f : Nat → va_E) (F : Nat → Value) (n : Int) (md : Int) (K : WK) (oo : Int) (c : Int) (N : Int) (S : Int) (T : Int) (ob : Int → Int) (o : Int → Int) (old : Int → Int) (m : Int → Int) (oc : Int) (nr : Int → Int) (sm : Int → Int) (av : Int → Int) (ev : Int → Int) (b : Int → Int) (g : Int → Int) (sE : Int) (hMo : f 61 = mob F) (hmk : moK E F) (hF25 : F 25 = .int (zI N)) (hF26 : F 26 = .int (zI S)) (hF27 : F 27 = .int (zI T)) (hF32 : F 32 = .int (zI 0)) (hF36 : F 36 = .int (zI c)) (hF39 : F 39 = .int (zI (kF K))) (hF40 : F 40 = .int (zI (kS K))) (hF41 : F 41 = .int (zI oo)) (hF42 : F 42 = .int (zI (kT K))) (hF43 : F 43 = .int (zI (kZ K))) (hc81 : f 81 = iz E 1536 ob) (hc82 : f 82 = iz E 1536 o) (hc78 : f 78 = iz E 8 nr) (hc79 : f 79 = iz E 1024 sm) (hc83 : f 83 = iz E 3 av) (hc84 : f 84 = iz E 3 ev) (hc63 : f 63 = iz E 1600 b) (hoo : (oo = 1 ∧ kO K = 2) ∨ (oo = 0 ∧ ¬ kO K = 2)) (hK : (0 ≤ kT K ∧ 0 ≤ kS K ∧ 0 ≤ kF K) ∧ (kO K = 2 → kF K + kS K ≤ kT K) ∧ (¬ kO K = 2 → kF K + kS K ≤ oc) ∧ 0 ≤ oc ∧ oc ≤ 1536) (hold : agB ob old oc) (hout : agB o m c) (hn : 0 ≤ n ∧ n < 268435456) (hmd : 0 ≤ md ∧ md < 256) (hc : kT K ≤ c ∧ c ≤ kT K + kZ K ∧ kT K + kZ K ≤ 1536) (hN : 0 ≤ N ∧ N ≤ 8 ∧ 0 ≤ S ∧ S ≤ 4) (hT : 0 ≤ T ∧ T < 8 ∧ (0 < N → T < N)) (hnr : ∀ k, 0 ≤ nr k ∧ nr k ≤ 100000) (hsm : ∀ k, 0 ≤ sm k ∧ sm k ≤ 100000) (hG : isB g) (hgb : ∀ i, 0 ≤ i → i < sE → b (600 + i) = g i) (hav : avB av) (hev : avB ev) (hen : (av 0 ≤ ev 0 ∧ ev 0 ≤ sE) ∧ (av 1 ≤ ev 1 ∧ ev 1 ≤ sE) ∧ (av 2 ≤ ev 2 ∧ ev 2 ≤ sE)) (hsE : sE ≤ 700) (hk : n ≤ kT K + kZ K - c) (hrk : hrOk (hrR nr sm N S md (kS K + c - kT K) g (av 2) (ev 2)).1 (kS K + c - kT K)) : CF yn_Mo_make cd_Mo_make 8 none 4 E [.ref (eA E 61), .int (zI 3), .int (zI n), .int (zI md)] f (fun r f' => r = none ∧ ∃ (F' : Nat → Value) (o' : Int → Int), f' 61 = mob F' ∧ F' 36 = .int (zI (c + n)) ∧ F' 27 = .int (zI (rmT N T)) ∧ FrF [27, 36] F F' ∧ f' 82 = iz E 1536 o' ∧ f' 83 = iz E 3 (uz av 2 (hrR nr sm N S md (kS K + c - kT K) g (av 2) (ev 2)).2) ∧ f' 78 = iz E 8 (rmN nr N T (hrR nr sm N S md (kS K + c - kT K) g (av 2) (ev 2)).1) ∧ f' 79 = iz E 1024 (rmS sm S (hrR nr sm N S md (kS K + c - kT K) g (av 2) (ev 2)).1) ∧ (agB o' (cpL K old n.toNat (hrR nr sm N S md (kS K + c - kT K) g (av 2) (ev 2)).1 m c) (c + n)) ∧ Fr [82, 83, 78, 79, 61] f f') := by
  refine CF.of (by decide +kernel) (Nat.le_of_ble_eq_true rfl) fun X hX hE => ?_
  have hX : Ok E X "DeltaFerryModel" "make" cd_Mo_make 8 none (rl 4) := hX
  refine G_cast (lv' := [(0, .ref (eA E 61)), (1, .int (zI 3)), (2, .int (zI n)), (3, .int (zI md))]) ?_ rfl rfl rfl rfl
  have hv0 := hav 0 (by decide) (by decide)
  have hv2 := hav 2 (by decide) (by decide)
  have hv1 := hav 1 (by decide) (by decide)
  have he0 := hev 0 (by decide) (by decide)
  have he2 := hev 2 (by decide) (by decide)
  have hen2 : ∀ i, 0 ≤ i → i ≤ 2 → ev i ≤ sE := fun i h1 h2 => by rcases (show i = 0 ∨ i = 1 ∨ i = 2 by omega) with h | h | h <;> rw [h] <;> omega
  have hhe : kS K + c - kT K ≤ 100000 := by rcases hoo with q | q; (have := hK.2.1 q.2; omega); (have := hK.2.2.1 q.2; omega)
  have hok : (md < 2 + N ∧ 0 ≤ (numL g (ev 2) 4 (av 2) 0).1) ∨ (2 + N ≤ md ∧ md < 2 + N + S ∧ av 2 < ev 2) := by
    have h0 := hrk.1
    unfold hrR at h0
    by_cases q1 : md < 2 + N
    · rw [if_pos q1] at h0
      by_cases q2 : (numL g (ev 2) 4 (av 2) 0).1 < 0
      · rw [if_pos q2] at h0; exact absurd h0 (show ¬ (0 : Int) ≤ -1 by decide)
      · exact Or.inl ⟨q1, by omega⟩
    · rw [if_neg q1] at h0
      by_cases q2 : md < 2 + N + S
      · rw [if_pos q2] at h0
        by_cases q3 : av 2 < ev 2
        · exact Or.inr ⟨by omega, q2, q3⟩
        · rw [if_neg q3] at h0; exact absurd h0 (show ¬ (0 : Int) ≤ -1 by decide)
      · rw [if_neg q2] at h0; exact absurd h0 (show ¬ (0 : Int) ≤ -1 by decide)
  refine G_aload_n hX 0 rfl rfl d_Mo_make_0 ?_
  refine M_get hX fg_Mo_373 d_Mo_make_1 hMo (by decide) hF40 ?_
  refine G_aload_n hX 0 rfl rfl d_Mo_make_4 ?_
  refine M_get hX fg_Mo_386 d_Mo_make_5 hMo (by decide) hF36 ?_
  refine G_iadd_z hX d_Mo_make_8 ?_
  refine G_aload_n hX 0 rfl rfl d_Mo_make_9 ?_
  refine M_get hX fg_Mo_376 d_Mo_make_10 hMo (by decide) hF42 ?_
  refine G_isub_z hX d_Mo_make_13 ?_
  refine G_istore hX (lv' := [(4, .int (zI (((kS K) + c) - (kT K)))), (0, .ref (eA E 61)), (1, .int (zI 3)), (2, .int (zI n)), (3, .int (zI md))]) (by decide) rfl d_Mo_make_14 ?_
  refine G_aload_n hX 1 rfl rfl d_Mo_make_16 ?_
  refine M_get hX fg_Mo_386 d_Mo_make_17 hMo (by decide) hF36 ?_
  refine G_iload_n hX 3 rfl rfl d_Mo_make_20 ?_
  refine G_iadd_z hX d_Mo_make_21 ?_
  refine G_aload_n hX 1 rfl rfl d_Mo_make_22 ?_
  refine M_get hX fg_Mo_376 d_Mo_make_23 hMo (by decide) hF42 ?_
  refine G_aload_n hX 1 rfl rfl d_Mo_make_26 ?_
  refine M_get hX fg_Mo_389 d_Mo_make_27 hMo (by decide) hF43 ?_
  refine G_iadd_z hX d_Mo_make_30 ?_
  refine G_icmp_le_z hX (tgt := 40) d_Mo_make_31 rfl (by omega) (fun c1 => ?_) (fun c2 => by exfalso; omega)
  refine G_iload_n hX 2 rfl rfl d_Mo_make_40 ?_
  refine G_iconst hX d_Mo_make_41 ?_
  refine G_icmp_ne_z hX (tgt := 53) d_Mo_make_42 rfl (by omega) (fun c3 => ?_) (fun c4 => by exfalso; omega)
  refine G_iconst hX d_Mo_make_53 ?_
  refine G_istore hX (lv' := [(5, .int (zI 0)), (4, .int (zI (((kS K) + c) - (kT K)))), (0, .ref (eA E 61)), (1, .int (zI 3)), (2, .int (zI n)), (3, .int (zI md))]) (by decide) rfl d_Mo_make_54 ?_
  refine G_iload_n hX 3 rfl rfl d_Mo_make_56 ?_
  refine G_iconst hX d_Mo_make_57 ?_
  refine G_icmp_ne_z hX (tgt := 71) d_Mo_make_58 rfl (by omega) (fun c5 => by exfalso; omega) (fun c6 => ?_)
  refine G_aload_n hX 2 rfl rfl d_Mo_make_61 ?_
  refine G_iload_n hX 5 rfl rfl d_Mo_make_62 ?_
  refine G_iload hX 1 rfl d_Mo_make_63 ?_
  refine F_callV hX (st := []) (c_Mo_readAddress_ok E f F md (((kS K) + c) - (kT K)) N S nr sm av ev b g sE hMo hmk hF25 hF26 hF32 hc78 hc79 hc83 hc84 hc63 (by omega) (by omega) (by omega) hnr hsm hG hgb (by omega) hok) cm_Mo_readAddress im_Mo_readAddress se_Mo_readAddress rfl ml_Mo_392 d_Mo_make_65 (by decide) hMo rfl rfl (Nat.le_of_ble_eq_true rfl) (by decide) ?_
  rintro _ f7 ⟨rfl, h10, k11⟩
  refine G_cast (st' := [.int (zI ((hrR nr sm N S md (((kS K) + c) - (kT K)) g (av 2) (ev 2)).1))]) ?_ rfl rfl rfl rfl
  refine G_goto hX (tgt := 72) d_Mo_make_68 rfl ?_
  refine G_istore hX (lv' := [(6, .int (zI ((hrR nr sm N S md (((kS K) + c) - (kT K)) g (av 2) (ev 2)).1))), (5, .int (zI 0)), (4, .int (zI (((kS K) + c) - (kT K)))), (0, .ref (eA E 61)), (1, .int (zI 3)), (2, .int (zI n)), (3, .int (zI md))]) (by decide) rfl d_Mo_make_72 ?_
  refine G_iload_n hX 4 rfl rfl d_Mo_make_74 ?_
  refine G_iconst hX d_Mo_make_75 ?_
  refine G_icmp_ne_z hX (tgt := 97) d_Mo_make_76 rfl (by omega) (fun c12 => by exfalso; omega) (fun c13 => ?_)
  refine G_iload hX 0 rfl d_Mo_make_79 ?_
  refine G_if_lt_z hX (tgt := 91) d_Mo_make_81 rfl (by omega) (fun c14 => by exfalso; omega) (fun c15 => ?_)
  refine G_iload hX 0 rfl d_Mo_make_84 ?_
  refine G_iload hX 2 rfl d_Mo_make_86 ?_
  refine G_icmp_lt_z hX (tgt := 97) d_Mo_make_88 rfl (by omega) (fun c16 => ?_) (fun c17 => by exfalso; omega)
  refine G_iload_n hX 4 rfl rfl d_Mo_make_97 ?_
  refine G_iconst hX d_Mo_make_98 ?_
  refine G_icmp_ne_z hX (tgt := 115) d_Mo_make_99 rfl (by omega) (fun c18 => by exfalso; omega) (fun c19 => ?_)
  refine G_aload_n hX 3 rfl rfl d_Mo_make_102 ?_
  have h20 : f7 61 = mob F := (k11 61 (by decide)).trans hMo
  refine M_get hX fg_Mo_345 d_Mo_make_103 h20 (by decide) hF32 ?_
  refine G_if_ne_z hX (tgt := 115) d_Mo_make_106 rfl (by omega) (fun c21 => by exfalso; omega) (fun c22 => ?_)
  refine G_aload_n hX 3 rfl rfl d_Mo_make_109 ?_
  refine G_iload hX 0 rfl d_Mo_make_110 ?_
  have h23 : f7 78 = iz E 8 nr := (k11 78 (by decide)).trans hc78
  have h24 : f7 79 = iz E 1024 sm := (k11 79 (by decide)).trans hc79
  refine F_callV hX (st := []) (c_Mo_note E f7 F ((hrR nr sm N S md (((kS K) + c) - (kT K)) g (av 2) (ev 2)).1) N S T nr sm h20 hmk hF25 hF26 hF27 h23 h24 (by omega) (by omega) (by omega)) cm_Mo_note im_Mo_note se_Mo_note rfl ml_Mo_307 d_Mo_make_112 (by decide) h20 rfl rfl (Nat.le_of_ble_eq_true rfl) (by decide) ?_
  rintro _ f25 ⟨rfl, F28, h29, h30, k31, h32, h33, k34⟩
  refine G_cast (st' := []) ?_ rfl rfl rfl rfl
  refine G_iconst hX d_Mo_make_115 ?_
  refine G_istore hX (lv' := [(7, .int (zI 0)), (6, .int (zI ((hrR nr sm N S md (((kS K) + c) - (kT K)) g (av 2) (ev 2)).1))), (5, .int (zI 0)), (4, .int (zI (((kS K) + c) - (kT K)))), (0, .ref (eA E 61)), (1, .int (zI 3)), (2, .int (zI n)), (3, .int (zI md))]) (by decide) rfl d_Mo_make_116 ?_
  have loop38 : ∀ (q : Nat) (i : Int) (o1 : Int → Int) (m1 : Int → Int) (F35 : Nat → Value) (f39 : Nat → va_E), (n - i).toNat < q → (0 ≤ i ∧ i ≤ n) → (agB o1 m1 (c + i)) → (cpL K old n.toNat (hrR nr sm N S md (kS K + c - kT K) g (av 2) (ev 2)).1 m c = cpL K old ((hrR nr sm N S md (kS K + c - kT K) g (av 2) (ev 2)).1 + n - ((hrR nr sm N S md (kS K + c - kT K) g (av 2) (ev 2)).1 + i)).toNat ((hrR nr sm N S md (kS K + c - kT K) g (av 2) (ev 2)).1 + i) m1 (c + i)) → (F35 36 = .int (zI (c + i))) → (FrF [36] F28 F35) → f39 82 = iz E 1536 o1 → f39 61 = mob F35 → Fr [82, 61] f25 f39 → G E X 0 0 118 [(0, .ref (eA E 61)), (1, .int (zI 3)), (2, .int (zI n)), (5, .int (zI 0)), (6, .int (zI ((hrR nr sm N S md (((kS K) + c) - (kT K)) g (av 2) (ev 2)).1))), (7, .int (zI i))] [] (wl E f39) := by
    intro q
    induction q with
    | zero => intro i o1 m1 F35 f39 hms41; exact absurd hms41 (Nat.not_lt_zero _)
    | succ q ih42 =>
      intro i o1 m1 F35 f39 hms41 hi ho1 hcp h36 k37 h43 h44 k40
      refine G_iload hX 5 rfl d_Mo_make_118 ?_
      refine G_iload_n hX 2 rfl rfl d_Mo_make_120 ?_
      refine G_icmp_ge_z hX (tgt := 188) d_Mo_make_121 rfl (by omega) (fun c45 => ?_) (fun c46 => ?_)
      · skip
        obtain rfl : i = n := by omega
        have h47 : F35 27 = .int (zI (rmT N T)) := (k37 27 (by decide)).trans h30
        have h48 : f39 83 = iz E 3 (uz av 2 (hrR nr sm N S md (((kS K) + c) - (kT K)) g (av 2) (ev 2)).2) := (k40 83 (by decide)).trans ((k34 83 (by decide)).trans h10)
        have h49 : f39 78 = iz E 8 (rmN nr N T ((hrR nr sm N S md (((kS K) + c) - (kT K)) g (av 2) (ev 2)).1)) := (k40 78 (by decide)).trans h32
        have h50 : f39 79 = iz E 1024 (rmS sm S ((hrR nr sm N S md (((kS K) + c) - (kT K)) g (av 2) (ev 2)).1)) := (k40 79 (by decide)).trans h33
        exact F_vret hX hE d_Mo_make_188 ⟨rfl, F35, _, h44, h36, h47, (FrF.tr (FrF.tr FrF.rf k31 (by decide)) k37 (by decide)), h43, h48, h49, h50, (by rw [hcp, cpL_e (by omega)]; exact ho1), (Fr.tr (Fr.tr (Fr.tr Fr.rf k11 (by decide)) k34 (by decide)) k40 (by decide))⟩
      · skip
        refine G_aload_n hX 0 rfl rfl d_Mo_make_124 ?_
        have h51 : F35 32 = .int (zI 0) := (k37 32 (by decide)).trans ((k31 32 (by decide)).trans hF32)
        refine M_get hX fg_Mo_345 d_Mo_make_125 h44 (by decide) h51 ?_
        refine G_if_ne_z hX (tgt := 188) d_Mo_make_128 rfl (by omega) (fun c52 => by exfalso; omega) (fun c53 => ?_)
        refine G_aload_n hX 0 rfl rfl d_Mo_make_131 ?_
        have h54 : F35 38 = .ref (eA E 82) := (k37 38 (by decide)).trans ((k31 38 (by decide)).trans (hmk 38 82 (by decide)))
        refine M_get hX fg_Mo_142 d_Mo_make_132 h44 (by decide) h54 ?_
        refine G_aload_n hX 0 rfl rfl d_Mo_make_135 ?_
        refine M_get hX fg_Mo_386 d_Mo_make_136 h44 (by decide) h36 ?_
        refine G_iload_n hX 1 rfl rfl d_Mo_make_139 ?_
        refine G_iconst hX d_Mo_make_140 ?_
        refine G_icmp_ne_z hX (tgt := 152) d_Mo_make_141 rfl (by omega) (fun c55 => ?_) (fun c56 => by exfalso; omega)
        refine G_iload_n hX 1 rfl rfl d_Mo_make_152 ?_
        refine G_iconst hX d_Mo_make_153 ?_
        refine G_icmp_ne_z hX (tgt := 162) d_Mo_make_154 rfl (by omega) (fun c57 => ?_) (fun c58 => by exfalso; omega)
        refine G_aload_n hX 0 rfl rfl d_Mo_make_162 ?_
        refine G_iload hX 4 rfl d_Mo_make_163 ?_
        refine G_iload hX 5 rfl d_Mo_make_165 ?_
        refine G_iadd_z hX d_Mo_make_167 ?_
        have h59 : F35 40 = .int (zI (kS K)) := (k37 40 (by decide)).trans ((k31 40 (by decide)).trans hF40)
        have h60 : F35 42 = .int (zI (kT K)) := (k37 42 (by decide)).trans ((k31 42 (by decide)).trans hF42)
        have h61 : F35 39 = .int (zI (kF K)) := (k37 39 (by decide)).trans ((k31 39 (by decide)).trans hF39)
        have h62 : F35 41 = .int (zI oo) := (k37 41 (by decide)).trans ((k31 41 (by decide)).trans hF41)
        have h63 : f39 81 = iz E 1536 ob := (k40 81 (by decide)).trans ((k34 81 (by decide)).trans ((k11 81 (by decide)).trans hc81))
        refine F_callV hX (st := [.int (zI (c + i)), .ref (eA E 82)]) (c_Mo_sourceByte E f39 F35 (((hrR nr sm N S md (((kS K) + c) - (kT K)) g (av 2) (ev 2)).1) + i) K oo (c + i) ob o1 old m1 oc h44 (moK_fr hmk (FrF.tr (FrF.tr (FrF.rf (S := [27, 36])) k31 (by decide)) k37 (by decide)) (by decide)) h61 h59 h62 h60 h63 h43 hoo hK hold ho1 (by omega) (by omega)) cm_Mo_sourceByte im_Mo_sourceByte se_Mo_sourceByte rfl ml_Mo_395 d_Mo_make_168 (by decide) h44 rfl rfl (Nat.le_of_ble_eq_true rfl) (by decide) ?_
        rintro _ f64 ⟨rfl, e67⟩
        obtain rfl := e67.symm
        refine G_cast (st' := [.int (zI (sbW K old m1 (((hrR nr sm N S md (((kS K) + c) - (kT K)) g (av 2) (ev 2)).1) + i))), .int (zI (c + i)), .ref (eA E 82)]) ?_ rfl rfl rfl rfl
        refine F_iast hX d_Mo_make_171 82 (by decide) h43 (by omega) (fun f68 h69 k70 => ?_)
        refine G_aload_n hX 0 rfl rfl d_Mo_make_172 ?_
        refine G_dup hX rfl d_Mo_make_173 ?_
        have h71 : f68 61 = mob F35 := (k70 61 (by decide)).trans h44
        refine M_get hX fg_Mo_386 d_Mo_make_174 h71 (by decide) h36 ?_
        refine G_iconst hX d_Mo_make_177 ?_
        refine G_iadd_z hX d_Mo_make_178 ?_
        refine M_put hX fg_Mo_386 fp_Mo_36 d_Mo_make_179 h71 rfl rfl (by decide) (fun f72 F73 h74 h75 k76 k77 => ?_)
        refine G_iinc_z hX (lv' := [(7, .int (zI (i + 1))), (0, .ref (eA E 61)), (1, .int (zI 3)), (2, .int (zI n)), (5, .int (zI 0)), (6, .int (zI ((hrR nr sm N S md (((kS K) + c) - (kT K)) g (av 2) (ev 2)).1)))]) 5 rfl (by decide) rfl d_Mo_make_182 ?_
        refine G_goto hX (tgt := 118) d_Mo_make_185 rfl ?_
        have h78 : f72 82 = iz E 1536 (uz o1 (c + i) (sbW K old m1 (((hrR nr sm N S md (((kS K) + c) - (kT K)) g (av 2) (ev 2)).1) + i))) := (k77 82 (by decide)).trans h69
        refine G_loc (lv' := [(0, .ref (eA E 61)), (1, .int (zI 3)), (2, .int (zI n)), (5, .int (zI 0)), (6, .int (zI ((hrR nr sm N S md (((kS K) + c) - (kT K)) g (av 2) (ev 2)).1))), (7, .int (zI (i + 1)))]) [1, 2, 3, 4, 5, 0] rfl ?_
        exact ih42 (i + 1) (uz o1 (c + i) (sbW K old m1 (((hrR nr sm N S md (((kS K) + c) - (kT K)) g (av 2) (ev 2)).1) + i))) (uz m1 (c + i) (sbW K old m1 ((hrR nr sm N S md (kS K + c - kT K) g (av 2) (ev 2)).1 + i))) F73 f72 (by omega) (by omega) (by rw [← Int.add_assoc]; exact agB_u ho1 rfl) (by rw [hcp, cpL_go (by omega), Int.add_assoc, Int.add_assoc]) (by rw [← Int.add_assoc]; exact h75) (FrF.tr (FrF.tr FrF.rf k37 (by decide)) k76 (by decide)) h78 h74 (Fr.tr (Fr.tr (Fr.tr Fr.rf k40 (by decide)) k70 (by decide)) k77 (by decide))
  have h79 : F28 36 = .int (zI c) := (k31 36 (by decide)).trans hF36
  have h80 : f25 82 = iz E 1536 o := (k34 82 (by decide)).trans ((k11 82 (by decide)).trans hc82)
  refine G_loc (lv' := [(0, .ref (eA E 61)), (1, .int (zI 3)), (2, .int (zI n)), (5, .int (zI 0)), (6, .int (zI ((hrR nr sm N S md (((kS K) + c) - (kT K)) g (av 2) (ev 2)).1))), (7, .int (zI 0))]) [4, 5, 6, 2, 1, 0] rfl ?_
  exact loop38 (_ + 1) 0 o m F28 f25 (Nat.lt_succ_self _) (by omega) (by rw [Int.add_zero]; exact hout) (by rw [Int.add_zero, Int.add_zero]; congr 1; omega) (by rw [Int.add_zero]; exact h79) FrF.rf h80 h29 Fr.rf
theorem c_Mo_make1_no (E : EV) (f : Nat → va_E) (F : Nat → Value) (n : Int) (md : Int) (K : WK) (oo : Int) (c : Int) (N : Int) (S : Int) (T : Int) (ob : Int → Int) (o : Int → Int) (old : Int → Int) (m : Int → Int) (oc : Int) (nr : Int → Int) (sm : Int → Int) (av : Int → Int) (ev : Int → Int) (b : Int → Int) (g : Int → Int) (sE : Int) (hMo : f 61 = mob F) (hmk : moK E F) (hF25 : F 25 = .int (zI N)) (hF26 : F 26 = .int (zI S)) (hF27 : F 27 = .int (zI T)) (hF32 : F 32 = .int (zI 0)) (hF36 : F 36 = .int (zI c)) (hF39 : F 39 = .int (zI (kF K))) (hF40 : F 40 = .int (zI (kS K))) (hF41 : F 41 = .int (zI oo)) (hF42 : F 42 = .int (zI (kT K))) (hF43 : F 43 = .int (zI (kZ K))) (hc81 : f 81 = iz E 1536 ob) (hc82 : f 82 = iz E 1536 o) (hc78 : f 78 = iz E 8 nr) (hc79 : f 79 = iz E 1024 sm) (hc83 : f 83 = iz E 3 av) (hc84 : f 84 = iz E 3 ev) (hc63 : f 63 = iz E 1600 b) (hoo : (oo = 1 ∧ kO K = 2) ∨ (oo = 0 ∧ ¬ kO K = 2)) (hK : (0 ≤ kT K ∧ 0 ≤ kS K ∧ 0 ≤ kF K) ∧ (kO K = 2 → kF K + kS K ≤ kT K) ∧ (¬ kO K = 2 → kF K + kS K ≤ oc) ∧ 0 ≤ oc ∧ oc ≤ 1536) (hold : agB ob old oc) (hout : agB o m c) (hn : 0 ≤ n ∧ n < 268435456) (hmd : 0 ≤ md ∧ md < 256) (hc : kT K ≤ c ∧ c ≤ kT K + kZ K ∧ kT K + kZ K ≤ 1536) (hN : 0 ≤ N ∧ N ≤ 8 ∧ 0 ≤ S ∧ S ≤ 4) (hT : 0 ≤ T ∧ T < 8 ∧ (0 < N → T < N)) (hnr : ∀ k, 0 ≤ nr k ∧ nr k ≤ 100000) (hsm : ∀ k, 0 ≤ sm k ∧ sm k ≤ 100000) (hG : isB g) (hgb : ∀ i, 0 ≤ i → i < sE → b (600 + i) = g i) (hav : avB av) (hev : avB ev) (hen : (av 0 ≤ ev 0 ∧ ev 0 ≤ sE) ∧ (av 1 ≤ ev 1 ∧ ev 1 ≤ sE) ∧ (av 2 ≤ ev 2 ∧ ev 2 ≤ sE)) (hsE : sE ≤ 700) (hk : ¬ (n ≤ kT K + kZ K - c ∧ n ≤ ev 0 - av 0)) : CF yn_Mo_make cd_Mo_make 8 none 4 E [.ref (eA E 61), .int (zI 1), .int (zI n), .int (zI md)] f (fun r f' => r = none ∧ ∃ (F' : Nat → Value) (c' : Int) (o' : Int → Int) (av' : Int → Int), f' 61 = mob F' ∧ F' 36 = .int (zI c') ∧ F' 32 = .int (zI (-2)) ∧ FrF [32, 36] F F' ∧ f' 82 = iz E 1536 o' ∧ f' 83 = iz E 3 av' ∧ (0 ≤ c' ∧ c' ≤ 1536) ∧ (avB av') ∧ Fr [82, 83, 61] f f') := by
  refine CF.of (by decide +kernel) (Nat.le_of_ble_eq_true rfl) fun X hX hE => ?_
  have hX : Ok E X "DeltaFerryModel" "make" cd_Mo_make 8 none (rl 4) := hX
  refine G_cast (lv' := [(0, .ref (eA E 61)), (1, .int (zI 1)), (2, .int (zI n)), (3, .int (zI md))]) ?_ rfl rfl rfl rfl
  have hv0 := hav 0 (by decide) (by decide)
  have hv2 := hav 2 (by decide) (by decide)
  have hv1 := hav 1 (by decide) (by decide)
  have he0 := hev 0 (by decide) (by decide)
  have he2 := hev 2 (by decide) (by decide)
  have hen2 : ∀ i, 0 ≤ i → i ≤ 2 → ev i ≤ sE := fun i h1 h2 => by rcases (show i = 0 ∨ i = 1 ∨ i = 2 by omega) with h | h | h <;> rw [h] <;> omega
  have hhe : kS K + c - kT K ≤ 100000 := by rcases hoo with q | q; (have := hK.2.1 q.2; omega); (have := hK.2.2.1 q.2; omega)
  refine G_aload_n hX 0 rfl rfl d_Mo_make_0 ?_
  refine M_get hX fg_Mo_373 d_Mo_make_1 hMo (by decide) hF40 ?_
  refine G_aload_n hX 0 rfl rfl d_Mo_make_4 ?_
  refine M_get hX fg_Mo_386 d_Mo_make_5 hMo (by decide) hF36 ?_
  refine G_iadd_z hX d_Mo_make_8 ?_
  refine G_aload_n hX 0 rfl rfl d_Mo_make_9 ?_
  refine M_get hX fg_Mo_376 d_Mo_make_10 hMo (by decide) hF42 ?_
  refine G_isub_z hX d_Mo_make_13 ?_
  refine G_istore hX (lv' := [(4, .int (zI (((kS K) + c) - (kT K)))), (0, .ref (eA E 61)), (1, .int (zI 1)), (2, .int (zI n)), (3, .int (zI md))]) (by decide) rfl d_Mo_make_14 ?_
  refine G_aload_n hX 1 rfl rfl d_Mo_make_16 ?_
  refine M_get hX fg_Mo_386 d_Mo_make_17 hMo (by decide) hF36 ?_
  refine G_iload_n hX 3 rfl rfl d_Mo_make_20 ?_
  refine G_iadd_z hX d_Mo_make_21 ?_
  refine G_aload_n hX 1 rfl rfl d_Mo_make_22 ?_
  refine M_get hX fg_Mo_376 d_Mo_make_23 hMo (by decide) hF42 ?_
  refine G_aload_n hX 1 rfl rfl d_Mo_make_26 ?_
  refine M_get hX fg_Mo_389 d_Mo_make_27 hMo (by decide) hF43 ?_
  refine G_iadd_z hX d_Mo_make_30 ?_
  refine G_icmp_le_z hX (tgt := 40) d_Mo_make_31 rfl (by omega) (fun c1 => ?_) (fun c2 => ?_)
  · skip
    have hkn : n ≤ kT K + kZ K - c := by omega
    have hk0 : ¬ n ≤ ev 0 - av 0 := fun q => hk ⟨hkn, q⟩
    refine G_iload_n hX 2 rfl rfl d_Mo_make_40 ?_
    refine G_iconst hX d_Mo_make_41 ?_
    refine G_icmp_ne_z hX (tgt := 53) d_Mo_make_42 rfl (by omega) (fun c3 => ?_) (fun c4 => by exfalso; omega)
    refine G_iconst hX d_Mo_make_53 ?_
    refine G_istore hX (lv' := [(5, .int (zI 0)), (4, .int (zI (((kS K) + c) - (kT K)))), (0, .ref (eA E 61)), (1, .int (zI 1)), (2, .int (zI n)), (3, .int (zI md))]) (by decide) rfl d_Mo_make_54 ?_
    refine G_iload_n hX 3 rfl rfl d_Mo_make_56 ?_
    refine G_iconst hX d_Mo_make_57 ?_
    refine G_icmp_ne_z hX (tgt := 71) d_Mo_make_58 rfl (by omega) (fun c5 => ?_) (fun c6 => by exfalso; omega)
    refine G_iconst hX d_Mo_make_71 ?_
    refine G_istore hX (lv' := [(6, .int (zI 0)), (5, .int (zI 0)), (4, .int (zI (((kS K) + c) - (kT K)))), (0, .ref (eA E 61)), (1, .int (zI 1)), (2, .int (zI n)), (3, .int (zI md))]) (by decide) rfl d_Mo_make_72 ?_
    refine G_iload_n hX 4 rfl rfl d_Mo_make_74 ?_
    refine G_iconst hX d_Mo_make_75 ?_
    refine G_icmp_ne_z hX (tgt := 97) d_Mo_make_76 rfl (by omega) (fun c7 => ?_) (fun c8 => by exfalso; omega)
    refine G_iload_n hX 4 rfl rfl d_Mo_make_97 ?_
    refine G_iconst hX d_Mo_make_98 ?_
    refine G_icmp_ne_z hX (tgt := 115) d_Mo_make_99 rfl (by omega) (fun c9 => ?_) (fun c10 => by exfalso; omega)
    refine G_iconst hX d_Mo_make_115 ?_
    refine G_istore hX (lv' := [(7, .int (zI 0)), (6, .int (zI 0)), (5, .int (zI 0)), (4, .int (zI (((kS K) + c) - (kT K)))), (0, .ref (eA E 61)), (1, .int (zI 1)), (2, .int (zI n)), (3, .int (zI md))]) (by decide) rfl d_Mo_make_116 ?_
    have loop15 : ∀ (q : Nat) (i : Int) (o1 : Int → Int) (F11 : Nat → Value) (f16 : Nat → va_E), (n - i).toNat < q → (0 ≤ i ∧ i ≤ ev 0 - av 0) → (F11 36 = .int (zI (c + i))) → (F11 32 = .int (zI 0)) → (FrF [32, 36] F F11) → f16 82 = iz E 1536 o1 → f16 83 = iz E 3 (uz av 0 (av 0 + i)) → f16 61 = mob F11 → Fr [82, 83, 61] f f16 → G E X 0 0 118 [(0, .ref (eA E 61)), (1, .int (zI 1)), (2, .int (zI n)), (5, .int (zI 0)), (6, .int (zI 0)), (7, .int (zI i))] [] (wl E f16) := by
      intro q
      induction q with
      | zero => intro i o1 F11 f16 hms18; exact absurd hms18 (Nat.not_lt_zero _)
      | succ q ih19 =>
        intro i o1 F11 f16 hms18 hi h12 h13 k14 h20 h21 h22 k17
        refine G_iload hX 5 rfl d_Mo_make_118 ?_
        refine G_iload_n hX 2 rfl rfl d_Mo_make_120 ?_
        refine G_icmp_ge_z hX (tgt := 188) d_Mo_make_121 rfl (by omega) (fun c23 => by exfalso; omega) (fun c24 => ?_)
        refine G_aload_n hX 0 rfl rfl d_Mo_make_124 ?_
        refine M_get hX fg_Mo_345 d_Mo_make_125 h22 (by decide) h13 ?_
        refine G_if_ne_z hX (tgt := 188) d_Mo_make_128 rfl (by omega) (fun c25 => by exfalso; omega) (fun c26 => ?_)
        refine G_aload_n hX 0 rfl rfl d_Mo_make_131 ?_
        have h27 : F11 38 = .ref (eA E 82) := (k14 38 (by decide)).trans (hmk 38 82 (by decide))
        refine M_get hX fg_Mo_142 d_Mo_make_132 h22 (by decide) h27 ?_
        refine G_aload_n hX 0 rfl rfl d_Mo_make_135 ?_
        refine M_get hX fg_Mo_386 d_Mo_make_136 h22 (by decide) h12 ?_
        refine G_iload_n hX 1 rfl rfl d_Mo_make_139 ?_
        refine G_iconst hX d_Mo_make_140 ?_
        refine G_icmp_ne_z hX (tgt := 152) d_Mo_make_141 rfl (by omega) (fun c28 => by exfalso; omega) (fun c29 => ?_)
        by_cases hxe : av 0 + i < ev 0
        · skip
          refine G_aload_n hX 0 rfl rfl d_Mo_make_144 ?_
          refine G_iconst hX d_Mo_make_145 ?_
          have h30 : f16 84 = iz E 3 ev := (k17 84 (by decide)).trans hc84
          have h31 : f16 63 = iz E 1600 b := (k17 63 (by decide)).trans hc63
          refine F_callV hX (st := [.int (zI (c + i)), .ref (eA E 82)]) (c_Mo_readPart_ok E f16 F11 0 (uz av 0 (av 0 + i)) ev b g sE h22 (moK_fr hmk (FrF.tr (FrF.rf (S := [32, 36])) k14 (by decide)) (by decide)) h21 h30 h31 (by omega) hG hgb (by rw [uz_at]; omega)) cm_Mo_readPart im_Mo_readPart se_Mo_readPart rfl ml_Mo_361 d_Mo_make_146 (by decide) h22 rfl rfl (Nat.le_of_ble_eq_true rfl) (by decide) ?_
          rintro _ f32 ⟨rfl, h35, k36⟩
          refine G_cast (st' := [.int (zI (g ((uz av 0 (av 0 + i)) 0))), .int (zI (c + i)), .ref (eA E 82)]) ?_ rfl rfl rfl rfl
          refine G_goto hX (tgt := 171) d_Mo_make_149 rfl ?_
          have h37 : f32 82 = iz E 1536 o1 := (k36 82 (by decide)).trans h20
          refine F_iast hX d_Mo_make_171 82 (by decide) h37 (by omega) (fun f38 h39 k40 => ?_)
          refine G_aload_n hX 0 rfl rfl d_Mo_make_172 ?_
          refine G_dup hX rfl d_Mo_make_173 ?_
          have h41 : f38 61 = mob F11 := (k40 61 (by decide)).trans ((k36 61 (by decide)).trans h22)
          refine M_get hX fg_Mo_386 d_Mo_make_174 h41 (by decide) h12 ?_
          refine G_iconst hX d_Mo_make_177 ?_
          refine G_iadd_z hX d_Mo_make_178 ?_
          refine M_put hX fg_Mo_386 fp_Mo_36 d_Mo_make_179 h41 rfl rfl (by decide) (fun f42 F43 h44 h45 k46 k47 => ?_)
          refine G_iinc_z hX (lv' := [(7, .int (zI (i + 1))), (0, .ref (eA E 61)), (1, .int (zI 1)), (2, .int (zI n)), (5, .int (zI 0)), (6, .int (zI 0))]) 5 rfl (by decide) rfl d_Mo_make_182 ?_
          refine G_goto hX (tgt := 118) d_Mo_make_185 rfl ?_
          have h48 : F43 32 = .int (zI 0) := (k46 32 (by decide)).trans h13
          have h49 : f42 82 = iz E 1536 (uz o1 (c + i) (g ((uz av 0 (av 0 + i)) 0))) := (k47 82 (by decide)).trans h39
          have h50 : f42 83 = iz E 3 (uz (uz av 0 (av 0 + i)) 0 ((uz av 0 (av 0 + i)) 0 + 1)) := (k47 83 (by decide)).trans ((k40 83 (by decide)).trans h35)
          refine G_loc (lv' := [(0, .ref (eA E 61)), (1, .int (zI 1)), (2, .int (zI n)), (5, .int (zI 0)), (6, .int (zI 0)), (7, .int (zI (i + 1)))]) [1, 2, 3, 4, 5, 0] rfl ?_
          exact ih19 (i + 1) (uz o1 (c + i) (g ((uz av 0 (av 0 + i)) 0))) F43 f42 (by omega) (by omega) (by rw [← Int.add_assoc]; exact h45) h48 (FrF.tr (FrF.tr FrF.rf k14 (by decide)) k46 (by decide)) h49 (by rw [← uz_uz av 0 (av 0 + i) (av 0 + (i + 1))]; exact h50.trans (by rw [uz_at, Int.add_assoc])) h44 (Fr.tr (Fr.tr (Fr.tr (Fr.tr Fr.rf k17 (by decide)) k36 (by decide)) k40 (by decide)) k47 (by decide))
        · skip
          refine G_aload_n hX 0 rfl rfl d_Mo_make_144 ?_
          refine G_iconst hX d_Mo_make_145 ?_
          have h51 : f16 84 = iz E 3 ev := (k17 84 (by decide)).trans hc84
          refine F_callV hX (st := [.int (zI (c + i)), .ref (eA E 82)]) (c_Mo_readPart_no E f16 F11 0 (uz av 0 (av 0 + i)) ev h22 (moK_fr hmk (FrF.tr (FrF.rf (S := [32, 36])) k14 (by decide)) (by decide)) h13 h21 h51 (by omega) (by rw [uz_at]; omega)) cm_Mo_readPart im_Mo_readPart se_Mo_readPart rfl ml_Mo_361 d_Mo_make_146 (by decide) h22 rfl rfl (Nat.le_of_ble_eq_true rfl) (by decide) ?_
          rintro _ f52 ⟨rfl, F55, h56, h57, k58, k59⟩
          refine G_cast (st' := [.int (zI 0), .int (zI (c + i)), .ref (eA E 82)]) ?_ rfl rfl rfl rfl
          refine G_goto hX (tgt := 171) d_Mo_make_149 rfl ?_
          have h60 : f52 82 = iz E 1536 o1 := (k59 82 (by decide)).trans h20
          refine F_iast hX d_Mo_make_171 82 (by decide) h60 (by omega) (fun f61 h62 k63 => ?_)
          refine G_aload_n hX 0 rfl rfl d_Mo_make_172 ?_
          refine G_dup hX rfl d_Mo_make_173 ?_
          have h64 : f61 61 = mob F55 := (k63 61 (by decide)).trans h56
          have h65 : F55 36 = .int (zI (c + i)) := (k58 36 (by decide)).trans h12
          refine M_get hX fg_Mo_386 d_Mo_make_174 h64 (by decide) h65 ?_
          refine G_iconst hX d_Mo_make_177 ?_
          refine G_iadd_z hX d_Mo_make_178 ?_
          refine M_put hX fg_Mo_386 fp_Mo_36 d_Mo_make_179 h64 rfl rfl (by decide) (fun f66 F67 h68 h69 k70 k71 => ?_)
          refine G_iinc_z hX (lv' := [(7, .int (zI (i + 1))), (0, .ref (eA E 61)), (1, .int (zI 1)), (2, .int (zI n)), (5, .int (zI 0)), (6, .int (zI 0))]) 5 rfl (by decide) rfl d_Mo_make_182 ?_
          refine G_goto hX (tgt := 118) d_Mo_make_185 rfl ?_
          have h72 : F67 32 = .int (zI (-2)) := (k70 32 (by decide)).trans h57
          refine G_iload hX 0 rfl d_Mo_make_118 ?_
          refine G_iload_n hX 3 rfl rfl d_Mo_make_120 ?_
          refine G_icmp_ge_z hX (tgt := 188) d_Mo_make_121 rfl (by omega) (fun c73 => ?_) (fun c74 => ?_)
          · skip
            have h75 : f66 82 = iz E 1536 (uz o1 (c + i) 0) := (k71 82 (by decide)).trans h62
            have h76 : f66 83 = iz E 3 (uz av 0 (av 0 + i)) := (k71 83 (by decide)).trans ((k63 83 (by decide)).trans ((k59 83 (by decide)).trans h21))
            exact F_vret hX hE d_Mo_make_188 ⟨rfl, F67, _, _, _, h68, h69, h72, (FrF.tr (FrF.tr (FrF.tr FrF.rf k14 (by decide)) k58 (by decide)) k70 (by decide)), h75, h76, by omega, (avB_u hav (by omega)), (Fr.tr (Fr.tr (Fr.tr (Fr.tr Fr.rf k17 (by decide)) k59 (by decide)) k63 (by decide)) k71 (by decide))⟩
          · skip
            refine G_aload_n hX 1 rfl rfl d_Mo_make_124 ?_
            refine M_get hX fg_Mo_345 d_Mo_make_125 h68 (by decide) h72 ?_
            refine G_if_ne_z hX (tgt := 188) d_Mo_make_128 rfl (by omega) (fun c77 => ?_) (fun c78 => by exfalso; omega)
            have h79 : f66 82 = iz E 1536 (uz o1 (c + i) 0) := (k71 82 (by decide)).trans h62
            have h80 : f66 83 = iz E 3 (uz av 0 (av 0 + i)) := (k71 83 (by decide)).trans ((k63 83 (by decide)).trans ((k59 83 (by decide)).trans h21))
            exact F_vret hX hE d_Mo_make_188 ⟨rfl, F67, _, _, _, h68, h69, h72, (FrF.tr (FrF.tr (FrF.tr FrF.rf k14 (by decide)) k58 (by decide)) k70 (by decide)), h79, h80, by omega, (avB_u hav (by omega)), (Fr.tr (Fr.tr (Fr.tr (Fr.tr Fr.rf k17 (by decide)) k59 (by decide)) k63 (by decide)) k71 (by decide))⟩
    refine G_loc (lv' := [(0, .ref (eA E 61)), (1, .int (zI 1)), (2, .int (zI n)), (5, .int (zI 0)), (6, .int (zI 0)), (7, .int (zI 0))]) [4, 5, 6, 2, 1, 0] rfl ?_
    exact loop15 (_ + 1) 0 o F f (Nat.lt_succ_self _) (by omega) (by rw [Int.add_zero]; exact hF36) hF32 FrF.rf hc82 (by rw [Int.add_zero, uz_self]; exact hc83) hMo Fr.rf
  · skip
    refine G_aload_n hX 1 rfl rfl d_Mo_make_34 ?_
    refine G_bipush hX (by decide) d_Mo_make_35 ?_
    refine F_callV hX (st := []) (c_Mo_refuse E f F (-2) hMo hmk hF32) cm_Mo_refuse im_Mo_refuse se_Mo_refuse rfl ml_Mo_354 d_Mo_make_37 (by decide) hMo rfl rfl (Nat.le_of_ble_eq_true rfl) (by decide) ?_
    rintro _ f81 ⟨rfl, F84, h85, h86, k87, k88⟩
    refine G_cast (st' := []) ?_ rfl rfl rfl rfl
    refine G_iload_n hX 2 rfl rfl d_Mo_make_40 ?_
    refine G_iconst hX d_Mo_make_41 ?_
    refine G_icmp_ne_z hX (tgt := 53) d_Mo_make_42 rfl (by omega) (fun c89 => ?_) (fun c90 => by exfalso; omega)
    refine G_iconst hX d_Mo_make_53 ?_
    refine G_istore hX (lv' := [(5, .int (zI 0)), (4, .int (zI (((kS K) + c) - (kT K)))), (0, .ref (eA E 61)), (1, .int (zI 1)), (2, .int (zI n)), (3, .int (zI md))]) (by decide) rfl d_Mo_make_54 ?_
    refine G_iload_n hX 3 rfl rfl d_Mo_make_56 ?_
    refine G_iconst hX d_Mo_make_57 ?_
    refine G_icmp_ne_z hX (tgt := 71) d_Mo_make_58 rfl (by omega) (fun c91 => ?_) (fun c92 => by exfalso; omega)
    refine G_iconst hX d_Mo_make_71 ?_
    refine G_istore hX (lv' := [(6, .int (zI 0)), (5, .int (zI 0)), (4, .int (zI (((kS K) + c) - (kT K)))), (0, .ref (eA E 61)), (1, .int (zI 1)), (2, .int (zI n)), (3, .int (zI md))]) (by decide) rfl d_Mo_make_72 ?_
    refine G_iload_n hX 4 rfl rfl d_Mo_make_74 ?_
    refine G_iconst hX d_Mo_make_75 ?_
    refine G_icmp_ne_z hX (tgt := 97) d_Mo_make_76 rfl (by omega) (fun c93 => ?_) (fun c94 => by exfalso; omega)
    refine G_iload_n hX 4 rfl rfl d_Mo_make_97 ?_
    refine G_iconst hX d_Mo_make_98 ?_
    refine G_icmp_ne_z hX (tgt := 115) d_Mo_make_99 rfl (by omega) (fun c95 => ?_) (fun c96 => by exfalso; omega)
    refine G_iconst hX d_Mo_make_115 ?_
    refine G_istore hX (lv' := [(7, .int (zI 0)), (6, .int (zI 0)), (5, .int (zI 0)), (4, .int (zI (((kS K) + c) - (kT K)))), (0, .ref (eA E 61)), (1, .int (zI 1)), (2, .int (zI n)), (3, .int (zI md))]) (by decide) rfl d_Mo_make_116 ?_
    refine G_iload hX 0 rfl d_Mo_make_118 ?_
    refine G_iload_n hX 6 rfl rfl d_Mo_make_120 ?_
    refine G_icmp_ge_z hX (tgt := 188) d_Mo_make_121 rfl (by omega) (fun c97 => ?_) (fun c98 => ?_)
    · skip
      have h99 : f81 83 = iz E 3 av := (k88 83 (by decide)).trans hc83
      have h100 : F84 36 = .int (zI c) := (k87 36 (by decide)).trans hF36
      have h101 : f81 82 = iz E 1536 o := (k88 82 (by decide)).trans hc82
      exact F_vret hX hE d_Mo_make_188 ⟨rfl, F84, _, _, _, h85, h100, h86, (FrF.tr FrF.rf k87 (by decide)), h101, h99, by omega, hav, (Fr.tr Fr.rf k88 (by decide))⟩
    · skip
      refine G_aload_n hX 4 rfl rfl d_Mo_make_124 ?_
      refine M_get hX fg_Mo_345 d_Mo_make_125 h85 (by decide) h86 ?_
      refine G_if_ne_z hX (tgt := 188) d_Mo_make_128 rfl (by omega) (fun c102 => ?_) (fun c103 => by exfalso; omega)
      have h104 : f81 83 = iz E 3 av := (k88 83 (by decide)).trans hc83
      have h105 : F84 36 = .int (zI c) := (k87 36 (by decide)).trans hF36
      have h106 : f81 82 = iz E 1536 o := (k88 82 (by decide)).trans hc82
      exact F_vret hX hE d_Mo_make_188 ⟨rfl, F84, _, _, _, h85, h105, h86, (FrF.tr FrF.rf k87 (by decide)), h106, h104, by omega, hav, (Fr.tr Fr.rf k88 (by decide))⟩
theorem c_Mo_make2_no (E : EV) (f : Nat → va_E) (F : Nat → Value) (n : Int) (md : Int) (K : WK) (oo : Int) (c : Int) (N : Int) (S : Int) (T : Int) (ob : Int → Int) (o : Int → Int) (old : Int → Int) (m : Int → Int) (oc : Int) (nr : Int → Int) (sm : Int → Int) (av : Int → Int) (ev : Int → Int) (b : Int → Int) (g : Int → Int) (sE : Int) (hMo : f 61 = mob F) (hmk : moK E F) (hF25 : F 25 = .int (zI N)) (hF26 : F 26 = .int (zI S)) (hF27 : F 27 = .int (zI T)) (hF32 : F 32 = .int (zI 0)) (hF36 : F 36 = .int (zI c)) (hF39 : F 39 = .int (zI (kF K))) (hF40 : F 40 = .int (zI (kS K))) (hF41 : F 41 = .int (zI oo)) (hF42 : F 42 = .int (zI (kT K))) (hF43 : F 43 = .int (zI (kZ K))) (hc81 : f 81 = iz E 1536 ob) (hc82 : f 82 = iz E 1536 o) (hc78 : f 78 = iz E 8 nr) (hc79 : f 79 = iz E 1024 sm) (hc83 : f 83 = iz E 3 av) (hc84 : f 84 = iz E 3 ev) (hc63 : f 63 = iz E 1600 b) (hoo : (oo = 1 ∧ kO K = 2) ∨ (oo = 0 ∧ ¬ kO K = 2)) (hK : (0 ≤ kT K ∧ 0 ≤ kS K ∧ 0 ≤ kF K) ∧ (kO K = 2 → kF K + kS K ≤ kT K) ∧ (¬ kO K = 2 → kF K + kS K ≤ oc) ∧ 0 ≤ oc ∧ oc ≤ 1536) (hold : agB ob old oc) (hout : agB o m c) (hn : 0 ≤ n ∧ n < 268435456) (hmd : 0 ≤ md ∧ md < 256) (hc : kT K ≤ c ∧ c ≤ kT K + kZ K ∧ kT K + kZ K ≤ 1536) (hN : 0 ≤ N ∧ N ≤ 8 ∧ 0 ≤ S ∧ S ≤ 4) (hT : 0 ≤ T ∧ T < 8 ∧ (0 < N → T < N)) (hnr : ∀ k, 0 ≤ nr k ∧ nr k ≤ 100000) (hsm : ∀ k, 0 ≤ sm k ∧ sm k ≤ 100000) (hG : isB g) (hgb : ∀ i, 0 ≤ i → i < sE → b (600 + i) = g i) (hav : avB av) (hev : avB ev) (hen : (av 0 ≤ ev 0 ∧ ev 0 ≤ sE) ∧ (av 1 ≤ ev 1 ∧ ev 1 ≤ sE) ∧ (av 2 ≤ ev 2 ∧ ev 2 ≤ sE)) (hsE : sE ≤ 700) (hk : ¬ (n ≤ kT K + kZ K - c ∧ av 0 < ev 0)) : CF yn_Mo_make cd_Mo_make 8 none 4 E [.ref (eA E 61), .int (zI 2), .int (zI n), .int (zI md)] f (fun r f' => r = none ∧ ∃ (F' : Nat → Value) (c' : Int) (o' : Int → Int) (av' : Int → Int), f' 61 = mob F' ∧ F' 36 = .int (zI c') ∧ F' 32 = .int (zI (-2)) ∧ FrF [32, 36] F F' ∧ f' 82 = iz E 1536 o' ∧ f' 83 = iz E 3 av' ∧ (0 ≤ c' ∧ c' ≤ 1536) ∧ (avB av') ∧ Fr [82, 83, 61] f f') := by
  refine CF.of (by decide +kernel) (Nat.le_of_ble_eq_true rfl) fun X hX hE => ?_
  have hX : Ok E X "DeltaFerryModel" "make" cd_Mo_make 8 none (rl 4) := hX
  refine G_cast (lv' := [(0, .ref (eA E 61)), (1, .int (zI 2)), (2, .int (zI n)), (3, .int (zI md))]) ?_ rfl rfl rfl rfl
  have hv0 := hav 0 (by decide) (by decide)
  have hv2 := hav 2 (by decide) (by decide)
  have hv1 := hav 1 (by decide) (by decide)
  have he0 := hev 0 (by decide) (by decide)
  have he2 := hev 2 (by decide) (by decide)
  have hen2 : ∀ i, 0 ≤ i → i ≤ 2 → ev i ≤ sE := fun i h1 h2 => by rcases (show i = 0 ∨ i = 1 ∨ i = 2 by omega) with h | h | h <;> rw [h] <;> omega
  have hhe : kS K + c - kT K ≤ 100000 := by rcases hoo with q | q; (have := hK.2.1 q.2; omega); (have := hK.2.2.1 q.2; omega)
  refine G_aload_n hX 0 rfl rfl d_Mo_make_0 ?_
  refine M_get hX fg_Mo_373 d_Mo_make_1 hMo (by decide) hF40 ?_
  refine G_aload_n hX 0 rfl rfl d_Mo_make_4 ?_
  refine M_get hX fg_Mo_386 d_Mo_make_5 hMo (by decide) hF36 ?_
  refine G_iadd_z hX d_Mo_make_8 ?_
  refine G_aload_n hX 0 rfl rfl d_Mo_make_9 ?_
  refine M_get hX fg_Mo_376 d_Mo_make_10 hMo (by decide) hF42 ?_
  refine G_isub_z hX d_Mo_make_13 ?_
  refine G_istore hX (lv' := [(4, .int (zI (((kS K) + c) - (kT K)))), (0, .ref (eA E 61)), (1, .int (zI 2)), (2, .int (zI n)), (3, .int (zI md))]) (by decide) rfl d_Mo_make_14 ?_
  refine G_aload_n hX 1 rfl rfl d_Mo_make_16 ?_
  refine M_get hX fg_Mo_386 d_Mo_make_17 hMo (by decide) hF36 ?_
  refine G_iload_n hX 3 rfl rfl d_Mo_make_20 ?_
  refine G_iadd_z hX d_Mo_make_21 ?_
  refine G_aload_n hX 1 rfl rfl d_Mo_make_22 ?_
  refine M_get hX fg_Mo_376 d_Mo_make_23 hMo (by decide) hF42 ?_
  refine G_aload_n hX 1 rfl rfl d_Mo_make_26 ?_
  refine M_get hX fg_Mo_389 d_Mo_make_27 hMo (by decide) hF43 ?_
  refine G_iadd_z hX d_Mo_make_30 ?_
  refine G_icmp_le_z hX (tgt := 40) d_Mo_make_31 rfl (by omega) (fun c1 => ?_) (fun c2 => ?_)
  · skip
    have hkn : n ≤ kT K + kZ K - c := by omega
    have hk0 : ¬ av 0 < ev 0 := fun q => hk ⟨hkn, q⟩
    refine G_iload_n hX 2 rfl rfl d_Mo_make_40 ?_
    refine G_iconst hX d_Mo_make_41 ?_
    refine G_icmp_ne_z hX (tgt := 53) d_Mo_make_42 rfl (by omega) (fun c3 => by exfalso; omega) (fun c4 => ?_)
    refine G_aload_n hX 1 rfl rfl d_Mo_make_45 ?_
    refine G_iconst hX d_Mo_make_46 ?_
    refine F_callV hX (st := []) (c_Mo_readPart_no E f F 0 av ev hMo hmk hF32 hc83 hc84 (by omega) (by omega)) cm_Mo_readPart im_Mo_readPart se_Mo_readPart rfl ml_Mo_361 d_Mo_make_47 (by decide) hMo rfl rfl (Nat.le_of_ble_eq_true rfl) (by decide) ?_
    rintro _ f5 ⟨rfl, F8, h9, h10, k11, k12⟩
    refine G_cast (st' := [.int (zI 0)]) ?_ rfl rfl rfl rfl
    refine G_goto hX (tgt := 54) d_Mo_make_50 rfl ?_
    refine G_istore hX (lv' := [(5, .int (zI 0)), (4, .int (zI (((kS K) + c) - (kT K)))), (0, .ref (eA E 61)), (1, .int (zI 2)), (2, .int (zI n)), (3, .int (zI md))]) (by decide) rfl d_Mo_make_54 ?_
    refine G_iload_n hX 3 rfl rfl d_Mo_make_56 ?_
    refine G_iconst hX d_Mo_make_57 ?_
    refine G_icmp_ne_z hX (tgt := 71) d_Mo_make_58 rfl (by omega) (fun c13 => ?_) (fun c14 => by exfalso; omega)
    refine G_iconst hX d_Mo_make_71 ?_
    refine G_istore hX (lv' := [(6, .int (zI 0)), (5, .int (zI 0)), (4, .int (zI (((kS K) + c) - (kT K)))), (0, .ref (eA E 61)), (1, .int (zI 2)), (2, .int (zI n)), (3, .int (zI md))]) (by decide) rfl d_Mo_make_72 ?_
    refine G_iload_n hX 4 rfl rfl d_Mo_make_74 ?_
    refine G_iconst hX d_Mo_make_75 ?_
    refine G_icmp_ne_z hX (tgt := 97) d_Mo_make_76 rfl (by omega) (fun c15 => ?_) (fun c16 => by exfalso; omega)
    refine G_iload_n hX 4 rfl rfl d_Mo_make_97 ?_
    refine G_iconst hX d_Mo_make_98 ?_
    refine G_icmp_ne_z hX (tgt := 115) d_Mo_make_99 rfl (by omega) (fun c17 => ?_) (fun c18 => by exfalso; omega)
    refine G_iconst hX d_Mo_make_115 ?_
    refine G_istore hX (lv' := [(7, .int (zI 0)), (6, .int (zI 0)), (5, .int (zI 0)), (4, .int (zI (((kS K) + c) - (kT K)))), (0, .ref (eA E 61)), (1, .int (zI 2)), (2, .int (zI n)), (3, .int (zI md))]) (by decide) rfl d_Mo_make_116 ?_
    refine G_iload hX 0 rfl d_Mo_make_118 ?_
    refine G_iload_n hX 6 rfl rfl d_Mo_make_120 ?_
    refine G_icmp_ge_z hX (tgt := 188) d_Mo_make_121 rfl (by omega) (fun c19 => ?_) (fun c20 => ?_)
    · skip
      have h21 : f5 83 = iz E 3 av := (k12 83 (by decide)).trans hc83
      have h22 : F8 36 = .int (zI c) := (k11 36 (by decide)).trans hF36
      have h23 : f5 82 = iz E 1536 o := (k12 82 (by decide)).trans hc82
      exact F_vret hX hE d_Mo_make_188 ⟨rfl, F8, _, _, _, h9, h22, h10, (FrF.tr FrF.rf k11 (by decide)), h23, h21, by omega, hav, (Fr.tr Fr.rf k12 (by decide))⟩
    · skip
      refine G_aload_n hX 4 rfl rfl d_Mo_make_124 ?_
      refine M_get hX fg_Mo_345 d_Mo_make_125 h9 (by decide) h10 ?_
      refine G_if_ne_z hX (tgt := 188) d_Mo_make_128 rfl (by omega) (fun c24 => ?_) (fun c25 => by exfalso; omega)
      have h26 : f5 83 = iz E 3 av := (k12 83 (by decide)).trans hc83
      have h27 : F8 36 = .int (zI c) := (k11 36 (by decide)).trans hF36
      have h28 : f5 82 = iz E 1536 o := (k12 82 (by decide)).trans hc82
      exact F_vret hX hE d_Mo_make_188 ⟨rfl, F8, _, _, _, h9, h27, h10, (FrF.tr FrF.rf k11 (by decide)), h28, h26, by omega, hav, (Fr.tr Fr.rf k12 (by decide))⟩
  · skip
    refine G_aload_n hX 1 rfl rfl d_Mo_make_34 ?_
    refine G_bipush hX (by decide) d_Mo_make_35 ?_
    refine F_callV hX (st := []) (c_Mo_refuse E f F (-2) hMo hmk hF32) cm_Mo_refuse im_Mo_refuse se_Mo_refuse rfl ml_Mo_354 d_Mo_make_37 (by decide) hMo rfl rfl (Nat.le_of_ble_eq_true rfl) (by decide) ?_
    rintro _ f29 ⟨rfl, F32, h33, h34, k35, k36⟩
    refine G_cast (st' := []) ?_ rfl rfl rfl rfl
    refine G_iload_n hX 2 rfl rfl d_Mo_make_40 ?_
    refine G_iconst hX d_Mo_make_41 ?_
    refine G_icmp_ne_z hX (tgt := 53) d_Mo_make_42 rfl (by omega) (fun c37 => by exfalso; omega) (fun c38 => ?_)
    refine G_aload_n hX 1 rfl rfl d_Mo_make_45 ?_
    refine G_iconst hX d_Mo_make_46 ?_
    have h39 : f29 83 = iz E 3 av := (k36 83 (by decide)).trans hc83
    have h40 : f29 84 = iz E 3 ev := (k36 84 (by decide)).trans hc84
    have h41 : f29 63 = iz E 1600 b := (k36 63 (by decide)).trans hc63
    refine F_callV hX (st := []) (c_Mo_readPart_f E f29 F32 0 av ev b g sE (-2) h33 (moK_fr hmk (FrF.tr (FrF.rf (S := [32])) k35 (by decide)) (by decide)) h34 h39 h40 h41 (by omega) hG hgb hav hev hen2 (by omega) (by omega)) cm_Mo_readPart im_Mo_readPart se_Mo_readPart rfl ml_Mo_361 d_Mo_make_47 (by decide) h33 rfl rfl (Nat.le_of_ble_eq_true rfl) (by decide) ?_
    rintro _ f42 ⟨F45, r'_46, av'_47, rfl, h48, h49, k50, h51, p52, p53, k54⟩
    refine G_cast (st' := [.int (zI r'_46)]) ?_ rfl rfl rfl rfl
    refine G_goto hX (tgt := 54) d_Mo_make_50 rfl ?_
    refine G_istore hX (lv' := [(5, .int (zI r'_46)), (4, .int (zI (((kS K) + c) - (kT K)))), (0, .ref (eA E 61)), (1, .int (zI 2)), (2, .int (zI n)), (3, .int (zI md))]) (by decide) rfl d_Mo_make_54 ?_
    refine G_iload_n hX 3 rfl rfl d_Mo_make_56 ?_
    refine G_iconst hX d_Mo_make_57 ?_
    refine G_icmp_ne_z hX (tgt := 71) d_Mo_make_58 rfl (by omega) (fun c55 => ?_) (fun c56 => by exfalso; omega)
    refine G_iconst hX d_Mo_make_71 ?_
    refine G_istore hX (lv' := [(6, .int (zI 0)), (5, .int (zI r'_46)), (4, .int (zI (((kS K) + c) - (kT K)))), (0, .ref (eA E 61)), (1, .int (zI 2)), (2, .int (zI n)), (3, .int (zI md))]) (by decide) rfl d_Mo_make_72 ?_
    refine G_iload_n hX 4 rfl rfl d_Mo_make_74 ?_
    refine G_iconst hX d_Mo_make_75 ?_
    refine G_icmp_ne_z hX (tgt := 97) d_Mo_make_76 rfl (by omega) (fun c57 => ?_) (fun c58 => by exfalso; omega)
    refine G_iload_n hX 4 rfl rfl d_Mo_make_97 ?_
    refine G_iconst hX d_Mo_make_98 ?_
    refine G_icmp_ne_z hX (tgt := 115) d_Mo_make_99 rfl (by omega) (fun c59 => ?_) (fun c60 => by exfalso; omega)
    refine G_iconst hX d_Mo_make_115 ?_
    refine G_istore hX (lv' := [(7, .int (zI 0)), (6, .int (zI 0)), (5, .int (zI r'_46)), (4, .int (zI (((kS K) + c) - (kT K)))), (0, .ref (eA E 61)), (1, .int (zI 2)), (2, .int (zI n)), (3, .int (zI md))]) (by decide) rfl d_Mo_make_116 ?_
    refine G_iload hX 0 rfl d_Mo_make_118 ?_
    refine G_iload_n hX 6 rfl rfl d_Mo_make_120 ?_
    refine G_icmp_ge_z hX (tgt := 188) d_Mo_make_121 rfl (by omega) (fun c61 => ?_) (fun c62 => ?_)
    · skip
      have h63 : F45 36 = .int (zI c) := (k50 36 (by decide)).trans ((k35 36 (by decide)).trans hF36)
      have h64 : f42 82 = iz E 1536 o := (k54 82 (by decide)).trans ((k36 82 (by decide)).trans hc82)
      exact F_vret hX hE d_Mo_make_188 ⟨rfl, F45, _, _, _, h48, h63, h49, (FrF.tr (FrF.tr FrF.rf k35 (by decide)) k50 (by decide)), h64, h51, by omega, p53, (Fr.tr (Fr.tr Fr.rf k36 (by decide)) k54 (by decide))⟩
    · skip
      refine G_aload_n hX 4 rfl rfl d_Mo_make_124 ?_
      refine M_get hX fg_Mo_345 d_Mo_make_125 h48 (by decide) h49 ?_
      refine G_if_ne_z hX (tgt := 188) d_Mo_make_128 rfl (by omega) (fun c65 => ?_) (fun c66 => by exfalso; omega)
      have h67 : F45 36 = .int (zI c) := (k50 36 (by decide)).trans ((k35 36 (by decide)).trans hF36)
      have h68 : f42 82 = iz E 1536 o := (k54 82 (by decide)).trans ((k36 82 (by decide)).trans hc82)
      exact F_vret hX hE d_Mo_make_188 ⟨rfl, F45, _, _, _, h48, h67, h49, (FrF.tr (FrF.tr FrF.rf k35 (by decide)) k50 (by decide)), h68, h51, by omega, p53, (Fr.tr (Fr.tr Fr.rf k36 (by decide)) k54 (by decide))⟩
theorem c_Mo_make3_no (E : EV) (f : Nat → va_E) (F : Nat → Value) (n : Int) (md : Int) (K : WK) (oo : Int) (c : Int) (N : Int) (S : Int) (T : Int) (ob : Int → Int) (o : Int → Int) (old : Int → Int) (m : Int → Int) (oc : Int) (nr : Int → Int) (sm : Int → Int) (av : Int → Int) (ev : Int → Int) (b : Int → Int) (g : Int → Int) (sE : Int) (hMo : f 61 = mob F) (hmk : moK E F) (hF25 : F 25 = .int (zI N)) (hF26 : F 26 = .int (zI S)) (hF27 : F 27 = .int (zI T)) (hF32 : F 32 = .int (zI 0)) (hF36 : F 36 = .int (zI c)) (hF39 : F 39 = .int (zI (kF K))) (hF40 : F 40 = .int (zI (kS K))) (hF41 : F 41 = .int (zI oo)) (hF42 : F 42 = .int (zI (kT K))) (hF43 : F 43 = .int (zI (kZ K))) (hc81 : f 81 = iz E 1536 ob) (hc82 : f 82 = iz E 1536 o) (hc78 : f 78 = iz E 8 nr) (hc79 : f 79 = iz E 1024 sm) (hc83 : f 83 = iz E 3 av) (hc84 : f 84 = iz E 3 ev) (hc63 : f 63 = iz E 1600 b) (hoo : (oo = 1 ∧ kO K = 2) ∨ (oo = 0 ∧ ¬ kO K = 2)) (hK : (0 ≤ kT K ∧ 0 ≤ kS K ∧ 0 ≤ kF K) ∧ (kO K = 2 → kF K + kS K ≤ kT K) ∧ (¬ kO K = 2 → kF K + kS K ≤ oc) ∧ 0 ≤ oc ∧ oc ≤ 1536) (hold : agB ob old oc) (hout : agB o m c) (hn : 0 ≤ n ∧ n < 268435456) (hmd : 0 ≤ md ∧ md < 256) (hc : kT K ≤ c ∧ c ≤ kT K + kZ K ∧ kT K + kZ K ≤ 1536) (hN : 0 ≤ N ∧ N ≤ 8 ∧ 0 ≤ S ∧ S ≤ 4) (hT : 0 ≤ T ∧ T < 8 ∧ (0 < N → T < N)) (hnr : ∀ k, 0 ≤ nr k ∧ nr k ≤ 100000) (hsm : ∀ k, 0 ≤ sm k ∧ sm k ≤ 100000) (hG : isB g) (hgb : ∀ i, 0 ≤ i → i < sE → b (600 + i) = g i) (hav : avB av) (hev : avB ev) (hen : (av 0 ≤ ev 0 ∧ ev 0 ≤ sE) ∧ (av 1 ≤ ev 1 ∧ ev 1 ≤ sE) ∧ (av 2 ≤ ev 2 ∧ ev 2 ≤ sE)) (hsE : sE ≤ 700) (hk : ¬ (n ≤ kT K + kZ K - c ∧ hrOk (hrR nr sm N S md (kS K + c - kT K) g (av 2) (ev 2)).1 (kS K + c - kT K))) : CF yn_Mo_make cd_Mo_make 8 none 4 E [.ref (eA E 61), .int (zI 3), .int (zI n), .int (zI md)] f (fun r f' => r = none ∧ ∃ (F' : Nat → Value) (c' : Int) (o' : Int → Int) (av' : Int → Int), f' 61 = mob F' ∧ F' 36 = .int (zI c') ∧ F' 32 = .int (zI (-2)) ∧ FrF [32, 36] F F' ∧ f' 82 = iz E 1536 o' ∧ f' 83 = iz E 3 av' ∧ (0 ≤ c' ∧ c' ≤ 1536) ∧ (avB av') ∧ Fr [82, 83, 61] f f') := by
  refine CF.of (by decide +kernel) (Nat.le_of_ble_eq_true rfl) fun X hX hE => ?_
  have hX : Ok E X "DeltaFerryModel" "make" cd_Mo_make 8 none (rl 4) := hX
  refine G_cast (lv' := [(0, .ref (eA E 61)), (1, .int (zI 3)), (2, .int (zI n)), (3, .int (zI md))]) ?_ rfl rfl rfl rfl
  have hv0 := hav 0 (by decide) (by decide)
  have hv2 := hav 2 (by decide) (by decide)
  have hv1 := hav 1 (by decide) (by decide)
  have he0 := hev 0 (by decide) (by decide)
  have he2 := hev 2 (by decide) (by decide)
  have hen2 : ∀ i, 0 ≤ i → i ≤ 2 → ev i ≤ sE := fun i h1 h2 => by rcases (show i = 0 ∨ i = 1 ∨ i = 2 by omega) with h | h | h <;> rw [h] <;> omega
  have hhe : kS K + c - kT K ≤ 100000 := by rcases hoo with q | q; (have := hK.2.1 q.2; omega); (have := hK.2.2.1 q.2; omega)
  refine G_aload_n hX 0 rfl rfl d_Mo_make_0 ?_
  refine M_get hX fg_Mo_373 d_Mo_make_1 hMo (by decide) hF40 ?_
  refine G_aload_n hX 0 rfl rfl d_Mo_make_4 ?_
  refine M_get hX fg_Mo_386 d_Mo_make_5 hMo (by decide) hF36 ?_
  refine G_iadd_z hX d_Mo_make_8 ?_
  refine G_aload_n hX 0 rfl rfl d_Mo_make_9 ?_
  refine M_get hX fg_Mo_376 d_Mo_make_10 hMo (by decide) hF42 ?_
  refine G_isub_z hX d_Mo_make_13 ?_
  refine G_istore hX (lv' := [(4, .int (zI (((kS K) + c) - (kT K)))), (0, .ref (eA E 61)), (1, .int (zI 3)), (2, .int (zI n)), (3, .int (zI md))]) (by decide) rfl d_Mo_make_14 ?_
  refine G_aload_n hX 1 rfl rfl d_Mo_make_16 ?_
  refine M_get hX fg_Mo_386 d_Mo_make_17 hMo (by decide) hF36 ?_
  refine G_iload_n hX 3 rfl rfl d_Mo_make_20 ?_
  refine G_iadd_z hX d_Mo_make_21 ?_
  refine G_aload_n hX 1 rfl rfl d_Mo_make_22 ?_
  refine M_get hX fg_Mo_376 d_Mo_make_23 hMo (by decide) hF42 ?_
  refine G_aload_n hX 1 rfl rfl d_Mo_make_26 ?_
  refine M_get hX fg_Mo_389 d_Mo_make_27 hMo (by decide) hF43 ?_
  refine G_iadd_z hX d_Mo_make_30 ?_
  refine G_icmp_le_z hX (tgt := 40) d_Mo_make_31 rfl (by omega) (fun c1 => ?_) (fun c2 => ?_)
  · skip
    have hkn : n ≤ kT K + kZ K - c := by omega
    have hk0 : ¬ hrOk (hrR nr sm N S md (kS K + c - kT K) g (av 2) (ev 2)).1 (kS K + c - kT K) := fun q => hk ⟨hkn, q⟩
    by_cases hok : (md < 2 + N ∧ 0 ≤ (numL g (ev 2) 4 (av 2) 0).1) ∨ (2 + N ≤ md ∧ md < 2 + N + S ∧ av 2 < ev 2)
    · skip
      refine G_iload_n hX 2 rfl rfl d_Mo_make_40 ?_
      refine G_iconst hX d_Mo_make_41 ?_
      refine G_icmp_ne_z hX (tgt := 53) d_Mo_make_42 rfl (by omega) (fun c3 => ?_) (fun c4 => by exfalso; omega)
      refine G_iconst hX d_Mo_make_53 ?_
      refine G_istore hX (lv' := [(5, .int (zI 0)), (4, .int (zI (((kS K) + c) - (kT K)))), (0, .ref (eA E 61)), (1, .int (zI 3)), (2, .int (zI n)), (3, .int (zI md))]) (by decide) rfl d_Mo_make_54 ?_
      refine G_iload_n hX 3 rfl rfl d_Mo_make_56 ?_
      refine G_iconst hX d_Mo_make_57 ?_
      refine G_icmp_ne_z hX (tgt := 71) d_Mo_make_58 rfl (by omega) (fun c5 => by exfalso; omega) (fun c6 => ?_)
      refine G_aload_n hX 2 rfl rfl d_Mo_make_61 ?_
      refine G_iload_n hX 5 rfl rfl d_Mo_make_62 ?_
      refine G_iload hX 1 rfl d_Mo_make_63 ?_
      refine F_callV hX (st := []) (c_Mo_readAddress_ok E f F md (((kS K) + c) - (kT K)) N S nr sm av ev b g sE hMo hmk hF25 hF26 hF32 hc78 hc79 hc83 hc84 hc63 (by omega) (by omega) (by omega) hnr hsm hG hgb (by omega) hok) cm_Mo_readAddress im_Mo_readAddress se_Mo_readAddress rfl ml_Mo_392 d_Mo_make_65 (by decide) hMo rfl rfl (Nat.le_of_ble_eq_true rfl) (by decide) ?_
      rintro _ f7 ⟨rfl, h10, k11⟩
      refine G_cast (st' := [.int (zI ((hrR nr sm N S md (((kS K) + c) - (kT K)) g (av 2) (ev 2)).1))]) ?_ rfl rfl rfl rfl
      have hab : -1000000000 ≤ (hrR nr sm N S md (kS K + c - kT K) g (av 2) (ev 2)).1 ∧ (hrR nr sm N S md (kS K + c - kT K) g (av 2) (ev 2)).1 < 1000000000 := hrR_bd hG hnr hsm (by omega) (by omega)
      refine G_goto hX (tgt := 72) d_Mo_make_68 rfl ?_
      refine G_istore hX (lv' := [(6, .int (zI ((hrR nr sm N S md (((kS K) + c) - (kT K)) g (av 2) (ev 2)).1))), (5, .int (zI 0)), (4, .int (zI (((kS K) + c) - (kT K)))), (0, .ref (eA E 61)), (1, .int (zI 3)), (2, .int (zI n)), (3, .int (zI md))]) (by decide) rfl d_Mo_make_72 ?_
      refine G_iload_n hX 4 rfl rfl d_Mo_make_74 ?_
      refine G_iconst hX d_Mo_make_75 ?_
      refine G_icmp_ne_z hX (tgt := 97) d_Mo_make_76 rfl (by omega) (fun c12 => by exfalso; omega) (fun c13 => ?_)
      refine G_iload hX 0 rfl d_Mo_make_79 ?_
      refine G_if_lt_z hX (tgt := 91) d_Mo_make_81 rfl (by omega) (fun c14 => ?_) (fun c15 => ?_)
      · skip
        refine G_aload_n hX 3 rfl rfl d_Mo_make_91 ?_
        refine G_bipush hX (by decide) d_Mo_make_92 ?_
        have h16 : f7 61 = mob F := (k11 61 (by decide)).trans hMo
        refine F_callV hX (st := []) (c_Mo_refuse E f7 F (-2) h16 hmk hF32) cm_Mo_refuse im_Mo_refuse se_Mo_refuse rfl ml_Mo_354 d_Mo_make_94 (by decide) h16 rfl rfl (Nat.le_of_ble_eq_true rfl) (by decide) ?_
        rintro _ f17 ⟨rfl, F20, h21, h22, k23, k24⟩
        refine G_cast (st' := []) ?_ rfl rfl rfl rfl
        refine G_iload_n hX 4 rfl rfl d_Mo_make_97 ?_
        refine G_iconst hX d_Mo_make_98 ?_
        refine G_icmp_ne_z hX (tgt := 115) d_Mo_make_99 rfl (by omega) (fun c25 => by exfalso; omega) (fun c26 => ?_)
        refine G_aload_n hX 3 rfl rfl d_Mo_make_102 ?_
        refine M_get hX fg_Mo_345 d_Mo_make_103 h21 (by decide) h22 ?_
        refine G_if_ne_z hX (tgt := 115) d_Mo_make_106 rfl (by omega) (fun c27 => ?_) (fun c28 => by exfalso; omega)
        refine G_iconst hX d_Mo_make_115 ?_
        refine G_istore hX (lv' := [(7, .int (zI 0)), (6, .int (zI ((hrR nr sm N S md (((kS K) + c) - (kT K)) g (av 2) (ev 2)).1))), (5, .int (zI 0)), (4, .int (zI (((kS K) + c) - (kT K)))), (0, .ref (eA E 61)), (1, .int (zI 3)), (2, .int (zI n)), (3, .int (zI md))]) (by decide) rfl d_Mo_make_116 ?_
        refine G_iload hX 0 rfl d_Mo_make_118 ?_
        refine G_iload_n hX 6 rfl rfl d_Mo_make_120 ?_
        refine G_icmp_ge_z hX (tgt := 188) d_Mo_make_121 rfl (by omega) (fun c29 => ?_) (fun c30 => ?_)
        · skip
          have h31 : f17 83 = iz E 3 (uz av 2 (hrR nr sm N S md (((kS K) + c) - (kT K)) g (av 2) (ev 2)).2) := (k24 83 (by decide)).trans h10
          have h32 : F20 36 = .int (zI c) := (k23 36 (by decide)).trans hF36
          have h33 : f17 82 = iz E 1536 o := (k24 82 (by decide)).trans ((k11 82 (by decide)).trans hc82)
          exact F_vret hX hE d_Mo_make_188 ⟨rfl, F20, _, _, _, h21, h32, h22, (FrF.tr FrF.rf k23 (by decide)), h33, h31, by omega, (avB_u hav (by have := hrR_b (g := g) (nr := nr) (sm := sm) (N := N) (S := S) (mode := md) (here := kS K + c - kT K) (pa := av 2) (e := ev 2) hG (by omega); omega)), (Fr.tr (Fr.tr Fr.rf k11 (by decide)) k24 (by decide))⟩
        · skip
          refine G_aload_n hX 4 rfl rfl d_Mo_make_124 ?_
          refine M_get hX fg_Mo_345 d_Mo_make_125 h21 (by decide) h22 ?_
          refine G_if_ne_z hX (tgt := 188) d_Mo_make_128 rfl (by omega) (fun c34 => ?_) (fun c35 => by exfalso; omega)
          have h36 : f17 83 = iz E 3 (uz av 2 (hrR nr sm N S md (((kS K) + c) - (kT K)) g (av 2) (ev 2)).2) := (k24 83 (by decide)).trans h10
          have h37 : F20 36 = .int (zI c) := (k23 36 (by decide)).trans hF36
          have h38 : f17 82 = iz E 1536 o := (k24 82 (by decide)).trans ((k11 82 (by decide)).trans hc82)
          exact F_vret hX hE d_Mo_make_188 ⟨rfl, F20, _, _, _, h21, h37, h22, (FrF.tr FrF.rf k23 (by decide)), h38, h36, by omega, (avB_u hav (by have := hrR_b (g := g) (nr := nr) (sm := sm) (N := N) (S := S) (mode := md) (here := kS K + c - kT K) (pa := av 2) (e := ev 2) hG (by omega); omega)), (Fr.tr (Fr.tr Fr.rf k11 (by decide)) k24 (by decide))⟩
      · skip
        refine G_iload hX 0 rfl d_Mo_make_84 ?_
        refine G_iload hX 2 rfl d_Mo_make_86 ?_
        refine G_icmp_lt_z hX (tgt := 97) d_Mo_make_88 rfl (by omega) (fun c39 => ?_) (fun c40 => ?_)
        · skip
          exact absurd ⟨by omega, by omega⟩ hk0
        · skip
          refine G_aload_n hX 3 rfl rfl d_Mo_make_91 ?_
          refine G_bipush hX (by decide) d_Mo_make_92 ?_
          have h41 : f7 61 = mob F := (k11 61 (by decide)).trans hMo
          refine F_callV hX (st := []) (c_Mo_refuse E f7 F (-2) h41 hmk hF32) cm_Mo_refuse im_Mo_refuse se_Mo_refuse rfl ml_Mo_354 d_Mo_make_94 (by decide) h41 rfl rfl (Nat.le_of_ble_eq_true rfl) (by decide) ?_
          rintro _ f42 ⟨rfl, F45, h46, h47, k48, k49⟩
          refine G_cast (st' := []) ?_ rfl rfl rfl rfl
          refine G_iload_n hX 4 rfl rfl d_Mo_make_97 ?_
          refine G_iconst hX d_Mo_make_98 ?_
          refine G_icmp_ne_z hX (tgt := 115) d_Mo_make_99 rfl (by omega) (fun c50 => by exfalso; omega) (fun c51 => ?_)
          refine G_aload_n hX 3 rfl rfl d_Mo_make_102 ?_
          refine M_get hX fg_Mo_345 d_Mo_make_103 h46 (by decide) h47 ?_
          refine G_if_ne_z hX (tgt := 115) d_Mo_make_106 rfl (by omega) (fun c52 => ?_) (fun c53 => by exfalso; omega)
          refine G_iconst hX d_Mo_make_115 ?_
          refine G_istore hX (lv' := [(7, .int (zI 0)), (6, .int (zI ((hrR nr sm N S md (((kS K) + c) - (kT K)) g (av 2) (ev 2)).1))), (5, .int (zI 0)), (4, .int (zI (((kS K) + c) - (kT K)))), (0, .ref (eA E 61)), (1, .int (zI 3)), (2, .int (zI n)), (3, .int (zI md))]) (by decide) rfl d_Mo_make_116 ?_
          refine G_iload hX 0 rfl d_Mo_make_118 ?_
          refine G_iload_n hX 6 rfl rfl d_Mo_make_120 ?_
          refine G_icmp_ge_z hX (tgt := 188) d_Mo_make_121 rfl (by omega) (fun c54 => ?_) (fun c55 => ?_)
          · skip
            have h56 : f42 83 = iz E 3 (uz av 2 (hrR nr sm N S md (((kS K) + c) - (kT K)) g (av 2) (ev 2)).2) := (k49 83 (by decide)).trans h10
            have h57 : F45 36 = .int (zI c) := (k48 36 (by decide)).trans hF36
            have h58 : f42 82 = iz E 1536 o := (k49 82 (by decide)).trans ((k11 82 (by decide)).trans hc82)
            exact F_vret hX hE d_Mo_make_188 ⟨rfl, F45, _, _, _, h46, h57, h47, (FrF.tr FrF.rf k48 (by decide)), h58, h56, by omega, (avB_u hav (by have := hrR_b (g := g) (nr := nr) (sm := sm) (N := N) (S := S) (mode := md) (here := kS K + c - kT K) (pa := av 2) (e := ev 2) hG (by omega); omega)), (Fr.tr (Fr.tr Fr.rf k11 (by decide)) k49 (by decide))⟩
          · skip
            refine G_aload_n hX 4 rfl rfl d_Mo_make_124 ?_
            refine M_get hX fg_Mo_345 d_Mo_make_125 h46 (by decide) h47 ?_
            refine G_if_ne_z hX (tgt := 188) d_Mo_make_128 rfl (by omega) (fun c59 => ?_) (fun c60 => by exfalso; omega)
            have h61 : f42 83 = iz E 3 (uz av 2 (hrR nr sm N S md (((kS K) + c) - (kT K)) g (av 2) (ev 2)).2) := (k49 83 (by decide)).trans h10
            have h62 : F45 36 = .int (zI c) := (k48 36 (by decide)).trans hF36
            have h63 : f42 82 = iz E 1536 o := (k49 82 (by decide)).trans ((k11 82 (by decide)).trans hc82)
            exact F_vret hX hE d_Mo_make_188 ⟨rfl, F45, _, _, _, h46, h62, h47, (FrF.tr FrF.rf k48 (by decide)), h63, h61, by omega, (avB_u hav (by have := hrR_b (g := g) (nr := nr) (sm := sm) (N := N) (S := S) (mode := md) (here := kS K + c - kT K) (pa := av 2) (e := ev 2) hG (by omega); omega)), (Fr.tr (Fr.tr Fr.rf k11 (by decide)) k49 (by decide))⟩
    · skip
      refine G_iload_n hX 2 rfl rfl d_Mo_make_40 ?_
      refine G_iconst hX d_Mo_make_41 ?_
      refine G_icmp_ne_z hX (tgt := 53) d_Mo_make_42 rfl (by omega) (fun c64 => ?_) (fun c65 => by exfalso; omega)
      refine G_iconst hX d_Mo_make_53 ?_
      refine G_istore hX (lv' := [(5, .int (zI 0)), (4, .int (zI (((kS K) + c) - (kT K)))), (0, .ref (eA E 61)), (1, .int (zI 3)), (2, .int (zI n)), (3, .int (zI md))]) (by decide) rfl d_Mo_make_54 ?_
      refine G_iload_n hX 3 rfl rfl d_Mo_make_56 ?_
      refine G_iconst hX d_Mo_make_57 ?_
      refine G_icmp_ne_z hX (tgt := 71) d_Mo_make_58 rfl (by omega) (fun c66 => by exfalso; omega) (fun c67 => ?_)
      refine G_aload_n hX 2 rfl rfl d_Mo_make_61 ?_
      refine G_iload_n hX 5 rfl rfl d_Mo_make_62 ?_
      refine G_iload hX 1 rfl d_Mo_make_63 ?_
      refine F_callV hX (st := []) (c_Mo_readAddress_no E f F md (((kS K) + c) - (kT K)) N S nr sm av ev b g sE hMo hmk hF25 hF26 hF32 hc78 hc79 hc83 hc84 hc63 (by omega) (by omega) (by omega) hnr hsm hG hgb (by omega) hav hev hok) cm_Mo_readAddress im_Mo_readAddress se_Mo_readAddress rfl ml_Mo_392 d_Mo_make_65 (by decide) hMo rfl rfl (Nat.le_of_ble_eq_true rfl) (by decide) ?_
      rintro _ f68 ⟨F71, r'_72, av'_73, rfl, h74, h75, k76, h77, p78, p79, p80, k81⟩
      refine G_cast (st' := [.int (zI r'_72)]) ?_ rfl rfl rfl rfl
      have hab := p78
      refine G_goto hX (tgt := 72) d_Mo_make_68 rfl ?_
      refine G_istore hX (lv' := [(6, .int (zI r'_72)), (5, .int (zI 0)), (4, .int (zI (((kS K) + c) - (kT K)))), (0, .ref (eA E 61)), (1, .int (zI 3)), (2, .int (zI n)), (3, .int (zI md))]) (by decide) rfl d_Mo_make_72 ?_
      refine G_iload_n hX 4 rfl rfl d_Mo_make_74 ?_
      refine G_iconst hX d_Mo_make_75 ?_
      refine G_icmp_ne_z hX (tgt := 97) d_Mo_make_76 rfl (by omega) (fun c82 => by exfalso; omega) (fun c83 => ?_)
      refine G_iload hX 0 rfl d_Mo_make_79 ?_
      refine G_if_lt_z hX (tgt := 91) d_Mo_make_81 rfl (by omega) (fun c84 => ?_) (fun c85 => ?_)
      · skip
        refine G_aload_n hX 3 rfl rfl d_Mo_make_91 ?_
        refine G_bipush hX (by decide) d_Mo_make_92 ?_
        refine F_callV hX (st := []) (c_Mo_refuse_f E f68 F71 (-2) (-2) h74 (moK_fr hmk (FrF.tr (FrF.rf (S := [32])) k76 (by decide)) (by decide)) h75 (by omega)) cm_Mo_refuse im_Mo_refuse se_Mo_refuse rfl ml_Mo_354 d_Mo_make_94 (by decide) h74 rfl rfl (Nat.le_of_ble_eq_true rfl) (by decide) ?_
        rintro _ f86 ⟨rfl, F89, h90, h91, k92, k93⟩
        refine G_cast (st' := []) ?_ rfl rfl rfl rfl
        refine G_iload_n hX 4 rfl rfl d_Mo_make_97 ?_
        refine G_iconst hX d_Mo_make_98 ?_
        refine G_icmp_ne_z hX (tgt := 115) d_Mo_make_99 rfl (by omega) (fun c94 => by exfalso; omega) (fun c95 => ?_)
        refine G_aload_n hX 3 rfl rfl d_Mo_make_102 ?_
        refine M_get hX fg_Mo_345 d_Mo_make_103 h90 (by decide) h91 ?_
        refine G_if_ne_z hX (tgt := 115) d_Mo_make_106 rfl (by omega) (fun c96 => ?_) (fun c97 => by exfalso; omega)
        refine G_iconst hX d_Mo_make_115 ?_
        refine G_istore hX (lv' := [(7, .int (zI 0)), (6, .int (zI r'_72)), (5, .int (zI 0)), (4, .int (zI (((kS K) + c) - (kT K)))), (0, .ref (eA E 61)), (1, .int (zI 3)), (2, .int (zI n)), (3, .int (zI md))]) (by decide) rfl d_Mo_make_116 ?_
        refine G_iload hX 0 rfl d_Mo_make_118 ?_
        refine G_iload_n hX 6 rfl rfl d_Mo_make_120 ?_
        refine G_icmp_ge_z hX (tgt := 188) d_Mo_make_121 rfl (by omega) (fun c98 => ?_) (fun c99 => ?_)
        · skip
          have h100 : f86 83 = iz E 3 av'_73 := (k93 83 (by decide)).trans h77
          have h101 : F89 36 = .int (zI c) := (k92 36 (by decide)).trans ((k76 36 (by decide)).trans hF36)
          have h102 : f86 82 = iz E 1536 o := (k93 82 (by decide)).trans ((k81 82 (by decide)).trans hc82)
          exact F_vret hX hE d_Mo_make_188 ⟨rfl, F89, _, _, _, h90, h101, h91, (FrF.tr (FrF.tr FrF.rf k76 (by decide)) k92 (by decide)), h102, h100, by omega, (by assumption), (Fr.tr (Fr.tr Fr.rf k81 (by decide)) k93 (by decide))⟩
        · skip
          refine G_aload_n hX 4 rfl rfl d_Mo_make_124 ?_
          refine M_get hX fg_Mo_345 d_Mo_make_125 h90 (by decide) h91 ?_
          refine G_if_ne_z hX (tgt := 188) d_Mo_make_128 rfl (by omega) (fun c103 => ?_) (fun c104 => by exfalso; omega)
          have h105 : f86 83 = iz E 3 av'_73 := (k93 83 (by decide)).trans h77
          have h106 : F89 36 = .int (zI c) := (k92 36 (by decide)).trans ((k76 36 (by decide)).trans hF36)
          have h107 : f86 82 = iz E 1536 o := (k93 82 (by decide)).trans ((k81 82 (by decide)).trans hc82)
          exact F_vret hX hE d_Mo_make_188 ⟨rfl, F89, _, _, _, h90, h106, h91, (FrF.tr (FrF.tr FrF.rf k76 (by decide)) k92 (by decide)), h107, h105, by omega, (by assumption), (Fr.tr (Fr.tr Fr.rf k81 (by decide)) k93 (by decide))⟩
      · skip
        refine G_iload hX 0 rfl d_Mo_make_84 ?_
        refine G_iload hX 2 rfl d_Mo_make_86 ?_
        refine G_icmp_lt_z hX (tgt := 97) d_Mo_make_88 rfl (by omega) (fun c108 => ?_) (fun c109 => ?_)
        · skip
          refine G_iload_n hX 4 rfl rfl d_Mo_make_97 ?_
          refine G_iconst hX d_Mo_make_98 ?_
          refine G_icmp_ne_z hX (tgt := 115) d_Mo_make_99 rfl (by omega) (fun c110 => by exfalso; omega) (fun c111 => ?_)
          refine G_aload_n hX 3 rfl rfl d_Mo_make_102 ?_
          refine M_get hX fg_Mo_345 d_Mo_make_103 h74 (by decide) h75 ?_
          refine G_if_ne_z hX (tgt := 115) d_Mo_make_106 rfl (by omega) (fun c112 => ?_) (fun c113 => by exfalso; omega)
          refine G_iconst hX d_Mo_make_115 ?_
          refine G_istore hX (lv' := [(7, .int (zI 0)), (6, .int (zI r'_72)), (5, .int (zI 0)), (4, .int (zI (((kS K) + c) - (kT K)))), (0, .ref (eA E 61)), (1, .int (zI 3)), (2, .int (zI n)), (3, .int (zI md))]) (by decide) rfl d_Mo_make_116 ?_
          refine G_iload hX 0 rfl d_Mo_make_118 ?_
          refine G_iload_n hX 6 rfl rfl d_Mo_make_120 ?_
          refine G_icmp_ge_z hX (tgt := 188) d_Mo_make_121 rfl (by omega) (fun c114 => ?_) (fun c115 => ?_)
          · skip
            have h116 : F71 36 = .int (zI c) := (k76 36 (by decide)).trans hF36
            have h117 : f68 82 = iz E 1536 o := (k81 82 (by decide)).trans hc82
            exact F_vret hX hE d_Mo_make_188 ⟨rfl, F71, _, _, _, h74, h116, h75, (FrF.tr FrF.rf k76 (by decide)), h117, h77, by omega, p79, (Fr.tr Fr.rf k81 (by decide))⟩
          · skip
            refine G_aload_n hX 4 rfl rfl d_Mo_make_124 ?_
            refine M_get hX fg_Mo_345 d_Mo_make_125 h74 (by decide) h75 ?_
            refine G_if_ne_z hX (tgt := 188) d_Mo_make_128 rfl (by omega) (fun c118 => ?_) (fun c119 => by exfalso; omega)
            have h120 : F71 36 = .int (zI c) := (k76 36 (by decide)).trans hF36
            have h121 : f68 82 = iz E 1536 o := (k81 82 (by decide)).trans hc82
            exact F_vret hX hE d_Mo_make_188 ⟨rfl, F71, _, _, _, h74, h120, h75, (FrF.tr FrF.rf k76 (by decide)), h121, h77, by omega, p79, (Fr.tr Fr.rf k81 (by decide))⟩
        · skip
          refine G_aload_n hX 3 rfl rfl d_Mo_make_91 ?_
          refine G_bipush hX (by decide) d_Mo_make_92 ?_
          refine F_callV hX (st := []) (c_Mo_refuse_f E f68 F71 (-2) (-2) h74 (moK_fr hmk (FrF.tr (FrF.rf (S := [32])) k76 (by decide)) (by decide)) h75 (by omega)) cm_Mo_refuse im_Mo_refuse se_Mo_refuse rfl ml_Mo_354 d_Mo_make_94 (by decide) h74 rfl rfl (Nat.le_of_ble_eq_true rfl) (by decide) ?_
          rintro _ f122 ⟨rfl, F125, h126, h127, k128, k129⟩
          refine G_cast (st' := []) ?_ rfl rfl rfl rfl
          refine G_iload_n hX 4 rfl rfl d_Mo_make_97 ?_
          refine G_iconst hX d_Mo_make_98 ?_
          refine G_icmp_ne_z hX (tgt := 115) d_Mo_make_99 rfl (by omega) (fun c130 => by exfalso; omega) (fun c131 => ?_)
          refine G_aload_n hX 3 rfl rfl d_Mo_make_102 ?_
          refine M_get hX fg_Mo_345 d_Mo_make_103 h126 (by decide) h127 ?_
          refine G_if_ne_z hX (tgt := 115) d_Mo_make_106 rfl (by omega) (fun c132 => ?_) (fun c133 => by exfalso; omega)
          refine G_iconst hX d_Mo_make_115 ?_
          refine G_istore hX (lv' := [(7, .int (zI 0)), (6, .int (zI r'_72)), (5, .int (zI 0)), (4, .int (zI (((kS K) + c) - (kT K)))), (0, .ref (eA E 61)), (1, .int (zI 3)), (2, .int (zI n)), (3, .int (zI md))]) (by decide) rfl d_Mo_make_116 ?_
          refine G_iload hX 0 rfl d_Mo_make_118 ?_
          refine G_iload_n hX 6 rfl rfl d_Mo_make_120 ?_
          refine G_icmp_ge_z hX (tgt := 188) d_Mo_make_121 rfl (by omega) (fun c134 => ?_) (fun c135 => ?_)
          · skip
            have h136 : f122 83 = iz E 3 av'_73 := (k129 83 (by decide)).trans h77
            have h137 : F125 36 = .int (zI c) := (k128 36 (by decide)).trans ((k76 36 (by decide)).trans hF36)
            have h138 : f122 82 = iz E 1536 o := (k129 82 (by decide)).trans ((k81 82 (by decide)).trans hc82)
            exact F_vret hX hE d_Mo_make_188 ⟨rfl, F125, _, _, _, h126, h137, h127, (FrF.tr (FrF.tr FrF.rf k76 (by decide)) k128 (by decide)), h138, h136, by omega, (by assumption), (Fr.tr (Fr.tr Fr.rf k81 (by decide)) k129 (by decide))⟩
          · skip
            refine G_aload_n hX 4 rfl rfl d_Mo_make_124 ?_
            refine M_get hX fg_Mo_345 d_Mo_make_125 h126 (by decide) h127 ?_
            refine G_if_ne_z hX (tgt := 188) d_Mo_make_128 rfl (by omega) (fun c139 => ?_) (fun c140 => by exfalso; omega)
            have h141 : f122 83 = iz E 3 av'_73 := (k129 83 (by decide)).trans h77
            have h142 : F125 36 = .int (zI c) := (k128 36 (by decide)).trans ((k76 36 (by decide)).trans hF36)
            have h143 : f122 82 = iz E 1536 o := (k129 82 (by decide)).trans ((k81 82 (by decide)).trans hc82)
            exact F_vret hX hE d_Mo_make_188 ⟨rfl, F125, _, _, _, h126, h142, h127, (FrF.tr (FrF.tr FrF.rf k76 (by decide)) k128 (by decide)), h143, h141, by omega, (by assumption), (Fr.tr (Fr.tr Fr.rf k81 (by decide)) k129 (by decide))⟩
  · skip
    refine G_aload_n hX 1 rfl rfl d_Mo_make_34 ?_
    refine G_bipush hX (by decide) d_Mo_make_35 ?_
    refine F_callV hX (st := []) (c_Mo_refuse E f F (-2) hMo hmk hF32) cm_Mo_refuse im_Mo_refuse se_Mo_refuse rfl ml_Mo_354 d_Mo_make_37 (by decide) hMo rfl rfl (Nat.le_of_ble_eq_true rfl) (by decide) ?_
    rintro _ f144 ⟨rfl, F147, h148, h149, k150, k151⟩
    refine G_cast (st' := []) ?_ rfl rfl rfl rfl
    refine G_iload_n hX 2 rfl rfl d_Mo_make_40 ?_
    refine G_iconst hX d_Mo_make_41 ?_
    refine G_icmp_ne_z hX (tgt := 53) d_Mo_make_42 rfl (by omega) (fun c152 => ?_) (fun c153 => by exfalso; omega)
    refine G_iconst hX d_Mo_make_53 ?_
    refine G_istore hX (lv' := [(5, .int (zI 0)), (4, .int (zI (((kS K) + c) - (kT K)))), (0, .ref (eA E 61)), (1, .int (zI 3)), (2, .int (zI n)), (3, .int (zI md))]) (by decide) rfl d_Mo_make_54 ?_
    refine G_iload_n hX 3 rfl rfl d_Mo_make_56 ?_
    refine G_iconst hX d_Mo_make_57 ?_
    refine G_icmp_ne_z hX (tgt := 71) d_Mo_make_58 rfl (by omega) (fun c154 => by exfalso; omega) (fun c155 => ?_)
    refine G_aload_n hX 2 rfl rfl d_Mo_make_61 ?_
    refine G_iload_n hX 5 rfl rfl d_Mo_make_62 ?_
    refine G_iload hX 1 rfl d_Mo_make_63 ?_
    have h156 : F147 25 = .int (zI N) := (k150 25 (by decide)).trans hF25
    have h157 : F147 26 = .int (zI S) := (k150 26 (by decide)).trans hF26
    have h158 : f144 78 = iz E 8 nr := (k151 78 (by decide)).trans hc78
    have h159 : f144 79 = iz E 1024 sm := (k151 79 (by decide)).trans hc79
    have h160 : f144 83 = iz E 3 av := (k151 83 (by decide)).trans hc83
    have h161 : f144 84 = iz E 3 ev := (k151 84 (by decide)).trans hc84
    have h162 : f144 63 = iz E 1600 b := (k151 63 (by decide)).trans hc63
    refine F_callV hX (st := []) (c_Mo_readAddress_f E f144 F147 md (((kS K) + c) - (kT K)) N S nr sm av ev b g sE (-2) h148 (moK_fr hmk (FrF.tr (FrF.rf (S := [32])) k150 (by decide)) (by decide)) h156 h157 h149 h158 h159 h160 h161 h162 (by omega) (by omega) (by omega) hnr hsm hG hgb hav hev hen2 (by omega) (by omega)) cm_Mo_readAddress im_Mo_readAddress se_Mo_readAddress rfl ml_Mo_392 d_Mo_make_65 (by decide) h148 rfl rfl (Nat.le_of_ble_eq_true rfl) (by decide) ?_
    rintro _ f163 ⟨F166, r'_167, av'_168, rfl, h169, h170, k171, h172, p173, p174, k175⟩
    refine G_cast (st' := [.int (zI r'_167)]) ?_ rfl rfl rfl rfl
    have hab := p173
    refine G_goto hX (tgt := 72) d_Mo_make_68 rfl ?_
    refine G_istore hX (lv' := [(6, .int (zI r'_167)), (5, .int (zI 0)), (4, .int (zI (((kS K) + c) - (kT K)))), (0, .ref (eA E 61)), (1, .int (zI 3)), (2, .int (zI n)), (3, .int (zI md))]) (by decide) rfl d_Mo_make_72 ?_
    refine G_iload_n hX 4 rfl rfl d_Mo_make_74 ?_
    refine G_iconst hX d_Mo_make_75 ?_
    refine G_icmp_ne_z hX (tgt := 97) d_Mo_make_76 rfl (by omega) (fun c176 => by exfalso; omega) (fun c177 => ?_)
    refine G_iload hX 0 rfl d_Mo_make_79 ?_
    refine G_if_lt_z hX (tgt := 91) d_Mo_make_81 rfl (by omega) (fun c178 => ?_) (fun c179 => ?_)
    · skip
      refine G_aload_n hX 3 rfl rfl d_Mo_make_91 ?_
      refine G_bipush hX (by decide) d_Mo_make_92 ?_
      refine F_callV hX (st := []) (c_Mo_refuse_f E f163 F166 (-2) (-2) h169 (moK_fr hmk (FrF.tr (FrF.tr (FrF.rf (S := [32])) k150 (by decide)) k171 (by decide)) (by decide)) h170 (by omega)) cm_Mo_refuse im_Mo_refuse se_Mo_refuse rfl ml_Mo_354 d_Mo_make_94 (by decide) h169 rfl rfl (Nat.le_of_ble_eq_true rfl) (by decide) ?_
      rintro _ f180 ⟨rfl, F183, h184, h185, k186, k187⟩
      refine G_cast (st' := []) ?_ rfl rfl rfl rfl
      refine G_iload_n hX 4 rfl rfl d_Mo_make_97 ?_
      refine G_iconst hX d_Mo_make_98 ?_
      refine G_icmp_ne_z hX (tgt := 115) d_Mo_make_99 rfl (by omega) (fun c188 => by exfalso; omega) (fun c189 => ?_)
      refine G_aload_n hX 3 rfl rfl d_Mo_make_102 ?_
      refine M_get hX fg_Mo_345 d_Mo_make_103 h184 (by decide) h185 ?_
      refine G_if_ne_z hX (tgt := 115) d_Mo_make_106 rfl (by omega) (fun c190 => ?_) (fun c191 => by exfalso; omega)
      refine G_iconst hX d_Mo_make_115 ?_
      refine G_istore hX (lv' := [(7, .int (zI 0)), (6, .int (zI r'_167)), (5, .int (zI 0)), (4, .int (zI (((kS K) + c) - (kT K)))), (0, .ref (eA E 61)), (1, .int (zI 3)), (2, .int (zI n)), (3, .int (zI md))]) (by decide) rfl d_Mo_make_116 ?_
      refine G_iload hX 0 rfl d_Mo_make_118 ?_
      refine G_iload_n hX 6 rfl rfl d_Mo_make_120 ?_
      refine G_icmp_ge_z hX (tgt := 188) d_Mo_make_121 rfl (by omega) (fun c192 => ?_) (fun c193 => ?_)
      · skip
        have h194 : f180 83 = iz E 3 av'_168 := (k187 83 (by decide)).trans h172
        have h195 : F183 36 = .int (zI c) := (k186 36 (by decide)).trans ((k171 36 (by decide)).trans ((k150 36 (by decide)).trans hF36))
        have h196 : f180 82 = iz E 1536 o := (k187 82 (by decide)).trans ((k175 82 (by decide)).trans ((k151 82 (by decide)).trans hc82))
        exact F_vret hX hE d_Mo_make_188 ⟨rfl, F183, _, _, _, h184, h195, h185, (FrF.tr (FrF.tr (FrF.tr FrF.rf k150 (by decide)) k171 (by decide)) k186 (by decide)), h196, h194, by omega, (by assumption), (Fr.tr (Fr.tr (Fr.tr Fr.rf k151 (by decide)) k175 (by decide)) k187 (by decide))⟩
      · skip
        refine G_aload_n hX 4 rfl rfl d_Mo_make_124 ?_
        refine M_get hX fg_Mo_345 d_Mo_make_125 h184 (by decide) h185 ?_
        refine G_if_ne_z hX (tgt := 188) d_Mo_make_128 rfl (by omega) (fun c197 => ?_) (fun c198 => by exfalso; omega)
        have h199 : f180 83 = iz E 3 av'_168 := (k187 83 (by decide)).trans h172
        have h200 : F183 36 = .int (zI c) := (k186 36 (by decide)).trans ((k171 36 (by decide)).trans ((k150 36 (by decide)).trans hF36))
        have h201 : f180 82 = iz E 1536 o := (k187 82 (by decide)).trans ((k175 82 (by decide)).trans ((k151 82 (by decide)).trans hc82))
        exact F_vret hX hE d_Mo_make_188 ⟨rfl, F183, _, _, _, h184, h200, h185, (FrF.tr (FrF.tr (FrF.tr FrF.rf k150 (by decide)) k171 (by decide)) k186 (by decide)), h201, h199, by omega, (by assumption), (Fr.tr (Fr.tr (Fr.tr Fr.rf k151 (by decide)) k175 (by decide)) k187 (by decide))⟩
    · skip
      refine G_iload hX 0 rfl d_Mo_make_84 ?_
      refine G_iload hX 2 rfl d_Mo_make_86 ?_
      refine G_icmp_lt_z hX (tgt := 97) d_Mo_make_88 rfl (by omega) (fun c202 => ?_) (fun c203 => ?_)
      · skip
        refine G_iload_n hX 4 rfl rfl d_Mo_make_97 ?_
        refine G_iconst hX d_Mo_make_98 ?_
        refine G_icmp_ne_z hX (tgt := 115) d_Mo_make_99 rfl (by omega) (fun c204 => by exfalso; omega) (fun c205 => ?_)
        refine G_aload_n hX 3 rfl rfl d_Mo_make_102 ?_
        refine M_get hX fg_Mo_345 d_Mo_make_103 h169 (by decide) h170 ?_
        refine G_if_ne_z hX (tgt := 115) d_Mo_make_106 rfl (by omega) (fun c206 => ?_) (fun c207 => by exfalso; omega)
        refine G_iconst hX d_Mo_make_115 ?_
        refine G_istore hX (lv' := [(7, .int (zI 0)), (6, .int (zI r'_167)), (5, .int (zI 0)), (4, .int (zI (((kS K) + c) - (kT K)))), (0, .ref (eA E 61)), (1, .int (zI 3)), (2, .int (zI n)), (3, .int (zI md))]) (by decide) rfl d_Mo_make_116 ?_
        refine G_iload hX 0 rfl d_Mo_make_118 ?_
        refine G_iload_n hX 6 rfl rfl d_Mo_make_120 ?_
        refine G_icmp_ge_z hX (tgt := 188) d_Mo_make_121 rfl (by omega) (fun c208 => ?_) (fun c209 => ?_)
        · skip
          have h210 : F166 36 = .int (zI c) := (k171 36 (by decide)).trans ((k150 36 (by decide)).trans hF36)
          have h211 : f163 82 = iz E 1536 o := (k175 82 (by decide)).trans ((k151 82 (by decide)).trans hc82)
          exact F_vret hX hE d_Mo_make_188 ⟨rfl, F166, _, _, _, h169, h210, h170, (FrF.tr (FrF.tr FrF.rf k150 (by decide)) k171 (by decide)), h211, h172, by omega, p174, (Fr.tr (Fr.tr Fr.rf k151 (by decide)) k175 (by decide))⟩
        · skip
          refine G_aload_n hX 4 rfl rfl d_Mo_make_124 ?_
          refine M_get hX fg_Mo_345 d_Mo_make_125 h169 (by decide) h170 ?_
          refine G_if_ne_z hX (tgt := 188) d_Mo_make_128 rfl (by omega) (fun c212 => ?_) (fun c213 => by exfalso; omega)
          have h214 : F166 36 = .int (zI c) := (k171 36 (by decide)).trans ((k150 36 (by decide)).trans hF36)
          have h215 : f163 82 = iz E 1536 o := (k175 82 (by decide)).trans ((k151 82 (by decide)).trans hc82)
          exact F_vret hX hE d_Mo_make_188 ⟨rfl, F166, _, _, _, h169, h214, h170, (FrF.tr (FrF.tr FrF.rf k150 (by decide)) k171 (by decide)), h215, h172, by omega, p174, (Fr.tr (Fr.tr Fr.rf k151 (by decide)) k175 (by decide))⟩
      · skip
        refine G_aload_n hX 3 rfl rfl d_Mo_make_91 ?_
        refine G_bipush hX (by decide) d_Mo_make_92 ?_
        refine F_callV hX (st := []) (c_Mo_refuse_f E f163 F166 (-2) (-2) h169 (moK_fr hmk (FrF.tr (FrF.tr (FrF.rf (S := [32])) k150 (by decide)) k171 (by decide)) (by decide)) h170 (by omega)) cm_Mo_refuse im_Mo_refuse se_Mo_refuse rfl ml_Mo_354 d_Mo_make_94 (by decide) h169 rfl rfl (Nat.le_of_ble_eq_true rfl) (by decide) ?_
        rintro _ f216 ⟨rfl, F219, h220, h221, k222, k223⟩
        refine G_cast (st' := []) ?_ rfl rfl rfl rfl
        refine G_iload_n hX 4 rfl rfl d_Mo_make_97 ?_
        refine G_iconst hX d_Mo_make_98 ?_
        refine G_icmp_ne_z hX (tgt := 115) d_Mo_make_99 rfl (by omega) (fun c224 => by exfalso; omega) (fun c225 => ?_)
        refine G_aload_n hX 3 rfl rfl d_Mo_make_102 ?_
        refine M_get hX fg_Mo_345 d_Mo_make_103 h220 (by decide) h221 ?_
        refine G_if_ne_z hX (tgt := 115) d_Mo_make_106 rfl (by omega) (fun c226 => ?_) (fun c227 => by exfalso; omega)
        refine G_iconst hX d_Mo_make_115 ?_
        refine G_istore hX (lv' := [(7, .int (zI 0)), (6, .int (zI r'_167)), (5, .int (zI 0)), (4, .int (zI (((kS K) + c) - (kT K)))), (0, .ref (eA E 61)), (1, .int (zI 3)), (2, .int (zI n)), (3, .int (zI md))]) (by decide) rfl d_Mo_make_116 ?_
        refine G_iload hX 0 rfl d_Mo_make_118 ?_
        refine G_iload_n hX 6 rfl rfl d_Mo_make_120 ?_
        refine G_icmp_ge_z hX (tgt := 188) d_Mo_make_121 rfl (by omega) (fun c228 => ?_) (fun c229 => ?_)
        · skip
          have h230 : f216 83 = iz E 3 av'_168 := (k223 83 (by decide)).trans h172
          have h231 : F219 36 = .int (zI c) := (k222 36 (by decide)).trans ((k171 36 (by decide)).trans ((k150 36 (by decide)).trans hF36))
          have h232 : f216 82 = iz E 1536 o := (k223 82 (by decide)).trans ((k175 82 (by decide)).trans ((k151 82 (by decide)).trans hc82))
          exact F_vret hX hE d_Mo_make_188 ⟨rfl, F219, _, _, _, h220, h231, h221, (FrF.tr (FrF.tr (FrF.tr FrF.rf k150 (by decide)) k171 (by decide)) k222 (by decide)), h232, h230, by omega, (by assumption), (Fr.tr (Fr.tr (Fr.tr Fr.rf k151 (by decide)) k175 (by decide)) k223 (by decide))⟩
        · skip
          refine G_aload_n hX 4 rfl rfl d_Mo_make_124 ?_
          refine M_get hX fg_Mo_345 d_Mo_make_125 h220 (by decide) h221 ?_
          refine G_if_ne_z hX (tgt := 188) d_Mo_make_128 rfl (by omega) (fun c233 => ?_) (fun c234 => by exfalso; omega)
          have h235 : f216 83 = iz E 3 av'_168 := (k223 83 (by decide)).trans h172
          have h236 : F219 36 = .int (zI c) := (k222 36 (by decide)).trans ((k171 36 (by decide)).trans ((k150 36 (by decide)).trans hF36))
          have h237 : f216 82 = iz E 1536 o := (k223 82 (by decide)).trans ((k175 82 (by decide)).trans ((k151 82 (by decide)).trans hc82))
          exact F_vret hX hE d_Mo_make_188 ⟨rfl, F219, _, _, _, h220, h236, h221, (FrF.tr (FrF.tr (FrF.tr FrF.rf k150 (by decide)) k171 (by decide)) k222 (by decide)), h237, h235, by omega, (by assumption), (Fr.tr (Fr.tr (Fr.tr Fr.rf k151 (by decide)) k175 (by decide)) k223 (by decide))⟩
