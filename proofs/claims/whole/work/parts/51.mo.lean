/-! DeltaFerryModel: the files; printed by wip/tools/m_mo2.py -/
theorem bv_b8 (v : BitVec 64) (s : Nat) (hs : s ≤ 56) : ((v.sshiftRight s) &&& 255#64).setWidth 32 = ((v >>> s).setWidth 32) &&& 255#32 := by
  apply BitVec.eq_of_getLsbD_eq
  intro i hi
  have e1 : (255#64).getLsbD i = decide (i < 8) := by
    have : (255#64) = BitVec.ofNat 64 (2 ^ 8 - 1) := rfl
    rw [this, BitVec.getLsbD_ofNat, Nat.testBit_two_pow_sub_one]
    simp; omega
  have e2 : (255#32).getLsbD i = decide (i < 8) := by
    have : (255#32) = BitVec.ofNat 32 (2 ^ 8 - 1) := rfl
    rw [this, BitVec.getLsbD_ofNat, Nat.testBit_two_pow_sub_one]
    simp; omega
  by_cases h8 : i < 8
  · rw [BitVec.getLsbD_setWidth, BitVec.getLsbD_and, BitVec.getLsbD_and, e1, e2, BitVec.getLsbD_setWidth, BitVec.getLsbD_sshiftRight, BitVec.getLsbD_ushiftRight]
    have h3 : s + i < 64 := by omega
    have h4 : ¬ 64 ≤ i := by omega
    simp [h8, hi, h3, h4]
  · rw [BitVec.getLsbD_setWidth, BitVec.getLsbD_and, BitVec.getLsbD_and, e1, e2]
    simp [h8]
theorem l_shr (v : Int64) (s : Int32) (k : Nat) (hs : ((s.toInt64 &&& 63).toBitVec.smod 64).toNat = k) : (v >>> (s.toInt64 &&& 63)).toBitVec = v.toBitVec.sshiftRight k := by
  rw [← hs]; rfl
theorem l_shl (v : Int64) (s : Int32) (k : Nat) (hs : ((s.toInt64 &&& 63).toBitVec.smod 64).toNat = k) : (v <<< (s.toInt64 &&& 63)).toBitVec = v.toBitVec <<< k := by
  rw [← hs]; rfl
theorem l_ushr (v : Int64) (s : Int32) (k : Nat) (hs : ((s.toInt64.toUInt64 &&& Int64.toUInt64 63).toBitVec % 64).toNat = k) : ((v.toUInt64 >>> (s.toInt64.toUInt64 &&& Int64.toUInt64 63)).toInt64).toBitVec = v.toBitVec >>> k := by
  rw [← hs]; exact UInt64.toBitVec_shiftRight _ _
theorem l_i (v : Int64) : v.toInt32.toBitVec = v.toBitVec.setWidth 32 := by
  show v.toBitVec.signExtend 32 = _
  exact BitVec.signExtend_eq_setWidth_of_le _ (by decide)
theorem pb_k (v : Int64) : ∀ s : Fin 8, ((v >>> ((zI (8 * (s.val : Int))).toInt64 &&& 63)) &&& zL 255).toInt32 = ((v.toUInt64 >>> ((zI (8 * (s.val : Int))).toInt64.toUInt64 &&& Int64.toUInt64 63)).toInt64).toInt32 &&& zI 255 := by
  intro s
  apply Int32.toBitVec_inj.mp
  rw [l_i, Int64.toBitVec_and, Int32.toBitVec_and, l_i]
  have h1 : ∀ s : Fin 8, (((zI (8 * (s.val : Int))).toInt64 &&& 63).toBitVec.smod 64).toNat = 8 * s.val := by decide +kernel
  have h2 : ∀ s : Fin 8, (((zI (8 * (s.val : Int))).toInt64.toUInt64 &&& Int64.toUInt64 63).toBitVec % 64).toNat = 8 * s.val := by decide +kernel
  rw [l_shr v _ _ (h1 s), l_ushr v _ _ (h2 s)]
  exact bv_b8 v.toBitVec (8 * s.val) (by omega)
theorem pb_m {v : Int64} {t : Int} (h : 0 ≤ t ∧ t < 8) : ((v >>> ((zI (8 * t)).toInt64 &&& 63)) &&& zL 255).toInt32 = zI (pbF v t) := by
  have h1 := pb_k v ⟨t.toNat, by omega⟩
  have h3 : ((t.toNat : Nat) : Int) = t := by omega
  simp only [h3] at h1
  unfold pbF
  rw [zI_self]
  exact h1
theorem uz_self (g : Int → Int) (k : Int) : uz g k (g k) = g := by
  funext j
  unfold uz
  by_cases h : j = k
  · rw [if_pos h, h]
  · rw [if_neg h]
theorem uz_uz (g : Int → Int) (k x y : Int) : uz (uz g k x) k y = uz g k y := by
  funext j
  unfold uz
  by_cases h : j = k
  · rw [if_pos h, if_pos h]
  · rw [if_neg h, if_neg h, if_neg h]
theorem put_1 {b1 p : Int → Int} {t o ix : Int} (h : ∀ i, 0 ≤ i → i < t → b1 (o + i) = p i) (hx : ix = o + t) : ∀ i, 0 ≤ i → i < t + 1 → uz b1 ix (p t) (o + i) = p i := by
  intro i h1 h2
  unfold uz
  by_cases e : i = t
  · rw [if_pos (by omega), e]
  · rw [if_neg (by omega)]
    exact h i h1 (by omega)
theorem put_2 {b1 b : Int → Int} {t o ix y : Int} (h : ∀ x, x < o ∨ o + t ≤ x → b1 x = b x) (hx : ix = o + t) (ht : 0 ≤ t) : ∀ x, x < o ∨ o + (t + 1) ≤ x → uz b1 ix y x = b x := by
  intro x h1
  unfold uz
  rw [if_neg (by omega)]
  exact h x (by omega)
theorem c_Mo_put (E : EV) (f : Nat → va_E) (F : Nat → Value) (k : Int) (n : Int) (v : Int64) (pl : Int) (b : Int → Int) (sz : Int → Int) (hMo : f 61 = mob F) (hmk : moK E F) (hF11 : F 11 = .int (zI pl)) (hc63 : f 63 = iz E 1600 b) (hc64 : f 64 = iz E 4 sz) (hsz : ∀ k, 0 ≤ k → k ≤ 3 → 0 ≤ sz k ∧ sz k ≤ (if k = 2 then 700 else 300)) (hk : (0 ≤ k ∧ k ≤ 2) ∧ 1 ≤ n ∧ n ≤ 8 ∧ sz k + n ≤ (if k = 2 then 700 else 300)) : CF yn_Mo_put cd_Mo_put 6 (some (.boolean)) 1 E [.ref (eA E 61), .int (zI k), .long v, .int (zI n)] f (fun r f' => r = some (.int (zI 1)) ∧ ∃ (F' : Nat → Value) (b' : Int → Int), f' 61 = mob F' ∧ F' 11 = .int (zI (if k = 1 then -1 else pl)) ∧ FrF [11] F F' ∧ f' 63 = iz E 1600 b' ∧ f' 64 = iz E 4 (uz sz k (sz k + n)) ∧ (∀ i, 0 ≤ i → i < n → b' ((300 * k + sz k) + i) = pbF v i) ∧ (∀ x, x < (300 * k + sz k) ∨ (300 * k + sz k) + n ≤ x → b' x = b x) ∧ Fr [63, 64, 61] f f') := by
  refine CF.of (by decide +kernel) (Nat.le_of_ble_eq_true rfl) fun X hX hE => ?_
  have hX : Ok E X "DeltaFerryModel" "put" cd_Mo_put 6 (some (.boolean)) (rl 1) := hX
  refine G_cast (lv' := [(0, .ref (eA E 61)), (1, .int (zI k)), (2, .long v), (4, .int (zI n))]) ?_ rfl rfl rfl rfl
  have hszk := hsz k (by omega) (by omega)
  have hrm : (if k = 2 then (700 : Int) else 300) = 300 ∨ (k = 2 ∧ (if k = 2 then (700 : Int) else 300) = 700) := by by_cases q : k = 2; exact Or.inr ⟨q, if_pos q⟩; exact Or.inl (if_neg q)
  refine G_iload_n hX 1 rfl rfl d_Mo_put_0 ?_
  refine G_if_lt_z hX (tgt := 38) d_Mo_put_1 rfl (by omega) (fun c1 => by exfalso; omega) (fun c2 => ?_)
  refine G_iload_n hX 1 rfl rfl d_Mo_put_4 ?_
  refine G_iconst hX d_Mo_put_5 ?_
  refine G_icmp_gt_z hX (tgt := 38) d_Mo_put_6 rfl (by omega) (fun c3 => by exfalso; omega) (fun c4 => ?_)
  refine G_iload hX 3 rfl d_Mo_put_9 ?_
  refine G_iconst hX d_Mo_put_11 ?_
  refine G_icmp_lt_z hX (tgt := 38) d_Mo_put_12 rfl (by omega) (fun c5 => by exfalso; omega) (fun c6 => ?_)
  refine G_iload hX 3 rfl d_Mo_put_15 ?_
  refine G_bipush hX (by decide) d_Mo_put_17 ?_
  refine G_icmp_gt_z hX (tgt := 38) d_Mo_put_19 rfl (by omega) (fun c7 => by exfalso; omega) (fun c8 => ?_)
  refine G_aload_n hX 0 rfl rfl d_Mo_put_22 ?_
  refine M_get hX fg_Mo_81 d_Mo_put_23 hMo (by decide) (hmk 2 64 (by decide)) ?_
  refine G_iload_n hX 1 rfl rfl d_Mo_put_26 ?_
  refine F_iald hX d_Mo_put_27 64 (by decide) hc64 (by omega) ?_
  refine G_iload hX 3 rfl d_Mo_put_28 ?_
  refine G_iadd_z hX d_Mo_put_30 ?_
  refine G_iload_n hX 1 rfl rfl d_Mo_put_31 ?_
  refine F_callS hX (st := [.int (zI ((sz k) + n))]) (c_Mo_room E f k (by omega)) cm_Mo_room sm_Mo_room ml_Mo_157 d_Mo_put_32 rfl rfl (Nat.le_of_ble_eq_true rfl) (by decide) ?_
  rintro _ f9 ⟨rfl, e12⟩
  obtain rfl := e12.symm
  refine G_cast (st' := [.int (zI (if k = 2 then 700 else 300)), .int (zI ((sz k) + n))]) ?_ rfl rfl rfl rfl
  refine G_icmp_le_z hX (tgt := 40) d_Mo_put_35 rfl (by omega) (fun c13 => ?_) (fun c14 => by exfalso; omega)
  refine G_iconst hX d_Mo_put_40 ?_
  refine G_istore hX (lv' := [(5, .int (zI 0)), (0, .ref (eA E 61)), (1, .int (zI k)), (2, .long v), (4, .int (zI n))]) (by decide) rfl d_Mo_put_41 ?_
  have loop15 : ∀ (q : Nat) (t : Int) (b1 : Int → Int) (s1 : Int → Int) (f16 : Nat → va_E), (n - t).toNat < q → (0 ≤ t ∧ t ≤ n) → (s1 = uz sz k (sz k + t)) → (∀ i, 0 ≤ i → i < t → b1 ((300 * k + sz k) + i) = pbF v i) → (∀ x, x < (300 * k + sz k) ∨ (300 * k + sz k) + t ≤ x → b1 x = b x) → f16 63 = iz E 1600 b1 → f16 64 = iz E 4 s1 → Fr [63, 64] f f16 → G E X 0 0 43 [(0, .ref (eA E 61)), (1, .int (zI k)), (2, .long v), (4, .int (zI n)), (5, .int (zI t))] [] (wl E f16) := by
    intro q
    induction q with
    | zero => intro t b1 s1 f16 hms18; exact absurd hms18 (Nat.not_lt_zero _)
    | succ q ih19 =>
      intro t b1 s1 f16 hms18 ht hs1 hb1 hb2 h20 h21 k17
      have hs1k : s1 k = sz k + t := by rw [hs1]; exact if_pos rfl
      refine G_iload hX 4 rfl d_Mo_put_43 ?_
      refine G_iload hX 3 rfl d_Mo_put_45 ?_
      refine G_icmp_ge_z hX (tgt := 94) d_Mo_put_47 rfl (by omega) (fun c22 => ?_) (fun c23 => ?_)
      · skip
        refine G_aload_n hX 0 rfl rfl d_Mo_put_94 ?_
        refine G_iload_n hX 1 rfl rfl d_Mo_put_95 ?_
        have h24 : f16 61 = mob F := (k17 61 (by decide)).trans hMo
        refine F_callV hX (st := []) (c_Mo_changed E f16 F k pl h24 hmk hF11 (by omega)) cm_Mo_changed im_Mo_changed se_Mo_changed rfl ml_Mo_166 d_Mo_put_96 (by decide) h24 rfl rfl (Nat.le_of_ble_eq_true rfl) (by decide) ?_
        rintro _ f25 ⟨rfl, F28, h29, h30, k31, k32⟩
        refine G_cast (st' := []) ?_ rfl rfl rfl rfl
        refine G_iconst hX d_Mo_put_99 ?_
        obtain rfl : t = n := by omega
        have h33 : f25 64 = iz E 4 s1 := (k32 64 (by decide)).trans h21
        have h34 : f25 63 = iz E 1600 b1 := (k32 63 (by decide)).trans h20
        exact F_zret hX hE (by decide) d_Mo_put_100 ⟨rfl, F28, _, h29, h30, (FrF.tr FrF.rf k31 (by decide)), h34, (by rw [← hs1]; exact h33), hb1, hb2, (Fr.tr (Fr.tr Fr.rf k17 (by decide)) k32 (by decide))⟩
      · skip
        refine G_aload_n hX 0 rfl rfl d_Mo_put_50 ?_
        have h35 : f16 61 = mob F := (k17 61 (by decide)).trans hMo
        refine M_get hX fg_Mo_77 d_Mo_put_51 h35 (by decide) (hmk 1 63 (by decide)) ?_
        refine G_iload_n hX 1 rfl rfl d_Mo_put_54 ?_
        refine F_callS hX (st := [.ref (eA E 63)]) (c_Mo_base E f16 k (by omega)) cm_Mo_base sm_Mo_base ml_Mo_161 d_Mo_put_55 rfl rfl (Nat.le_of_ble_eq_true rfl) (by decide) ?_
        rintro _ f36 ⟨rfl, e39⟩
        obtain rfl := e39.symm
        refine G_cast (st' := [.int (zI (if k < 3 then 300 * k else 1300)), .ref (eA E 63)]) ?_ rfl rfl rfl rfl
        refine G_aload_n hX 0 rfl rfl d_Mo_put_58 ?_
        refine M_get hX fg_Mo_81 d_Mo_put_59 h35 (by decide) (hmk 2 64 (by decide)) ?_
        refine G_iload_n hX 1 rfl rfl d_Mo_put_62 ?_
        refine F_iald hX d_Mo_put_63 64 (by decide) h21 (by omega) ?_
        refine G_iadd_z hX d_Mo_put_64 ?_
        refine G_lload_n hX 2 rfl rfl d_Mo_put_65 ?_
        refine G_bipush hX (by decide) d_Mo_put_66 ?_
        refine G_iload hX 4 rfl d_Mo_put_68 ?_
        refine G_imul_z hX d_Mo_put_70 ?_
        refine G_lshr hX (v := v >>> ((zI (8 * t)).toInt64 &&& 63)) rfl d_Mo_put_71 ?_
        refine G_ldc2 hX kn_Mo_164 d_Mo_put_72 ?_
        refine G_topl (show (255 : Int64) = zL (255) from by decide) ?_
        refine G_land hX d_Mo_put_75 ?_
        refine G_l2i hX (v := (((v >>> ((zI (8 * t)).toInt64 &&& 63)) &&& (zL 255))).toInt32) rfl d_Mo_put_76 ?_
        refine G_top (show ((((v >>> ((zI (8 * t)).toInt64 &&& 63)) &&& (zL 255))).toInt32) = zI (pbF v t) from pb_m (by omega)) ?_
        have hix : (if k < 3 then 300 * k else 1300) + (s1 k) = (300 * k + sz k) + t := by rw [hs1k, if_pos (by omega)]; omega
        refine F_iast hX d_Mo_put_77 63 (by decide) h20 (by omega) (fun f40 h41 k42 => ?_)
        refine G_aload_n hX 0 rfl rfl d_Mo_put_78 ?_
        have h43 : f40 61 = mob F := (k42 61 (by decide)).trans h35
        refine M_get hX fg_Mo_81 d_Mo_put_79 h43 (by decide) (hmk 2 64 (by decide)) ?_
        refine G_iload_n hX 1 rfl rfl d_Mo_put_82 ?_
        refine G_dup2 hX rfl rfl d_Mo_put_83 ?_
        have h44 : f40 64 = iz E 4 s1 := (k42 64 (by decide)).trans h21
        refine F_iald hX d_Mo_put_84 64 (by decide) h44 (by omega) ?_
        refine G_iconst hX d_Mo_put_85 ?_
        refine G_iadd_z hX d_Mo_put_86 ?_
        refine F_iast hX d_Mo_put_87 64 (by decide) h44 (by omega) (fun f45 h46 k47 => ?_)
        refine G_iinc_z hX (lv' := [(5, .int (zI (t + 1))), (0, .ref (eA E 61)), (1, .int (zI k)), (2, .long v), (4, .int (zI n))]) 4 rfl (by decide) rfl d_Mo_put_88 ?_
        refine G_goto hX (tgt := 43) d_Mo_put_91 rfl ?_
        have h48 : f45 63 = iz E 1600 (uz b1 ((if k < 3 then 300 * k else 1300) + (s1 k)) (pbF v t)) := (k47 63 (by decide)).trans h41
        refine G_loc (lv' := [(0, .ref (eA E 61)), (1, .int (zI k)), (2, .long v), (4, .int (zI n)), (5, .int (zI (t + 1)))]) [1, 2, 3, 4, 0] rfl ?_
        exact ih19 (t + 1) (uz b1 ((if k < 3 then 300 * k else 1300) + (s1 k)) (pbF v t)) (uz s1 k ((s1 k) + 1)) f45 (by omega) (by omega) (by rw [hs1k, hs1, uz_uz, Int.add_assoc]) (fun i h1 h2 => put_1 hb1 hix i h1 h2) (fun x hx => put_2 hb2 hix ht.1 x hx) h48 h46 (Fr.tr (Fr.tr (Fr.tr Fr.rf k17 (by decide)) k42 (by decide)) k47 (by decide))
  refine G_loc (lv' := [(0, .ref (eA E 61)), (1, .int (zI k)), (2, .long v), (4, .int (zI n)), (5, .int (zI 0))]) [1, 2, 3, 4, 0] rfl ?_
  exact loop15 (_ + 1) 0 b sz f (Nat.lt_succ_self _) (by omega) (by rw [Int.add_zero, uz_self]) (fun i h1 h2 => by omega) (fun _ _ => rfl) hc63 hc64 Fr.rf
theorem c_Mo_set (E : EV) (f : Nat → va_E) (F : Nat → Value) (k : Int) (p : Int) (x : Int) (pl : Int) (b : Int → Int) (sz : Int → Int) (hMo : f 61 = mob F) (hmk : moK E F) (hF11 : F 11 = .int (zI pl)) (hc63 : f 63 = iz E 1600 b) (hc64 : f 64 = iz E 4 sz) (hsz : ∀ k, 0 ≤ k → k ≤ 3 → 0 ≤ sz k ∧ sz k ≤ (if k = 2 then 700 else 300)) (hk : (0 ≤ k ∧ k ≤ 2) ∧ 0 ≤ p ∧ p < sz k) : CF yn_Mo_set cd_Mo_set 4 (some (.boolean)) 1 E [.ref (eA E 61), .int (zI k), .int (zI p), .int (zI x)] f (fun r f' => r = some (.int (zI 1)) ∧ ∃ (F' : Nat → Value), f' 61 = mob F' ∧ F' 11 = .int (zI (if k = 1 then -1 else pl)) ∧ FrF [11] F F' ∧ f' 63 = iz E 1600 (uz b (300 * k + p) (x % 256)) ∧ Fr [63, 61] f f') := by
  refine CF.of (by decide +kernel) (Nat.le_of_ble_eq_true rfl) fun X hX hE => ?_
  have hX : Ok E X "DeltaFerryModel" "set" cd_Mo_set 4 (some (.boolean)) (rl 1) := hX
  refine G_cast (lv' := [(0, .ref (eA E 61)), (1, .int (zI k)), (2, .int (zI p)), (3, .int (zI x))]) ?_ rfl rfl rfl rfl
  have hszk := hsz k (by omega) (by omega)
  have hrm : ∀ k : Int, (if k = 2 then (700 : Int) else 300) = 300 ∨ (k = 2 ∧ (if k = 2 then (700 : Int) else 300) = 700) := fun k => by by_cases q : k = 2; exact Or.inr ⟨q, if_pos q⟩; exact Or.inl (if_neg q)
  have hrk := hrm k
  refine G_iload_n hX 1 rfl rfl d_Mo_set_0 ?_
  refine G_if_lt_z hX (tgt := 23) d_Mo_set_1 rfl (by omega) (fun c1 => by exfalso; omega) (fun c2 => ?_)
  refine G_iload_n hX 1 rfl rfl d_Mo_set_4 ?_
  refine G_iconst hX d_Mo_set_5 ?_
  refine G_icmp_gt_z hX (tgt := 23) d_Mo_set_6 rfl (by omega) (fun c3 => by exfalso; omega) (fun c4 => ?_)
  refine G_iload_n hX 2 rfl rfl d_Mo_set_9 ?_
  refine G_if_lt_z hX (tgt := 23) d_Mo_set_10 rfl (by omega) (fun c5 => by exfalso; omega) (fun c6 => ?_)
  refine G_iload_n hX 2 rfl rfl d_Mo_set_13 ?_
  refine G_aload_n hX 0 rfl rfl d_Mo_set_14 ?_
  refine M_get hX fg_Mo_81 d_Mo_set_15 hMo (by decide) (hmk 2 64 (by decide)) ?_
  refine G_iload_n hX 1 rfl rfl d_Mo_set_18 ?_
  refine F_iald hX d_Mo_set_19 64 (by decide) hc64 (by omega) ?_
  refine G_icmp_lt_z hX (tgt := 25) d_Mo_set_20 rfl (by omega) (fun c7 => ?_) (fun c8 => by exfalso; omega)
  refine G_aload_n hX 0 rfl rfl d_Mo_set_25 ?_
  refine M_get hX fg_Mo_77 d_Mo_set_26 hMo (by decide) (hmk 1 63 (by decide)) ?_
  refine G_iload_n hX 1 rfl rfl d_Mo_set_29 ?_
  refine F_callS hX (st := [.ref (eA E 63)]) (c_Mo_base E f k (by omega)) cm_Mo_base sm_Mo_base ml_Mo_161 d_Mo_set_30 rfl rfl (Nat.le_of_ble_eq_true rfl) (by decide) ?_
  rintro _ f9 ⟨rfl, e12⟩
  obtain rfl := e12.symm
  refine G_cast (st' := [.int (zI (if k < 3 then 300 * k else 1300)), .ref (eA E 63)]) ?_ rfl rfl rfl rfl
  refine G_top (show zI (if k < 3 then 300 * k else 1300) = zI (300 * k) from by rw [if_pos (by omega)]) ?_
  refine G_iload_n hX 2 rfl rfl d_Mo_set_33 ?_
  refine G_iadd_z hX d_Mo_set_34 ?_
  refine G_iload_n hX 3 rfl rfl d_Mo_set_35 ?_
  refine G_sipush hX (by decide) d_Mo_set_36 ?_
  refine G_iand hX d_Mo_set_39 ?_
  refine G_top (show (zI x &&& zI 255) = zI (x % 256) from zI_and255 _) ?_
  refine F_iast hX d_Mo_set_40 63 (by decide) hc63 (by omega) (fun f13 h14 k15 => ?_)
  refine G_aload_n hX 0 rfl rfl d_Mo_set_41 ?_
  refine G_iload_n hX 1 rfl rfl d_Mo_set_42 ?_
  have h16 : f13 61 = mob F := (k15 61 (by decide)).trans hMo
  refine F_callV hX (st := []) (c_Mo_changed E f13 F k pl h16 hmk hF11 (by omega)) cm_Mo_changed im_Mo_changed se_Mo_changed rfl ml_Mo_166 d_Mo_set_43 (by decide) h16 rfl rfl (Nat.le_of_ble_eq_true rfl) (by decide) ?_
  rintro _ f17 ⟨rfl, F20, h21, h22, k23, k24⟩
  refine G_cast (st' := []) ?_ rfl rfl rfl rfl
  refine G_iconst hX d_Mo_set_46 ?_
  have h25 : f17 63 = iz E 1600 (uz b ((300 * k) + p) (x % 256)) := (k24 63 (by decide)).trans h14
  exact F_zret hX hE (by decide) d_Mo_set_47 ⟨rfl, F20, h21, h22, (FrF.tr FrF.rf k23 (by decide)), h25, (Fr.tr (Fr.tr Fr.rf k15 (by decide)) k24 (by decide))⟩
theorem c_Mo_put_no (E : EV) (f : Nat → va_E) (F : Nat → Value) (k : Int) (n : Int) (v : Int64) (b : Int → Int) (sz : Int → Int) (hMo : f 61 = mob F) (hmk : moK E F) (hc63 : f 63 = iz E 1600 b) (hc64 : f 64 = iz E 4 sz) (hsz : ∀ k, 0 ≤ k → k ≤ 3 → 0 ≤ sz k ∧ sz k ≤ (if k = 2 then 700 else 300)) (hk : (k < 0 ∨ 2 < k) ∨ ((0 ≤ k ∧ k ≤ 2) ∧ (n < 1 ∨ 8 < n ∨ (if k = 2 then 700 else 300) < sz k + n))) (hk2 : -2147483648 ≤ k ∧ k < 2147483648 ∧ -2147483648 ≤ n ∧ n < 2147483648) : CF yn_Mo_put cd_Mo_put 6 (some (.boolean)) 1 E [.ref (eA E 61), .int (zI k), .long v, .int (zI n)] f (fun r f' => r = some (.int (zI 0)) ∧ f' = f) := by
  refine CF.of (by decide +kernel) (Nat.le_of_ble_eq_true rfl) fun X hX hE => ?_
  have hX : Ok E X "DeltaFerryModel" "put" cd_Mo_put 6 (some (.boolean)) (rl 1) := hX
  refine G_cast (lv' := [(0, .ref (eA E 61)), (1, .int (zI k)), (2, .long v), (4, .int (zI n))]) ?_ rfl rfl rfl rfl
  have hrm : ∀ k : Int, (if k = 2 then (700 : Int) else 300) = 300 ∨ (k = 2 ∧ (if k = 2 then (700 : Int) else 300) = 700) := fun k => by by_cases q : k = 2; exact Or.inr ⟨q, if_pos q⟩; exact Or.inl (if_neg q)
  have hrk := hrm k
  have hszk : 0 ≤ k ∧ k ≤ 3 → 0 ≤ sz k ∧ sz k ≤ (if k = 2 then 700 else 300) := fun q => hsz k q.1 q.2
  refine G_iload_n hX 1 rfl rfl d_Mo_put_0 ?_
  refine G_if_lt_z hX (tgt := 38) d_Mo_put_1 rfl (by omega) (fun c1 => ?_) (fun c2 => ?_)
  · skip
    refine G_iconst hX d_Mo_put_38 ?_
    exact F_zret hX hE (by decide) d_Mo_put_39 ⟨rfl, rfl⟩
  · skip
    refine G_iload_n hX 1 rfl rfl d_Mo_put_4 ?_
    refine G_iconst hX d_Mo_put_5 ?_
    refine G_icmp_gt_z hX (tgt := 38) d_Mo_put_6 rfl (by omega) (fun c3 => ?_) (fun c4 => ?_)
    · skip
      refine G_iconst hX d_Mo_put_38 ?_
      exact F_zret hX hE (by decide) d_Mo_put_39 ⟨rfl, rfl⟩
    · skip
      refine G_iload hX 3 rfl d_Mo_put_9 ?_
      refine G_iconst hX d_Mo_put_11 ?_
      refine G_icmp_lt_z hX (tgt := 38) d_Mo_put_12 rfl (by omega) (fun c5 => ?_) (fun c6 => ?_)
      · skip
        refine G_iconst hX d_Mo_put_38 ?_
        exact F_zret hX hE (by decide) d_Mo_put_39 ⟨rfl, rfl⟩
      · skip
        refine G_iload hX 3 rfl d_Mo_put_15 ?_
        refine G_bipush hX (by decide) d_Mo_put_17 ?_
        refine G_icmp_gt_z hX (tgt := 38) d_Mo_put_19 rfl (by omega) (fun c7 => ?_) (fun c8 => ?_)
        · skip
          refine G_iconst hX d_Mo_put_38 ?_
          exact F_zret hX hE (by decide) d_Mo_put_39 ⟨rfl, rfl⟩
        · skip
          refine G_aload_n hX 0 rfl rfl d_Mo_put_22 ?_
          refine M_get hX fg_Mo_81 d_Mo_put_23 hMo (by decide) (hmk 2 64 (by decide)) ?_
          refine G_iload_n hX 1 rfl rfl d_Mo_put_26 ?_
          refine F_iald hX d_Mo_put_27 64 (by decide) hc64 (by omega) ?_
          refine G_iload hX 3 rfl d_Mo_put_28 ?_
          refine G_iadd_z hX d_Mo_put_30 ?_
          refine G_iload_n hX 1 rfl rfl d_Mo_put_31 ?_
          refine F_callS hX (st := [.int (zI ((sz k) + n))]) (c_Mo_room E f k (by omega)) cm_Mo_room sm_Mo_room ml_Mo_157 d_Mo_put_32 rfl rfl (Nat.le_of_ble_eq_true rfl) (by decide) ?_
          rintro _ f9 ⟨rfl, e12⟩
          obtain rfl := e12.symm
          refine G_cast (st' := [.int (zI (if k = 2 then 700 else 300)), .int (zI ((sz k) + n))]) ?_ rfl rfl rfl rfl
          refine G_icmp_le_z hX (tgt := 40) d_Mo_put_35 rfl (by omega) (fun c13 => ?_) (fun c14 => ?_)
          · skip
            exfalso; omega
          · skip
            refine G_iconst hX d_Mo_put_38 ?_
            exact F_zret hX hE (by decide) d_Mo_put_39 ⟨rfl, rfl⟩
theorem c_Mo_set_no (E : EV) (f : Nat → va_E) (F : Nat → Value) (k : Int) (n : Int) (x : Int) (b : Int → Int) (sz : Int → Int) (hMo : f 61 = mob F) (hmk : moK E F) (hc63 : f 63 = iz E 1600 b) (hc64 : f 64 = iz E 4 sz) (hsz : ∀ k, 0 ≤ k → k ≤ 3 → 0 ≤ sz k ∧ sz k ≤ (if k = 2 then 700 else 300)) (hk : (k < 0 ∨ 2 < k) ∨ ((0 ≤ k ∧ k ≤ 2) ∧ (n < 0 ∨ sz k ≤ n))) (hk2 : -2147483648 ≤ k ∧ k < 2147483648 ∧ -2147483648 ≤ n ∧ n < 2147483648) : CF yn_Mo_set cd_Mo_set 4 (some (.boolean)) 1 E [.ref (eA E 61), .int (zI k), .int (zI n), .int (zI x)] f (fun r f' => r = some (.int (zI 0)) ∧ f' = f) := by
  refine CF.of (by decide +kernel) (Nat.le_of_ble_eq_true rfl) fun X hX hE => ?_
  have hX : Ok E X "DeltaFerryModel" "set" cd_Mo_set 4 (some (.boolean)) (rl 1) := hX
  refine G_cast (lv' := [(0, .ref (eA E 61)), (1, .int (zI k)), (2, .int (zI n)), (3, .int (zI x))]) ?_ rfl rfl rfl rfl
  have hrm : ∀ k : Int, (if k = 2 then (700 : Int) else 300) = 300 ∨ (k = 2 ∧ (if k = 2 then (700 : Int) else 300) = 700) := fun k => by by_cases q : k = 2; exact Or.inr ⟨q, if_pos q⟩; exact Or.inl (if_neg q)
  have hrk := hrm k
  have hszk : 0 ≤ k ∧ k ≤ 3 → 0 ≤ sz k ∧ sz k ≤ (if k = 2 then 700 else 300) := fun q => hsz k q.1 q.2
  refine G_iload_n hX 1 rfl rfl d_Mo_set_0 ?_
  refine G_if_lt_z hX (tgt := 23) d_Mo_set_1 rfl (by omega) (fun c1 => ?_) (fun c2 => ?_)
  · skip
    refine G_iconst hX d_Mo_set_23 ?_
    exact F_zret hX hE (by decide) d_Mo_set_24 ⟨rfl, rfl⟩
  · skip
    refine G_iload_n hX 1 rfl rfl d_Mo_set_4 ?_
    refine G_iconst hX d_Mo_set_5 ?_
    refine G_icmp_gt_z hX (tgt := 23) d_Mo_set_6 rfl (by omega) (fun c3 => ?_) (fun c4 => ?_)
    · skip
      refine G_iconst hX d_Mo_set_23 ?_
      exact F_zret hX hE (by decide) d_Mo_set_24 ⟨rfl, rfl⟩
    · skip
      refine G_iload_n hX 2 rfl rfl d_Mo_set_9 ?_
      refine G_if_lt_z hX (tgt := 23) d_Mo_set_10 rfl (by omega) (fun c5 => ?_) (fun c6 => ?_)
      · skip
        refine G_iconst hX d_Mo_set_23 ?_
        exact F_zret hX hE (by decide) d_Mo_set_24 ⟨rfl, rfl⟩
      · skip
        refine G_iload_n hX 2 rfl rfl d_Mo_set_13 ?_
        refine G_aload_n hX 0 rfl rfl d_Mo_set_14 ?_
        refine M_get hX fg_Mo_81 d_Mo_set_15 hMo (by decide) (hmk 2 64 (by decide)) ?_
        refine G_iload_n hX 1 rfl rfl d_Mo_set_18 ?_
        refine F_iald hX d_Mo_set_19 64 (by decide) hc64 (by omega) ?_
        refine G_icmp_lt_z hX (tgt := 25) d_Mo_set_20 rfl (by omega) (fun c7 => ?_) (fun c8 => ?_)
        · skip
          exfalso; omega
        · skip
          refine G_iconst hX d_Mo_set_23 ?_
          exact F_zret hX hE (by decide) d_Mo_set_24 ⟨rfl, rfl⟩
theorem c_Mo_copy (E : EV) (f : Nat → va_E) (F : Nat → Value) (a : Int) (k : Int) (pl : Int) (b : Int → Int) (sz : Int → Int) (hMo : f 61 = mob F) (hmk : moK E F) (hF11 : F 11 = .int (zI pl)) (hc63 : f 63 = iz E 1600 b) (hc64 : f 64 = iz E 4 sz) (hsz : ∀ k, 0 ≤ k → k ≤ 3 → 0 ≤ sz k ∧ sz k ≤ (if k = 2 then 700 else 300)) (hk : (0 ≤ k ∧ k ≤ 2) ∧ (0 ≤ a ∧ a ≤ 3) ∧ sz a ≤ (if k = 2 then 700 else 300)) : CF yn_Mo_copy cd_Mo_copy 4 (some (.boolean)) 1 E [.ref (eA E 61), .int (zI a), .int (zI k)] f (fun r f' => r = some (.int (zI 1)) ∧ ∃ (F' : Nat → Value) (b' : Int → Int), f' 61 = mob F' ∧ F' 11 = .int (zI (if k = 1 then -1 else pl)) ∧ FrF [11] F F' ∧ f' 63 = iz E 1600 b' ∧ f' 64 = iz E 4 (uz sz k (sz a)) ∧ (∀ i, 0 ≤ i → i < sz a → b' (300 * k + i) = b ((if a < 3 then 300 * a else 1300) + i)) ∧ (∀ x, x < 300 * k ∨ 300 * k + sz a ≤ x → b' x = b x) ∧ Fr [63, 64, 61] f f') := by
  refine CF.of (by decide +kernel) (Nat.le_of_ble_eq_true rfl) fun X hX hE => ?_
  have hX : Ok E X "DeltaFerryModel" "copy" cd_Mo_copy 4 (some (.boolean)) (rl 1) := hX
  refine G_cast (lv' := [(0, .ref (eA E 61)), (1, .int (zI a)), (2, .int (zI k))]) ?_ rfl rfl rfl rfl
  have hrm : ∀ k : Int, (if k = 2 then (700 : Int) else 300) = 300 ∨ (k = 2 ∧ (if k = 2 then (700 : Int) else 300) = 700) := fun k => by by_cases q : k = 2; exact Or.inr ⟨q, if_pos q⟩; exact Or.inl (if_neg q)
  have hrk := hrm k
  have hra := hrm a
  have hszk := hsz k (by omega) (by omega)
  have hsza := hsz a (by omega) (by omega)
  have hba : (a < 3 ∧ (if a < 3 then 300 * a else 1300) = 300 * a) ∨ (a = 3 ∧ (if a < 3 then 300 * a else 1300) = 1300) := by by_cases q : a < 3; exact Or.inl ⟨q, if_pos q⟩; exact Or.inr ⟨by omega, if_neg q⟩
  refine G_iload_n hX 1 rfl rfl d_Mo_copy_0 ?_
  refine F_callS hX (st := []) (c_Mo_isFile E f a (by omega)) cm_Mo_isFile sm_Mo_isFile ml_Mo_170 d_Mo_copy_1 rfl rfl (Nat.le_of_ble_eq_true rfl) (by decide) ?_
  rintro _ f1 ⟨rfl, e4⟩
  obtain rfl := e4.symm
  refine G_cast (st' := [.int (zI (if 0 ≤ a ∧ a ≤ 3 then 1 else 0))]) ?_ rfl rfl rfl rfl
  refine G_top (show zI (if 0 ≤ a ∧ a ≤ 3 then 1 else 0) = zI 1 from by rw [if_pos (by omega)]) ?_
  refine G_if_eq_z hX (tgt := 29) d_Mo_copy_4 rfl (by omega) (fun c5 => by exfalso; omega) (fun c6 => ?_)
  refine G_iload_n hX 2 rfl rfl d_Mo_copy_7 ?_
  refine G_if_lt_z hX (tgt := 29) d_Mo_copy_8 rfl (by omega) (fun c7 => by exfalso; omega) (fun c8 => ?_)
  refine G_iload_n hX 2 rfl rfl d_Mo_copy_11 ?_
  refine G_iconst hX d_Mo_copy_12 ?_
  refine G_icmp_gt_z hX (tgt := 29) d_Mo_copy_13 rfl (by omega) (fun c9 => by exfalso; omega) (fun c10 => ?_)
  refine G_aload_n hX 0 rfl rfl d_Mo_copy_16 ?_
  refine M_get hX fg_Mo_81 d_Mo_copy_17 hMo (by decide) (hmk 2 64 (by decide)) ?_
  refine G_iload_n hX 1 rfl rfl d_Mo_copy_20 ?_
  refine F_iald hX d_Mo_copy_21 64 (by decide) hc64 (by omega) ?_
  refine G_iload_n hX 2 rfl rfl d_Mo_copy_22 ?_
  refine F_callS hX (st := [.int (zI (sz a))]) (c_Mo_room E f k (by omega)) cm_Mo_room sm_Mo_room ml_Mo_157 d_Mo_copy_23 rfl rfl (Nat.le_of_ble_eq_true rfl) (by decide) ?_
  rintro _ f11 ⟨rfl, e14⟩
  obtain rfl := e14.symm
  refine G_cast (st' := [.int (zI (if k = 2 then 700 else 300)), .int (zI (sz a))]) ?_ rfl rfl rfl rfl
  refine G_icmp_le_z hX (tgt := 31) d_Mo_copy_26 rfl (by omega) (fun c15 => ?_) (fun c16 => by exfalso; omega)
  refine G_aload_n hX 0 rfl rfl d_Mo_copy_31 ?_
  refine M_get hX fg_Mo_81 d_Mo_copy_32 hMo (by decide) (hmk 2 64 (by decide)) ?_
  refine G_iload_n hX 2 rfl rfl d_Mo_copy_35 ?_
  refine G_aload_n hX 0 rfl rfl d_Mo_copy_36 ?_
  refine M_get hX fg_Mo_81 d_Mo_copy_37 hMo (by decide) (hmk 2 64 (by decide)) ?_
  refine G_iload_n hX 1 rfl rfl d_Mo_copy_40 ?_
  refine F_iald hX d_Mo_copy_41 64 (by decide) hc64 (by omega) ?_
  refine F_iast hX d_Mo_copy_42 64 (by decide) hc64 (by omega) (fun f17 h18 k19 => ?_)
  refine G_iconst hX d_Mo_copy_43 ?_
  refine G_istore_n hX (lv' := [(3, .int (zI 0)), (0, .ref (eA E 61)), (1, .int (zI a)), (2, .int (zI k))]) rfl (by decide) rfl d_Mo_copy_44 ?_
  have loop20 : ∀ (q : Nat) (t : Int) (b1 : Int → Int) (f21 : Nat → va_E), (sz a - t).toNat < q → (0 ≤ t ∧ t ≤ sz a) → (∀ i, 0 ≤ i → i < t → b1 (300 * k + i) = b ((if a < 3 then 300 * a else 1300) + i)) → (∀ x, x < 300 * k ∨ 300 * k + t ≤ x → b1 x = b x) → f21 63 = iz E 1600 b1 → Fr [63] f17 f21 → G E X 0 0 45 [(0, .ref (eA E 61)), (1, .int (zI a)), (2, .int (zI k)), (3, .int (zI t))] [] (wl E f21) := by
    intro q
    induction q with
    | zero => intro t b1 f21 hms23; exact absurd hms23 (Nat.not_lt_zero _)
    | succ q ih24 =>
      intro t b1 f21 hms23 ht hb1 hb2 h25 k22
      have hsa : uz sz k (sz a) a = sz a := by unfold uz; split <;> rfl
      refine G_iload_n hX 3 rfl rfl d_Mo_copy_45 ?_
      refine G_aload_n hX 0 rfl rfl d_Mo_copy_46 ?_
      have h26 : f21 61 = mob F := (k22 61 (by decide)).trans ((k19 61 (by decide)).trans hMo)
      refine M_get hX fg_Mo_81 d_Mo_copy_47 h26 (by decide) (hmk 2 64 (by decide)) ?_
      refine G_iload_n hX 1 rfl rfl d_Mo_copy_50 ?_
      have h27 : f21 64 = iz E 4 (uz sz k (sz a)) := (k22 64 (by decide)).trans h18
      refine F_iald hX d_Mo_copy_51 64 (by decide) h27 (by omega) ?_
      refine G_top (show zI ((uz sz k (sz a)) a) = zI (sz a) from by rw [hsa]) ?_
      refine G_icmp_ge_z hX (tgt := 83) d_Mo_copy_52 rfl (by omega) (fun c28 => ?_) (fun c29 => ?_)
      · skip
        refine G_aload_n hX 0 rfl rfl d_Mo_copy_83 ?_
        refine G_iload_n hX 2 rfl rfl d_Mo_copy_84 ?_
        refine F_callV hX (st := []) (c_Mo_changed E f21 F k pl h26 hmk hF11 (by omega)) cm_Mo_changed im_Mo_changed se_Mo_changed rfl ml_Mo_166 d_Mo_copy_85 (by decide) h26 rfl rfl (Nat.le_of_ble_eq_true rfl) (by decide) ?_
        rintro _ f30 ⟨rfl, F33, h34, h35, k36, k37⟩
        refine G_cast (st' := []) ?_ rfl rfl rfl rfl
        refine G_iconst hX d_Mo_copy_88 ?_
        have ez : t = sz a := by omega
        have h38 : f30 63 = iz E 1600 b1 := (k37 63 (by decide)).trans h25
        have h39 : f30 64 = iz E 4 (uz sz k (sz a)) := (k37 64 (by decide)).trans h27
        exact F_zret hX hE (by decide) d_Mo_copy_89 ⟨rfl, F33, _, h34, h35, (FrF.tr FrF.rf k36 (by decide)), h38, h39, by rw [← ez]; exact hb1, by rw [← ez]; exact hb2, (Fr.tr (Fr.tr (Fr.tr Fr.rf k19 (by decide)) k22 (by decide)) k37 (by decide))⟩
      · skip
        refine G_aload_n hX 0 rfl rfl d_Mo_copy_55 ?_
        refine M_get hX fg_Mo_77 d_Mo_copy_56 h26 (by decide) (hmk 1 63 (by decide)) ?_
        refine G_iload_n hX 2 rfl rfl d_Mo_copy_59 ?_
        refine F_callS hX (st := [.ref (eA E 63)]) (c_Mo_base E f21 k (by omega)) cm_Mo_base sm_Mo_base ml_Mo_161 d_Mo_copy_60 rfl rfl (Nat.le_of_ble_eq_true rfl) (by decide) ?_
        rintro _ f40 ⟨rfl, e43⟩
        obtain rfl := e43.symm
        refine G_cast (st' := [.int (zI (if k < 3 then 300 * k else 1300)), .ref (eA E 63)]) ?_ rfl rfl rfl rfl
        refine G_top (show zI (if k < 3 then 300 * k else 1300) = zI (300 * k) from by rw [if_pos (by omega)]) ?_
        refine G_iload_n hX 3 rfl rfl d_Mo_copy_63 ?_
        refine G_iadd_z hX d_Mo_copy_64 ?_
        refine G_aload_n hX 0 rfl rfl d_Mo_copy_65 ?_
        refine M_get hX fg_Mo_77 d_Mo_copy_66 h26 (by decide) (hmk 1 63 (by decide)) ?_
        refine G_iload_n hX 1 rfl rfl d_Mo_copy_69 ?_
        refine F_callS hX (st := [.ref (eA E 63), .int (zI ((300 * k) + t)), .ref (eA E 63)]) (c_Mo_base E f21 a (by omega)) cm_Mo_base sm_Mo_base ml_Mo_161 d_Mo_copy_70 rfl rfl (Nat.le_of_ble_eq_true rfl) (by decide) ?_
        rintro _ f44 ⟨rfl, e47⟩
        obtain rfl := e47.symm
        refine G_cast (st' := [.int (zI (if a < 3 then 300 * a else 1300)), .ref (eA E 63), .int (zI ((300 * k) + t)), .ref (eA E 63)]) ?_ rfl rfl rfl rfl
        refine G_iload_n hX 3 rfl rfl d_Mo_copy_73 ?_
        refine G_iadd_z hX d_Mo_copy_74 ?_
        refine F_iald hX d_Mo_copy_75 63 (by decide) h25 (by omega) ?_
        refine G_top (show zI (b1 ((if a < 3 then 300 * a else 1300) + t)) = zI (b ((if a < 3 then 300 * a else 1300) + t)) from by rw [hb2 ((if a < 3 then 300 * a else 1300) + t) (by omega)]) ?_
        refine F_iast hX d_Mo_copy_76 63 (by decide) h25 (by omega) (fun f48 h49 k50 => ?_)
        refine G_iinc_z hX (lv' := [(3, .int (zI (t + 1))), (0, .ref (eA E 61)), (1, .int (zI a)), (2, .int (zI k))]) 3 rfl (by decide) rfl d_Mo_copy_77 ?_
        refine G_goto hX (tgt := 45) d_Mo_copy_80 rfl ?_
        refine G_loc (lv' := [(0, .ref (eA E 61)), (1, .int (zI a)), (2, .int (zI k)), (3, .int (zI (t + 1)))]) [1, 2, 3, 0] rfl ?_
        exact ih24 (t + 1) (uz b1 ((300 * k) + t) (b ((if a < 3 then 300 * a else 1300) + t))) f48 (by omega) (by omega) (fun i h1 h2 => put_1 (p := fun i => b ((if a < 3 then 300 * a else 1300) + i)) hb1 rfl i h1 h2) (fun x hx => put_2 hb2 rfl ht.1 x hx) h49 (Fr.tr (Fr.tr Fr.rf k22 (by decide)) k50 (by decide))
  have h51 : f17 63 = iz E 1600 b := (k19 63 (by decide)).trans hc63
  refine G_loc (lv' := [(0, .ref (eA E 61)), (1, .int (zI a)), (2, .int (zI k)), (3, .int (zI 0))]) [1, 2, 3, 0] rfl ?_
  exact loop20 (_ + 1) 0 b f17 (Nat.lt_succ_self _) (by omega) (fun i h1 h2 => by omega) (fun _ _ => rfl) h51 Fr.rf
theorem c_Mo_copy_no (E : EV) (f : Nat → va_E) (F : Nat → Value) (a : Int) (k : Int) (b : Int → Int) (sz : Int → Int) (hMo : f 61 = mob F) (hmk : moK E F) (hc63 : f 63 = iz E 1600 b) (hc64 : f 64 = iz E 4 sz) (hsz : ∀ k, 0 ≤ k → k ≤ 3 → 0 ≤ sz k ∧ sz k ≤ (if k = 2 then 700 else 300)) (hk : (k < 0 ∨ 2 < k) ∨ (a < 0 ∨ 3 < a) ∨ ((0 ≤ k ∧ k ≤ 2) ∧ (0 ≤ a ∧ a ≤ 3) ∧ (if k = 2 then 700 else 300) < sz a)) (hk2 : -2147483648 ≤ k ∧ k < 2147483648 ∧ -2147483648 ≤ a ∧ a < 2147483648) : CF yn_Mo_copy cd_Mo_copy 4 (some (.boolean)) 1 E [.ref (eA E 61), .int (zI a), .int (zI k)] f (fun r f' => r = some (.int (zI 0)) ∧ f' = f) := by
  refine CF.of (by decide +kernel) (Nat.le_of_ble_eq_true rfl) fun X hX hE => ?_
  have hX : Ok E X "DeltaFerryModel" "copy" cd_Mo_copy 4 (some (.boolean)) (rl 1) := hX
  refine G_cast (lv' := [(0, .ref (eA E 61)), (1, .int (zI a)), (2, .int (zI k))]) ?_ rfl rfl rfl rfl
  have hrm : ∀ k : Int, (if k = 2 then (700 : Int) else 300) = 300 ∨ (k = 2 ∧ (if k = 2 then (700 : Int) else 300) = 700) := fun k => by by_cases q : k = 2; exact Or.inr ⟨q, if_pos q⟩; exact Or.inl (if_neg q)
  have hrk := hrm k
  have hra := hrm a
  have hsza : 0 ≤ a ∧ a ≤ 3 → 0 ≤ sz a ∧ sz a ≤ (if a = 2 then 700 else 300) := fun q => hsz a q.1 q.2
  refine G_iload_n hX 1 rfl rfl d_Mo_copy_0 ?_
  refine F_callS hX (st := []) (c_Mo_isFile E f a (by omega)) cm_Mo_isFile sm_Mo_isFile ml_Mo_170 d_Mo_copy_1 rfl rfl (Nat.le_of_ble_eq_true rfl) (by decide) ?_
  rintro _ f1 ⟨rfl, e4⟩
  obtain rfl := e4.symm
  refine G_cast (st' := [.int (zI (if 0 ≤ a ∧ a ≤ 3 then 1 else 0))]) ?_ rfl rfl rfl rfl
  by_cases hfi : 0 ≤ a ∧ a ≤ 3
  · skip
    refine G_top (show zI (if 0 ≤ a ∧ a ≤ 3 then 1 else 0) = zI 1 from by rw [if_pos hfi]) ?_
    refine G_if_eq_z hX (tgt := 29) d_Mo_copy_4 rfl (by omega) (fun c5 => by exfalso; omega) (fun c6 => ?_)
    refine G_iload_n hX 2 rfl rfl d_Mo_copy_7 ?_
    refine G_if_lt_z hX (tgt := 29) d_Mo_copy_8 rfl (by omega) (fun c7 => ?_) (fun c8 => ?_)
    · skip
      refine G_iconst hX d_Mo_copy_29 ?_
      exact F_zret hX hE (by decide) d_Mo_copy_30 ⟨rfl, rfl⟩
    · skip
      refine G_iload_n hX 2 rfl rfl d_Mo_copy_11 ?_
      refine G_iconst hX d_Mo_copy_12 ?_
      refine G_icmp_gt_z hX (tgt := 29) d_Mo_copy_13 rfl (by omega) (fun c9 => ?_) (fun c10 => ?_)
      · skip
        refine G_iconst hX d_Mo_copy_29 ?_
        exact F_zret hX hE (by decide) d_Mo_copy_30 ⟨rfl, rfl⟩
      · skip
        refine G_aload_n hX 0 rfl rfl d_Mo_copy_16 ?_
        refine M_get hX fg_Mo_81 d_Mo_copy_17 hMo (by decide) (hmk 2 64 (by decide)) ?_
        refine G_iload_n hX 1 rfl rfl d_Mo_copy_20 ?_
        refine F_iald hX d_Mo_copy_21 64 (by decide) hc64 (by omega) ?_
        refine G_iload_n hX 2 rfl rfl d_Mo_copy_22 ?_
        refine F_callS hX (st := [.int (zI (sz a))]) (c_Mo_room E f k (by omega)) cm_Mo_room sm_Mo_room ml_Mo_157 d_Mo_copy_23 rfl rfl (Nat.le_of_ble_eq_true rfl) (by decide) ?_
        rintro _ f11 ⟨rfl, e14⟩
        obtain rfl := e14.symm
        refine G_cast (st' := [.int (zI (if k = 2 then 700 else 300)), .int (zI (sz a))]) ?_ rfl rfl rfl rfl
        refine G_icmp_le_z hX (tgt := 31) d_Mo_copy_26 rfl (by omega) (fun c15 => ?_) (fun c16 => ?_)
        · skip
          exfalso; omega
        · skip
          refine G_iconst hX d_Mo_copy_29 ?_
          exact F_zret hX hE (by decide) d_Mo_copy_30 ⟨rfl, rfl⟩
  · skip
    refine G_top (show zI (if 0 ≤ a ∧ a ≤ 3 then 1 else 0) = zI 0 from by rw [if_neg hfi]) ?_
    refine G_if_eq_z hX (tgt := 29) d_Mo_copy_4 rfl (by omega) (fun c17 => ?_) (fun c18 => by exfalso; omega)
    refine G_iconst hX d_Mo_copy_29 ?_
    exact F_zret hX hE (by decide) d_Mo_copy_30 ⟨rfl, rfl⟩
theorem c_Mo_clear (E : EV) (f : Nat → va_E) (F : Nat → Value) (k : Int) (pl : Int) (b : Int → Int) (sz : Int → Int) (hMo : f 61 = mob F) (hmk : moK E F) (hF11 : F 11 = .int (zI pl)) (hc63 : f 63 = iz E 1600 b) (hc64 : f 64 = iz E 4 sz) (hsz : ∀ k, 0 ≤ k → k ≤ 3 → 0 ≤ sz k ∧ sz k ≤ (if k = 2 then 700 else 300)) (hk : 0 ≤ k ∧ k ≤ 3) : CF yn_Mo_clear cd_Mo_clear 3 (some (.int)) 1 E [.ref (eA E 61), .int (zI k)] f (fun r f' => r = some (.int (zI (sz k))) ∧ ∃ (F' : Nat → Value), f' 61 = mob F' ∧ F' 11 = .int (zI (if k = 1 then -1 else pl)) ∧ FrF [11] F F' ∧ f' 64 = iz E 4 (uz sz k 0) ∧ Fr [64, 61] f f') := by
  refine CF.of (by decide +kernel) (Nat.le_of_ble_eq_true rfl) fun X hX hE => ?_
  have hX : Ok E X "DeltaFerryModel" "clear" cd_Mo_clear 3 (some (.int)) (rl 1) := hX
  refine G_cast (lv' := [(0, .ref (eA E 61)), (1, .int (zI k))]) ?_ rfl rfl rfl rfl
  refine G_iload_n hX 1 rfl rfl d_Mo_clear_0 ?_
  refine F_callS hX (st := []) (c_Mo_isFile E f k (by omega)) cm_Mo_isFile sm_Mo_isFile ml_Mo_170 d_Mo_clear_1 rfl rfl (Nat.le_of_ble_eq_true rfl) (by decide) ?_
  rintro _ f1 ⟨rfl, e4⟩
  obtain rfl := e4.symm
  refine G_cast (st' := [.int (zI (if 0 ≤ k ∧ k ≤ 3 then 1 else 0))]) ?_ rfl rfl rfl rfl
  refine G_top (show zI (if 0 ≤ k ∧ k ≤ 3 then 1 else 0) = zI 1 from by rw [if_pos (by omega)]) ?_
  refine G_if_ne_z hX (tgt := 9) d_Mo_clear_4 rfl (by omega) (fun c5 => ?_) (fun c6 => by exfalso; omega)
  refine G_aload_n hX 0 rfl rfl d_Mo_clear_9 ?_
  refine M_get hX fg_Mo_81 d_Mo_clear_10 hMo (by decide) (hmk 2 64 (by decide)) ?_
  refine G_iload_n hX 1 rfl rfl d_Mo_clear_13 ?_
  refine F_iald hX d_Mo_clear_14 64 (by decide) hc64 (by omega) ?_
  refine G_istore_n hX (lv' := [(2, .int (zI (sz k))), (0, .ref (eA E 61)), (1, .int (zI k))]) rfl (by decide) rfl d_Mo_clear_15 ?_
  refine G_aload_n hX 1 rfl rfl d_Mo_clear_16 ?_
  refine M_get hX fg_Mo_81 d_Mo_clear_17 hMo (by decide) (hmk 2 64 (by decide)) ?_
  refine G_iload_n hX 2 rfl rfl d_Mo_clear_20 ?_
  refine G_iconst hX d_Mo_clear_21 ?_
  refine F_iast hX d_Mo_clear_22 64 (by decide) hc64 (by omega) (fun f7 h8 k9 => ?_)
  refine G_aload_n hX 1 rfl rfl d_Mo_clear_23 ?_
  refine G_iload_n hX 2 rfl rfl d_Mo_clear_24 ?_
  have h10 : f7 61 = mob F := (k9 61 (by decide)).trans hMo
  refine F_callV hX (st := []) (c_Mo_changed E f7 F k pl h10 hmk hF11 (by omega)) cm_Mo_changed im_Mo_changed se_Mo_changed rfl ml_Mo_166 d_Mo_clear_25 (by decide) h10 rfl rfl (Nat.le_of_ble_eq_true rfl) (by decide) ?_
  rintro _ f11 ⟨rfl, F14, h15, h16, k17, k18⟩
  refine G_cast (st' := []) ?_ rfl rfl rfl rfl
  refine G_iload_n hX 0 rfl rfl d_Mo_clear_28 ?_
  have h19 : f11 64 = iz E 4 (uz sz k 0) := (k18 64 (by decide)).trans h8
  exact F_iret hX hE d_Mo_clear_29 ⟨rfl, F14, h15, h16, (FrF.tr FrF.rf k17 (by decide)), h19, (Fr.tr (Fr.tr Fr.rf k9 (by decide)) k18 (by decide))⟩
theorem c_Mo_clear_no (E : EV) (f : Nat → va_E) (F : Nat → Value) (k : Int) (b : Int → Int) (sz : Int → Int) (hMo : f 61 = mob F) (hmk : moK E F) (hc63 : f 63 = iz E 1600 b) (hc64 : f 64 = iz E 4 sz) (hsz : ∀ k, 0 ≤ k → k ≤ 3 → 0 ≤ sz k ∧ sz k ≤ (if k = 2 then 700 else 300)) (hk : k < 0 ∨ 3 < k) (hk2 : -2147483648 ≤ k ∧ k < 2147483648) : CF yn_Mo_clear cd_Mo_clear 3 (some (.int)) 1 E [.ref (eA E 61), .int (zI k)] f (fun r f' => r = some (.int (zI (-1))) ∧ f' = f) := by
  refine CF.of (by decide +kernel) (Nat.le_of_ble_eq_true rfl) fun X hX hE => ?_
  have hX : Ok E X "DeltaFerryModel" "clear" cd_Mo_clear 3 (some (.int)) (rl 1) := hX
  refine G_cast (lv' := [(0, .ref (eA E 61)), (1, .int (zI k))]) ?_ rfl rfl rfl rfl
  refine G_iload_n hX 1 rfl rfl d_Mo_clear_0 ?_
  refine F_callS hX (st := []) (c_Mo_isFile E f k (by omega)) cm_Mo_isFile sm_Mo_isFile ml_Mo_170 d_Mo_clear_1 rfl rfl (Nat.le_of_ble_eq_true rfl) (by decide) ?_
  rintro _ f1 ⟨rfl, e4⟩
  obtain rfl := e4.symm
  refine G_cast (st' := [.int (zI (if 0 ≤ k ∧ k ≤ 3 then 1 else 0))]) ?_ rfl rfl rfl rfl
  refine G_top (show zI (if 0 ≤ k ∧ k ≤ 3 then 1 else 0) = zI 0 from by rw [if_neg (by omega)]) ?_
  refine G_if_ne_z hX (tgt := 9) d_Mo_clear_4 rfl (by omega) (fun c5 => by exfalso; omega) (fun c6 => ?_)
  refine G_iconst hX d_Mo_clear_7 ?_
  exact F_iret hX hE d_Mo_clear_8 ⟨rfl, rfl⟩
theorem c_Mo_size (E : EV) (f : Nat → va_E) (F : Nat → Value) (k : Int) (b : Int → Int) (sz : Int → Int) (hMo : f 61 = mob F) (hmk : moK E F) (hc63 : f 63 = iz E 1600 b) (hc64 : f 64 = iz E 4 sz) (hsz : ∀ k, 0 ≤ k → k ≤ 3 → 0 ≤ sz k ∧ sz k ≤ (if k = 2 then 700 else 300)) (hk : 0 ≤ k ∧ k ≤ 3) : CF yn_Mo_size cd_Mo_size 2 (some (.int)) 1 E [.ref (eA E 61), .int (zI k)] f (fun r f' => r = some (.int (zI (sz k))) ∧ f' = f) := by
  refine CF.of (by decide +kernel) (Nat.le_of_ble_eq_true rfl) fun X hX hE => ?_
  have hX : Ok E X "DeltaFerryModel" "size" cd_Mo_size 2 (some (.int)) (rl 1) := hX
  refine G_cast (lv' := [(0, .ref (eA E 61)), (1, .int (zI k))]) ?_ rfl rfl rfl rfl
  refine G_iload_n hX 1 rfl rfl d_Mo_size_0 ?_
  refine F_callS hX (st := []) (c_Mo_isFile E f k (by omega)) cm_Mo_isFile sm_Mo_isFile ml_Mo_170 d_Mo_size_1 rfl rfl (Nat.le_of_ble_eq_true rfl) (by decide) ?_
  rintro _ f1 ⟨rfl, e4⟩
  obtain rfl := e4.symm
  refine G_cast (st' := [.int (zI (if 0 ≤ k ∧ k ≤ 3 then 1 else 0))]) ?_ rfl rfl rfl rfl
  refine G_top (show zI (if 0 ≤ k ∧ k ≤ 3 then 1 else 0) = zI 1 from by rw [if_pos (by omega)]) ?_
  refine G_if_eq_z hX (tgt := 16) d_Mo_size_4 rfl (by omega) (fun c5 => by exfalso; omega) (fun c6 => ?_)
  refine G_aload_n hX 0 rfl rfl d_Mo_size_7 ?_
  refine M_get hX fg_Mo_81 d_Mo_size_8 hMo (by decide) (hmk 2 64 (by decide)) ?_
  refine G_iload_n hX 1 rfl rfl d_Mo_size_11 ?_
  refine F_iald hX d_Mo_size_12 64 (by decide) hc64 (by omega) ?_
  refine G_goto hX (tgt := 17) d_Mo_size_13 rfl ?_
  exact F_iret hX hE d_Mo_size_17 ⟨rfl, rfl⟩
theorem c_Mo_size_no (E : EV) (f : Nat → va_E) (F : Nat → Value) (k : Int) (b : Int → Int) (sz : Int → Int) (hMo : f 61 = mob F) (hmk : moK E F) (hc63 : f 63 = iz E 1600 b) (hc64 : f 64 = iz E 4 sz) (hsz : ∀ k, 0 ≤ k → k ≤ 3 → 0 ≤ sz k ∧ sz k ≤ (if k = 2 then 700 else 300)) (hk : k < 0 ∨ 3 < k) (hk2 : -2147483648 ≤ k ∧ k < 2147483648) : CF yn_Mo_size cd_Mo_size 2 (some (.int)) 1 E [.ref (eA E 61), .int (zI k)] f (fun r f' => r = some (.int (zI (-1))) ∧ f' = f) := by
  refine CF.of (by decide +kernel) (Nat.le_of_ble_eq_true rfl) fun X hX hE => ?_
  have hX : Ok E X "DeltaFerryModel" "size" cd_Mo_size 2 (some (.int)) (rl 1) := hX
  refine G_cast (lv' := [(0, .ref (eA E 61)), (1, .int (zI k))]) ?_ rfl rfl rfl rfl
  refine G_iload_n hX 1 rfl rfl d_Mo_size_0 ?_
  refine F_callS hX (st := []) (c_Mo_isFile E f k (by omega)) cm_Mo_isFile sm_Mo_isFile ml_Mo_170 d_Mo_size_1 rfl rfl (Nat.le_of_ble_eq_true rfl) (by decide) ?_
  rintro _ f1 ⟨rfl, e4⟩
  obtain rfl := e4.symm
  refine G_cast (st' := [.int (zI (if 0 ≤ k ∧ k ≤ 3 then 1 else 0))]) ?_ rfl rfl rfl rfl
  refine G_top (show zI (if 0 ≤ k ∧ k ≤ 3 then 1 else 0) = zI 0 from by rw [if_neg (by omega)]) ?_
  refine G_if_eq_z hX (tgt := 16) d_Mo_size_4 rfl (by omega) (fun c5 => ?_) (fun c6 => by exfalso; omega)
  refine G_iconst hX d_Mo_size_16 ?_
  exact F_iret hX hE d_Mo_size_17 ⟨rfl, rfl⟩
theorem c_Mo_at (E : EV) (f : Nat → va_E) (F : Nat → Value) (k : Int) (p : Int) (b : Int → Int) (sz : Int → Int) (hMo : f 61 = mob F) (hmk : moK E F) (hc63 : f 63 = iz E 1600 b) (hc64 : f 64 = iz E 4 sz) (hsz : ∀ k, 0 ≤ k → k ≤ 3 → 0 ≤ sz k ∧ sz k ≤ (if k = 2 then 700 else 300)) (hk : 0 ≤ k ∧ k ≤ 3) (hp : 0 ≤ p ∧ p < sz k) : CF yn_Mo_at cd_Mo_at 3 (some (.int)) 1 E [.ref (eA E 61), .int (zI k), .int (zI p)] f (fun r f' => r = some (.int (zI (b ((if k < 3 then 300 * k else 1300) + p)))) ∧ f' = f) := by
  refine CF.of (by decide +kernel) (Nat.le_of_ble_eq_true rfl) fun X hX hE => ?_
  have hX : Ok E X "DeltaFerryModel" "at" cd_Mo_at 3 (some (.int)) (rl 1) := hX
  refine G_cast (lv' := [(0, .ref (eA E 61)), (1, .int (zI k)), (2, .int (zI p))]) ?_ rfl rfl rfl rfl
  have hszk := hsz k (by omega) (by omega)
  have hrm : ∀ k : Int, (if k = 2 then (700 : Int) else 300) = 300 ∨ (k = 2 ∧ (if k = 2 then (700 : Int) else 300) = 700) := fun k => by by_cases q : k = 2; exact Or.inr ⟨q, if_pos q⟩; exact Or.inl (if_neg q)
  have hrk := hrm k
  have hbk : (k < 3 ∧ (if k < 3 then 300 * k else 1300) = 300 * k) ∨ (k = 3 ∧ (if k < 3 then 300 * k else 1300) = 1300) := by by_cases q : k < 3; exact Or.inl ⟨q, if_pos q⟩; exact Or.inr ⟨by omega, if_neg q⟩
  refine G_iload_n hX 1 rfl rfl d_Mo_at_0 ?_
  refine F_callS hX (st := []) (c_Mo_isFile E f k (by omega)) cm_Mo_isFile sm_Mo_isFile ml_Mo_170 d_Mo_at_1 rfl rfl (Nat.le_of_ble_eq_true rfl) (by decide) ?_
  rintro _ f1 ⟨rfl, e4⟩
  obtain rfl := e4.symm
  refine G_cast (st' := [.int (zI (if 0 ≤ k ∧ k ≤ 3 then 1 else 0))]) ?_ rfl rfl rfl rfl
  refine G_top (show zI (if 0 ≤ k ∧ k ≤ 3 then 1 else 0) = zI 1 from by rw [if_pos (by omega)]) ?_
  refine G_if_eq_z hX (tgt := 35) d_Mo_at_4 rfl (by omega) (fun c5 => by exfalso; omega) (fun c6 => ?_)
  refine G_iload_n hX 2 rfl rfl d_Mo_at_7 ?_
  refine G_if_lt_z hX (tgt := 35) d_Mo_at_8 rfl (by omega) (fun c7 => by exfalso; omega) (fun c8 => ?_)
  refine G_iload_n hX 2 rfl rfl d_Mo_at_11 ?_
  refine G_aload_n hX 0 rfl rfl d_Mo_at_12 ?_
  refine M_get hX fg_Mo_81 d_Mo_at_13 hMo (by decide) (hmk 2 64 (by decide)) ?_
  refine G_iload_n hX 1 rfl rfl d_Mo_at_16 ?_
  refine F_iald hX d_Mo_at_17 64 (by decide) hc64 (by omega) ?_
  refine G_icmp_ge_z hX (tgt := 35) d_Mo_at_18 rfl (by omega) (fun c9 => by exfalso; omega) (fun c10 => ?_)
  refine G_aload_n hX 0 rfl rfl d_Mo_at_21 ?_
  refine M_get hX fg_Mo_77 d_Mo_at_22 hMo (by decide) (hmk 1 63 (by decide)) ?_
  refine G_iload_n hX 1 rfl rfl d_Mo_at_25 ?_
  refine F_callS hX (st := [.ref (eA E 63)]) (c_Mo_base E f k (by omega)) cm_Mo_base sm_Mo_base ml_Mo_161 d_Mo_at_26 rfl rfl (Nat.le_of_ble_eq_true rfl) (by decide) ?_
  rintro _ f11 ⟨rfl, e14⟩
  obtain rfl := e14.symm
  refine G_cast (st' := [.int (zI (if k < 3 then 300 * k else 1300)), .ref (eA E 63)]) ?_ rfl rfl rfl rfl
  refine G_iload_n hX 2 rfl rfl d_Mo_at_29 ?_
  refine G_iadd_z hX d_Mo_at_30 ?_
  refine F_iald hX d_Mo_at_31 63 (by decide) hc63 (by omega) ?_
  refine G_goto hX (tgt := 36) d_Mo_at_32 rfl ?_
  exact F_iret hX hE d_Mo_at_36 ⟨rfl, rfl⟩
theorem c_Mo_at_no (E : EV) (f : Nat → va_E) (F : Nat → Value) (k : Int) (p : Int) (b : Int → Int) (sz : Int → Int) (hMo : f 61 = mob F) (hmk : moK E F) (hc63 : f 63 = iz E 1600 b) (hc64 : f 64 = iz E 4 sz) (hsz : ∀ k, 0 ≤ k → k ≤ 3 → 0 ≤ sz k ∧ sz k ≤ (if k = 2 then 700 else 300)) (hk : (k < 0 ∨ 3 < k) ∨ ((0 ≤ k ∧ k ≤ 3) ∧ (p < 0 ∨ sz k ≤ p))) (hk2 : -2147483648 ≤ k ∧ k < 2147483648 ∧ -2147483648 ≤ p ∧ p < 2147483648) : CF yn_Mo_at cd_Mo_at 3 (some (.int)) 1 E [.ref (eA E 61), .int (zI k), .int (zI p)] f (fun r f' => r = some (.int (zI (-1))) ∧ f' = f) := by
  refine CF.of (by decide +kernel) (Nat.le_of_ble_eq_true rfl) fun X hX hE => ?_
  have hX : Ok E X "DeltaFerryModel" "at" cd_Mo_at 3 (some (.int)) (rl 1) := hX
  refine G_cast (lv' := [(0, .ref (eA E 61)), (1, .int (zI k)), (2, .int (zI p))]) ?_ rfl rfl rfl rfl
  have hrm : ∀ k : Int, (if k = 2 then (700 : Int) else 300) = 300 ∨ (k = 2 ∧ (if k = 2 then (700 : Int) else 300) = 700) := fun k => by by_cases q : k = 2; exact Or.inr ⟨q, if_pos q⟩; exact Or.inl (if_neg q)
  have hrk := hrm k
  have hszk : 0 ≤ k ∧ k ≤ 3 → 0 ≤ sz k ∧ sz k ≤ (if k = 2 then 700 else 300) := fun q => hsz k q.1 q.2
  refine G_iload_n hX 1 rfl rfl d_Mo_at_0 ?_
  refine F_callS hX (st := []) (c_Mo_isFile E f k (by omega)) cm_Mo_isFile sm_Mo_isFile ml_Mo_170 d_Mo_at_1 rfl rfl (Nat.le_of_ble_eq_true rfl) (by decide) ?_
  rintro _ f1 ⟨rfl, e4⟩
  obtain rfl := e4.symm
  refine G_cast (st' := [.int (zI (if 0 ≤ k ∧ k ≤ 3 then 1 else 0))]) ?_ rfl rfl rfl rfl
  by_cases hfi : 0 ≤ k ∧ k ≤ 3
  · skip
    refine G_top (show zI (if 0 ≤ k ∧ k ≤ 3 then 1 else 0) = zI 1 from by rw [if_pos hfi]) ?_
    refine G_if_eq_z hX (tgt := 35) d_Mo_at_4 rfl (by omega) (fun c5 => by exfalso; omega) (fun c6 => ?_)
    refine G_iload_n hX 2 rfl rfl d_Mo_at_7 ?_
    refine G_if_lt_z hX (tgt := 35) d_Mo_at_8 rfl (by omega) (fun c7 => ?_) (fun c8 => ?_)
    · skip
      refine G_iconst hX d_Mo_at_35 ?_
      exact F_iret hX hE d_Mo_at_36 ⟨rfl, rfl⟩
    · skip
      refine G_iload_n hX 2 rfl rfl d_Mo_at_11 ?_
      refine G_aload_n hX 0 rfl rfl d_Mo_at_12 ?_
      refine M_get hX fg_Mo_81 d_Mo_at_13 hMo (by decide) (hmk 2 64 (by decide)) ?_
      refine G_iload_n hX 1 rfl rfl d_Mo_at_16 ?_
      refine F_iald hX d_Mo_at_17 64 (by decide) hc64 (by omega) ?_
      refine G_icmp_ge_z hX (tgt := 35) d_Mo_at_18 rfl (by omega) (fun c9 => ?_) (fun c10 => ?_)
      · skip
        refine G_iconst hX d_Mo_at_35 ?_
        exact F_iret hX hE d_Mo_at_36 ⟨rfl, rfl⟩
      · skip
        exfalso; omega
  · skip
    refine G_top (show zI (if 0 ≤ k ∧ k ≤ 3 then 1 else 0) = zI 0 from by rw [if_neg hfi]) ?_
    refine G_if_eq_z hX (tgt := 35) d_Mo_at_4 rfl (by omega) (fun c11 => ?_) (fun c12 => by exfalso; omega)
    refine G_iconst hX d_Mo_at_35 ?_
    exact F_iret hX hE d_Mo_at_36 ⟨rfl, rfl⟩
