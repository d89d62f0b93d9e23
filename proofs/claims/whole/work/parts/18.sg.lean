/-! DeltaFerry$Signature: printed by wip/tools/m_sg.py -/
def isSg (E : EV) (f : Nat → va_E) (W F L : Nat → Int64) (md b c : Int) : Prop := f 14 = ob 7 [.ref (eA E 15), .ref (eA E 18), .ref (eA E 19), .ref (eA E 20), .ref (eA E 21), .int (zI md), .int (zI b), .int (zI c)] ∧ f 18 = la E 75 W ∧ f 19 = la E 75 F ∧ f 20 = la E 75 L
/-- what the signature says of the first c blocks of g -/
def sgOf (g : Int → Int) (b c : Int) (W F L : Nat → Int64) : Prop := ∀ k : Int, 0 ≤ k → k < c → W k.toNat = zL (wkV g (k * b) b) ∧ F k.toNat = dgA g (k * b) b ∧ L k.toNat = dgB g (k * b) b
theorem sgOf_s {g : Int → Int} {b c x : Int} {W F L : Nat → Int64} (h : sgOf g b c W F L) (hc : 0 ≤ c) (hx : x = c * b) : sgOf g b (c + 1) (vp_updL W c.toNat (zL (wkV g x b))) (vp_updL F c.toNat (dgA g x b)) (vp_updL L c.toNat (dgB g x b)) := by
  intro k h1 h2
  unfold vp_updL
  by_cases hk : k = c
  · subst hk
    simp only [if_true, hx]
    exact ⟨trivial, trivial, trivial⟩
  · have h3 : ¬ k.toNat = c.toNat := by omega
    simp only [h3, if_false]
    exact h k h1 (by omega)
/-- the first block that fits -/
def fdL (W F L : Nat → Int64) (V A B : Int64) : Nat → Int → Int
  | 0, _ => -1
  | k + 1, i => if W i.toNat = V ∧ F i.toNat = A ∧ L i.toNat = B then i else fdL W F L V A B k (i + 1)
theorem fdL_go {W F L : Nat → Int64} {V A B : Int64} {c t : Int} (h : t < c) (hn : ¬ (W t.toNat = V ∧ F t.toNat = A ∧ L t.toNat = B)) : fdL W F L V A B (c - t).toNat t = fdL W F L V A B (c - (t + 1)).toNat (t + 1) := by
  rw [show (c - t).toNat = (c - (t + 1)).toNat + 1 by omega]
  show (if _ then _ else _) = _
  rw [if_neg hn]
theorem fdL_hit {W F L : Nat → Int64} {V A B : Int64} {c t : Int} (h : t < c) (hn : W t.toNat = V ∧ F t.toNat = A ∧ L t.toNat = B) : fdL W F L V A B (c - t).toNat t = t := by
  rw [show (c - t).toNat = (c - (t + 1)).toNat + 1 by omega]
  show (if _ then _ else _) = _
  rw [if_pos hn]
theorem fdL_end {W F L : Nat → Int64} {V A B : Int64} {c t : Int} (h : c ≤ t) : fdL W F L V A B (c - t).toNat t = -1 := by
  rw [show (c - t).toNat = 0 by omega]; rfl
def fdF (W F L : Nat → Int64) (g : Int → Int) (b c p : Int) : Int := fdL W F L (zL (wkV g p b)) (dgA g p b) (dgB g p b) c.toNat 0
theorem fdL_b (W F L : Nat → Int64) (V A B : Int64) : ∀ (k : Nat) (i : Int), 0 ≤ i → -1 ≤ fdL W F L V A B k i ∧ fdL W F L V A B k i < i + k ∧ (fdL W F L V A B k i = -1 ∨ i ≤ fdL W F L V A B k i) := by
  intro k
  induction k with
  | zero => intro i h; exact ⟨by simp only [fdL]; omega, by simp only [fdL]; have : ((0 : Nat) : Int) = 0 := rfl; omega, Or.inl rfl⟩
  | succ k ih =>
    intro i h
    have := ih (i + 1) (by omega)
    simp only [fdL]
    split <;> omega
theorem c_Sg_reach (E : EV) (f : Nat → va_E) (W F L : Nat → Int64) (md bl ct : Int) (hS : isSg E f W F L md bl ct) : CF yn_Sg_reach cd_Sg_reach 1 (some (.int)) 0 E [.ref (eA E 14)] f (fun r f' => r = some (.int (zI (ct * bl))) ∧ f' = f) := by
  refine CF.of (by decide +kernel) (Nat.le_of_ble_eq_true rfl) fun X hX hE => ?_
  have hX : Ok E X "DeltaFerry$Signature" "reach" cd_Sg_reach 1 (some (.int)) (rl 0) := hX
  refine G_cast (lv' := [(0, .ref (eA E 14))]) ?_ rfl rfl rfl rfl
  refine G_aload_n hX 0 rfl rfl d_Sg_reach_0 ?_
  refine F_get hX fg_Sg_35 d_Sg_reach_1 14 (by decide) hS.1 rfl ?_
  refine G_aload_n hX 0 rfl rfl d_Sg_reach_4 ?_
  refine F_get hX fg_Sg_39 d_Sg_reach_5 14 (by decide) hS.1 rfl ?_
  refine G_imul_z hX d_Sg_reach_8 ?_
  exact F_iret hX hE d_Sg_reach_9 ⟨rfl, rfl⟩
theorem c_Sg_make (E : EV) (f : Nat → va_E) (W F L : Nat → Int64) (md bl ct : Int) (s0 wd0 : Nat → Int32) (y0 y1 y2 y3 : Int32) (g : Int → Int) (c b : Int) (hS : isSg E f W F L md bl ct) (hD : isD E f 15 16 17 s0 wd0) (hW : f 21 = ob 8 [.int y0, .int y1, .int y2, .int y3]) (hR : isR E f 2 3 300 g c) (hc : 0 ≤ c ∧ c ≤ 300) (hb : 4 ≤ b ∧ b ≤ 64) : CF yn_Sg_make cd_Sg_make 4 none 3 E [.ref (eA E 14), .ref (eA E 2), .int (zI b)] f (fun r f' => r = none ∧ (∃ W' F' L' s' wd' z0 z1 z2 z3, isSg E f' W' F' L' 1 b (c / b) ∧ sgOf g b (c / b) W' F' L' ∧ isD E f' 15 16 17 s' wd' ∧ f' 21 = ob 8 [.int z0, .int z1, .int z2, .int z3]) ∧ Fr [14, 16, 17, 18, 19, 20, 21] f f') := by
  refine CF.of (by decide +kernel) (Nat.le_of_ble_eq_true rfl) fun X hX hE => ?_
  have hX : Ok E X "DeltaFerry$Signature" "make" cd_Sg_make 4 none (rl 3) := hX
  refine G_cast (lv' := [(0, .ref (eA E 14)), (1, .ref (eA E 2)), (2, .int (zI b))]) ?_ rfl rfl rfl rfl
  refine G_aload_n hX 0 rfl rfl d_Sg_make_0 ?_
  refine G_iconst hX d_Sg_make_1 ?_
  refine F_put hX fg_Sg_42 fp_Sg_5 d_Sg_make_2 14 (fs' := [.ref (eA E 15), .ref (eA E 18), .ref (eA E 19), .ref (eA E 20), .ref (eA E 21), .int (zI 1), .int (zI bl), .int (zI ct)]) (by decide) hS.1 (by decide) (by decide) (Nat.le_of_ble_eq_true rfl) rfl (fun f1 h2 k3 => ?_)
  refine G_aload_n hX 0 rfl rfl d_Sg_make_5 ?_
  refine G_iload_n hX 2 rfl rfl d_Sg_make_6 ?_
  refine F_put hX fg_Sg_39 fp_Sg_6 d_Sg_make_7 14 (fs' := [.ref (eA E 15), .ref (eA E 18), .ref (eA E 19), .ref (eA E 20), .ref (eA E 21), .int (zI 1), .int (zI b), .int (zI ct)]) (by decide) h2 rfl rfl (Nat.le_of_ble_eq_true rfl) rfl (fun f4 h5 k6 => ?_)
  refine G_aload_n hX 0 rfl rfl d_Sg_make_10 ?_
  refine G_iconst hX d_Sg_make_11 ?_
  refine F_put hX fg_Sg_35 fp_Sg_7 d_Sg_make_12 14 (fs' := [.ref (eA E 15), .ref (eA E 18), .ref (eA E 19), .ref (eA E 20), .ref (eA E 21), .int (zI 1), .int (zI b), .int (zI 0)]) (by decide) h5 rfl rfl (Nat.le_of_ble_eq_true rfl) rfl (fun f7 h8 k9 => ?_)
  refine G_iconst hX d_Sg_make_15 ?_
  refine G_istore_n hX (lv' := [(3, .int (zI 0)), (0, .ref (eA E 14)), (1, .ref (eA E 2)), (2, .int (zI b))]) rfl (by decide) rfl d_Sg_make_16 ?_
  have loop10 : ∀ (q : Nat) (kt : Int) (x : Int) (W1 : Nat → Int64) (F1 : Nat → Int64) (L1 : Nat → Int64) (s1 : Nat → Int32) (w1 : Nat → Int32) (z0 : Int32) (z1 : Int32) (z2 : Int32) (z3 : Int32) (f11 : Nat → va_E), (c - x).toNat < q → (0 ≤ kt ∧ 0 ≤ x ∧ x ≤ c) → (x = kt * b) → (sgOf g b kt W1 F1 L1) → f11 14 = ob 7 [.ref (eA E 15), .ref (eA E 18), .ref (eA E 19), .ref (eA E 20), .ref (eA E 21), .int (zI 1), .int (zI b), .int (zI kt)] → f11 18 = la E 75 W1 → f11 19 = la E 75 F1 → f11 20 = la E 75 L1 → f11 16 = ia E 4 s1 → f11 17 = ia E 16 w1 → f11 21 = ob 8 [.int z0, .int z1, .int z2, .int z3] → Fr [14, 16, 17, 18, 19, 20, 21] f7 f11 → G E X 0 0 17 [(0, .ref (eA E 14)), (1, .ref (eA E 2)), (2, .int (zI b)), (3, .int (zI x))] [] (wl E f11) := by
    intro q
    induction q with
    | zero => intro kt x W1 F1 L1 s1 w1 z0 z1 z2 z3 f11 hms13; exact absurd hms13 (Nat.not_lt_zero _)
    | succ q ih14 =>
      intro kt x W1 F1 L1 s1 w1 z0 z1 z2 z3 f11 hms13 hk hx hO h15 h16 h17 h18 h19 h20 h21 k12
      refine G_iload_n hX 3 rfl rfl d_Sg_make_17 ?_
      refine G_iload_n hX 2 rfl rfl d_Sg_make_18 ?_
      refine G_iadd_z hX d_Sg_make_19 ?_
      refine G_aload_n hX 1 rfl rfl d_Sg_make_20 ?_
      have h22 : f11 2 = ob 6 [.ref (eA E 3), .int (zI c)] := (k12 2 (by decide)).trans ((k9 2 (by decide)).trans ((k6 2 (by decide)).trans ((k3 2 (by decide)).trans hR.1)))
      refine F_get hX fg_Sg_46 d_Sg_make_21 2 (by decide) h22 rfl ?_
      refine G_icmp_gt_z hX (tgt := 118) d_Sg_make_24 rfl (by omega) (fun c23 => ?_) (fun c24 => ?_)
      · skip
        have h25 : f11 15 = ob 2 [.ref (eA E 16), .ref (eA E 17)] := (k12 15 (by decide)).trans ((k9 15 (by decide)).trans ((k6 15 (by decide)).trans ((k3 15 (by decide)).trans hD.1)))
        have ek : kt = c / b := by
          have h9 : c / b = kt := by
            apply Int.le_antisymm
            · have h1 : (kt + 1) * b = kt * b + b := by grind
              have h2 : c / b < kt + 1 := Int.ediv_lt_of_lt_mul (by omega) (by omega)
              omega
            · exact Int.le_ediv_of_mul_le (by omega) (by omega)
          exact h9.symm
        rw [← ek] at hE
        exact F_vret hX hE d_Sg_make_118 ⟨rfl, ⟨_, _, _, _, _, _, _, _, _, ⟨h15, h16, h17, h18⟩, hO, ⟨h25, h19, h20⟩, h21⟩, (Fr.tr (Fr.tr (Fr.tr (Fr.tr Fr.rf k3 (by decide)) k6 (by decide)) k9 (by decide)) k12 (by decide))⟩
      · skip
        have hm4 : kt * 4 ≤ kt * b := Int.mul_le_mul_of_nonneg_left (by omega) (by omega)
        refine G_aload_n hX 0 rfl rfl d_Sg_make_27 ?_
        refine F_get hX fg_Sg_31 d_Sg_make_28 14 (by decide) h15 rfl ?_
        refine G_aload_n hX 1 rfl rfl d_Sg_make_31 ?_
        refine F_get hX fg_Sg_49 d_Sg_make_32 2 (by decide) h22 rfl ?_
        refine G_iload_n hX 3 rfl rfl d_Sg_make_35 ?_
        refine G_iload_n hX 2 rfl rfl d_Sg_make_36 ?_
        have h26 : f11 3 = iz E 300 g := (k12 3 (by decide)).trans ((k9 3 (by decide)).trans ((k6 3 (by decide)).trans ((k3 3 (by decide)).trans hR.2)))
        refine F_callV hX (st := []) (c_Ws_take E f11 21 3 300 g z0 z1 z2 z3 x b (by decide) (by decide) (by decide) h21 h26 (by omega)) cm_Ws_take im_Ws_take se_Ws_take rfl ml_Sg_53 d_Sg_make_37 (by decide) h21 rfl rfl (Nat.le_of_ble_eq_true rfl) (by decide) ?_
        rintro _ f27 ⟨rfl, h30, k31⟩
        refine G_cast (st' := []) ?_ rfl rfl rfl rfl
        refine G_aload_n hX 0 rfl rfl d_Sg_make_40 ?_
        have h32 : f27 14 = ob 7 [.ref (eA E 15), .ref (eA E 18), .ref (eA E 19), .ref (eA E 20), .ref (eA E 21), .int (zI 1), .int (zI b), .int (zI kt)] := (k31 14 (by decide)).trans h15
        refine F_get hX fg_Sg_12 d_Sg_make_41 14 (by decide) h32 rfl ?_
        refine G_aload_n hX 1 rfl rfl d_Sg_make_44 ?_
        have h33 : f27 2 = ob 6 [.ref (eA E 3), .int (zI c)] := (k31 2 (by decide)).trans h22
        refine F_get hX fg_Sg_49 d_Sg_make_45 2 (by decide) h33 rfl ?_
        refine G_iload_n hX 3 rfl rfl d_Sg_make_48 ?_
        refine G_iload_n hX 2 rfl rfl d_Sg_make_49 ?_
        have h34 : f27 15 = ob 2 [.ref (eA E 16), .ref (eA E 17)] := (k31 15 (by decide)).trans ((k12 15 (by decide)).trans ((k9 15 (by decide)).trans ((k6 15 (by decide)).trans ((k3 15 (by decide)).trans hD.1))))
        have h35 : f27 16 = ia E 4 s1 := (k31 16 (by decide)).trans h19
        have h36 : f27 17 = ia E 16 w1 := (k31 17 (by decide)).trans h20
        have h37 : f27 3 = iz E 300 g := (k31 3 (by decide)).trans h26
        refine F_callV hX (st := []) (c_Dg_take E f27 15 16 17 s1 w1 3 300 g x b (by decide) (by decide) (by decide) (by decide) (by decide) (by decide) (by decide) (by decide) (by decide) (by decide) ⟨h34, h35, h36⟩ h37 (by omega)) cm_Dg_take im_Dg_take se_Dg_take rfl ml_Sg_57 d_Sg_make_50 (by decide) h34 rfl rfl (Nat.le_of_ble_eq_true rfl) (by decide) ?_
        rintro _ f38 ⟨rfl, ⟨wd41, h42, h43, h44⟩, k45⟩
        refine G_cast (st' := []) ?_ rfl rfl rfl rfl
        refine G_aload_n hX 0 rfl rfl d_Sg_make_53 ?_
        have h46 : f38 14 = ob 7 [.ref (eA E 15), .ref (eA E 18), .ref (eA E 19), .ref (eA E 20), .ref (eA E 21), .int (zI 1), .int (zI b), .int (zI kt)] := (k45 14 (by decide)).trans h32
        refine F_get hX fg_Sg_18 d_Sg_make_54 14 (by decide) h46 rfl ?_
        refine G_aload_n hX 0 rfl rfl d_Sg_make_57 ?_
        refine F_get hX fg_Sg_35 d_Sg_make_58 14 (by decide) h46 rfl ?_
        refine G_aload_n hX 0 rfl rfl d_Sg_make_61 ?_
        refine F_get hX fg_Sg_31 d_Sg_make_62 14 (by decide) h46 rfl ?_
        have h47 : f38 21 = ob 8 [.int (zI x), .int (zI b), .int (zI (sP g x (b).toNat)), .int (zI (sW g x b (b).toNat))] := (k45 21 (by decide)).trans h30
        refine F_callV hX (st := [.int (zI kt), .ref (eA E 18)]) (c_Ws_value E f38 21 x b (sP g x (b).toNat) (sW g x b (b).toNat) (by decide) h47) cm_Ws_value im_Ws_value se_Ws_value rfl ml_Sg_58 d_Sg_make_65 (by decide) h47 rfl rfl (Nat.le_of_ble_eq_true rfl) (by decide) ?_
        rintro _ f48 ⟨rfl, e51⟩
        obtain rfl := e51.symm
        refine G_cast (st' := [.long (zL (65536 * ((sW g x b (b).toNat) % 65536) + (sP g x (b).toNat) % 65536)), .int (zI kt), .ref (eA E 18)]) ?_ rfl rfl rfl rfl
        have h52 : f38 18 = la E 75 W1 := (k45 18 (by decide)).trans ((k31 18 (by decide)).trans h16)
        refine F_last hX d_Sg_make_68 18 (by decide) h52 (by omega) (fun f53 h54 k55 => ?_)
        refine G_aload_n hX 0 rfl rfl d_Sg_make_69 ?_
        have h56 : f53 14 = ob 7 [.ref (eA E 15), .ref (eA E 18), .ref (eA E 19), .ref (eA E 20), .ref (eA E 21), .int (zI 1), .int (zI b), .int (zI kt)] := (k55 14 (by decide)).trans h46
        refine F_get hX fg_Sg_22 d_Sg_make_70 14 (by decide) h56 rfl ?_
        refine G_aload_n hX 0 rfl rfl d_Sg_make_73 ?_
        refine F_get hX fg_Sg_35 d_Sg_make_74 14 (by decide) h56 rfl ?_
        refine G_aload_n hX 0 rfl rfl d_Sg_make_77 ?_
        refine F_get hX fg_Sg_12 d_Sg_make_78 14 (by decide) h56 rfl ?_
        have h57 : f53 15 = ob 2 [.ref (eA E 16), .ref (eA E 17)] := (k55 15 (by decide)).trans h42
        have h58 : f53 16 = ia E 4 (m4 (m5D g x b)) := (k55 16 (by decide)).trans h43
        have h59 : f53 17 = ia E 16 wd41 := (k55 17 (by decide)).trans h44
        refine F_callV hX (st := [.int (zI kt), .ref (eA E 19)]) (c_Dg_firstHalf E f53 15 16 17 (m5D g x b) wd41 (by decide) (by decide) (by decide) (by decide) (by decide) (by decide) ⟨h57, h58, h59⟩) cm_Dg_firstHalf im_Dg_firstHalf se_Dg_firstHalf rfl ml_Sg_62 d_Sg_make_81 (by decide) h57 rfl rfl (Nat.le_of_ble_eq_true rfl) (by decide) ?_
        rintro _ f60 ⟨rfl, e63⟩
        obtain rfl := e63.symm
        refine G_cast (st' := [.long (hfF (m5D g x b).1 (m5D g x b).2.1), .int (zI kt), .ref (eA E 19)]) ?_ rfl rfl rfl rfl
        have h64 : f53 19 = la E 75 F1 := (k55 19 (by decide)).trans ((k45 19 (by decide)).trans ((k31 19 (by decide)).trans h17))
        refine F_last hX d_Sg_make_84 19 (by decide) h64 (by omega) (fun f65 h66 k67 => ?_)
        refine G_aload_n hX 0 rfl rfl d_Sg_make_85 ?_
        have h68 : f65 14 = ob 7 [.ref (eA E 15), .ref (eA E 18), .ref (eA E 19), .ref (eA E 20), .ref (eA E 21), .int (zI 1), .int (zI b), .int (zI kt)] := (k67 14 (by decide)).trans h56
        refine F_get hX fg_Sg_25 d_Sg_make_86 14 (by decide) h68 rfl ?_
        refine G_aload_n hX 0 rfl rfl d_Sg_make_89 ?_
        refine F_get hX fg_Sg_35 d_Sg_make_90 14 (by decide) h68 rfl ?_
        refine G_aload_n hX 0 rfl rfl d_Sg_make_93 ?_
        refine F_get hX fg_Sg_12 d_Sg_make_94 14 (by decide) h68 rfl ?_
        have h69 : f65 15 = ob 2 [.ref (eA E 16), .ref (eA E 17)] := (k67 15 (by decide)).trans h57
        have h70 : f65 16 = ia E 4 (m4 (m5D g x b)) := (k67 16 (by decide)).trans h58
        have h71 : f65 17 = ia E 16 wd41 := (k67 17 (by decide)).trans h59
        refine F_callV hX (st := [.int (zI kt), .ref (eA E 20)]) (c_Dg_lastHalf E f65 15 16 17 (m5D g x b) wd41 (by decide) (by decide) (by decide) (by decide) (by decide) (by decide) ⟨h69, h70, h71⟩) cm_Dg_lastHalf im_Dg_lastHalf se_Dg_lastHalf rfl ml_Sg_65 d_Sg_make_97 (by decide) h69 rfl rfl (Nat.le_of_ble_eq_true rfl) (by decide) ?_
        rintro _ f72 ⟨rfl, e75⟩
        obtain rfl := e75.symm
        refine G_cast (st' := [.long (hfF (m5D g x b).2.2.1 (m5D g x b).2.2.2), .int (zI kt), .ref (eA E 20)]) ?_ rfl rfl rfl rfl
        have h76 : f65 20 = la E 75 L1 := (k67 20 (by decide)).trans ((k55 20 (by decide)).trans ((k45 20 (by decide)).trans ((k31 20 (by decide)).trans h18)))
        refine F_last hX d_Sg_make_100 20 (by decide) h76 (by omega) (fun f77 h78 k79 => ?_)
        refine G_aload_n hX 0 rfl rfl d_Sg_make_101 ?_
        refine G_dup hX rfl d_Sg_make_102 ?_
        have h80 : f77 14 = ob 7 [.ref (eA E 15), .ref (eA E 18), .ref (eA E 19), .ref (eA E 20), .ref (eA E 21), .int (zI 1), .int (zI b), .int (zI kt)] := (k79 14 (by decide)).trans h68
        refine F_get hX fg_Sg_35 d_Sg_make_103 14 (by decide) h80 rfl ?_
        refine G_iconst hX d_Sg_make_106 ?_
        refine G_iadd_z hX d_Sg_make_107 ?_
        refine F_put hX fg_Sg_35 fp_Sg_7 d_Sg_make_108 14 (fs' := [.ref (eA E 15), .ref (eA E 18), .ref (eA E 19), .ref (eA E 20), .ref (eA E 21), .int (zI 1), .int (zI b), .int (zI (kt + 1))]) (by decide) h80 rfl rfl (Nat.le_of_ble_eq_true rfl) rfl (fun f81 h82 k83 => ?_)
        refine G_iload_n hX 3 rfl rfl d_Sg_make_111 ?_
        refine G_iload_n hX 2 rfl rfl d_Sg_make_112 ?_
        refine G_iadd_z hX d_Sg_make_113 ?_
        refine G_istore_n hX (lv' := [(3, .int (zI (x + b))), (0, .ref (eA E 14)), (1, .ref (eA E 2)), (2, .int (zI b))]) rfl (by decide) rfl d_Sg_make_114 ?_
        refine G_goto hX (tgt := 17) d_Sg_make_115 rfl ?_
        have h84 : f81 21 = ob 8 [.int (zI x), .int (zI b), .int (zI (sP g x (b).toNat)), .int (zI (sW g x b (b).toNat))] := (k83 21 (by decide)).trans ((k79 21 (by decide)).trans ((k67 21 (by decide)).trans ((k55 21 (by decide)).trans h47)))
        have h85 : f81 18 = la E 75 (vp_updL W1 (kt : Int).toNat (zL (65536 * ((sW g x b (b).toNat) % 65536) + (sP g x (b).toNat) % 65536))) := (k83 18 (by decide)).trans ((k79 18 (by decide)).trans ((k67 18 (by decide)).trans h54))
        have h86 : f81 19 = la E 75 (vp_updL F1 (kt : Int).toNat (hfF (m5D g x b).1 (m5D g x b).2.1)) := (k83 19 (by decide)).trans ((k79 19 (by decide)).trans h66)
        have h87 : f81 20 = la E 75 (vp_updL L1 (kt : Int).toNat (hfF (m5D g x b).2.2.1 (m5D g x b).2.2.2)) := (k83 20 (by decide)).trans h78
        have h88 : f81 16 = ia E 4 (m4 (m5D g x b)) := (k83 16 (by decide)).trans ((k79 16 (by decide)).trans h70)
        have h89 : f81 17 = ia E 16 wd41 := (k83 17 (by decide)).trans ((k79 17 (by decide)).trans h71)
        refine G_loc (lv' := [(0, .ref (eA E 14)), (1, .ref (eA E 2)), (2, .int (zI b)), (3, .int (zI (x + b)))]) [1, 2, 3, 0] rfl ?_
        exact ih14 (kt + 1) (x + b) (vp_updL W1 (kt : Int).toNat (zL (65536 * ((sW g x b (b).toNat) % 65536) + (sP g x (b).toNat) % 65536))) (vp_updL F1 (kt : Int).toNat (hfF (m5D g x b).1 (m5D g x b).2.1)) (vp_updL L1 (kt : Int).toNat (hfF (m5D g x b).2.2.1 (m5D g x b).2.2.2)) (m4 (m5D g x b)) wd41 (zI x) (zI b) (zI (sP g x (b).toNat)) (zI (sW g x b (b).toNat)) f81 (by omega) (by omega) (by rw [hx]; grind) (sgOf_s hO hk.1 hx) h82 h85 h86 h87 h88 h89 h84 (Fr.tr (Fr.tr (Fr.tr (Fr.tr (Fr.tr (Fr.tr (Fr.tr Fr.rf k12 (by decide)) k31 (by decide)) k45 (by decide)) k55 (by decide)) k67 (by decide)) k79 (by decide)) k83 (by decide))
  have h90 : f7 18 = la E 75 W := (k9 18 (by decide)).trans ((k6 18 (by decide)).trans ((k3 18 (by decide)).trans hS.2.1))
  have h91 : f7 19 = la E 75 F := (k9 19 (by decide)).trans ((k6 19 (by decide)).trans ((k3 19 (by decide)).trans hS.2.2.1))
  have h92 : f7 20 = la E 75 L := (k9 20 (by decide)).trans ((k6 20 (by decide)).trans ((k3 20 (by decide)).trans hS.2.2.2))
  have h93 : f7 16 = ia E 4 s0 := (k9 16 (by decide)).trans ((k6 16 (by decide)).trans ((k3 16 (by decide)).trans hD.2.1))
  have h94 : f7 17 = ia E 16 wd0 := (k9 17 (by decide)).trans ((k6 17 (by decide)).trans ((k3 17 (by decide)).trans hD.2.2))
  have h95 : f7 21 = ob 8 [.int y0, .int y1, .int y2, .int y3] := (k9 21 (by decide)).trans ((k6 21 (by decide)).trans ((k3 21 (by decide)).trans hW))
  refine G_loc (lv' := [(0, .ref (eA E 14)), (1, .ref (eA E 2)), (2, .int (zI b)), (3, .int (zI 0))]) [1, 2, 3, 0] rfl ?_
  exact loop10 (_ + 1) 0 0 W F L s0 wd0 y0 y1 y2 y3 f7 (Nat.lt_succ_self _) (by omega) (by simp) (fun k h1 h2 => by omega) h8 h90 h91 h92 h93 h94 h95 Fr.rf
theorem c_Sg_findAt (E : EV) (f : Nat → va_E) (W F L : Nat → Int64) (md bl ct : Int) (s0 wd0 : Nat → Int32) (a0 n0 pl wt : Int) (g : Int → Int) (c p : Int) (hS : isSg E f W F L md bl ct) (hD : isD E f 15 16 17 s0 wd0) (hW : f 13 = ob 8 [.int (zI a0), .int (zI n0), .int (zI pl), .int (zI wt)]) (hr : n0 = 0 ∨ (-10 ≤ a0 ∧ a0 ≤ 2000 ∧ 0 ≤ n0 ∧ n0 ≤ 2000)) (hv : n0 = 0 ∨ (0 ≤ a0 ∧ pl = sP g a0 n0.toNat ∧ wt = sW g a0 n0 n0.toNat)) (hR : isR E f 4 5 300 g c) (hc : 0 ≤ c ∧ c ≤ 300 ∧ 0 ≤ p ∧ p < c) (hb : 4 ≤ bl ∧ bl ≤ 64 ∧ 0 ≤ ct ∧ ct ≤ 75) : CF yn_Sg_findAt cd_Sg_findAt 8 (some (.int)) 3 E [.ref (eA E 14), .ref (eA E 4), .int (zI p), .ref (eA E 13)] f (fun r f' => r = some (.int (zI (if p + bl ≤ c then fdF W F L g bl ct p else -1))) ∧ (∃ s' wd' a1 n1 p1 q1, isD E f' 15 16 17 s' wd' ∧ f' 13 = ob 8 [.int (zI a1), .int (zI n1), .int (zI p1), .int (zI q1)] ∧ (n1 = 0 ∨ (-10 ≤ a1 ∧ a1 ≤ 2000 ∧ 0 ≤ n1 ∧ n1 ≤ 2000)) ∧ (n1 = 0 ∨ (0 ≤ a1 ∧ p1 = sP g a1 n1.toNat ∧ q1 = sW g a1 n1 n1.toNat))) ∧ Fr [13, 16, 17] f f') := by
  refine CF.of (by decide +kernel) (Nat.le_of_ble_eq_true rfl) fun X hX hE => ?_
  have hX : Ok E X "DeltaFerry$Signature" "findAt" cd_Sg_findAt 8 (some (.int)) (rl 3) := hX
  refine G_cast (lv' := [(0, .ref (eA E 14)), (1, .ref (eA E 4)), (2, .int (zI p)), (3, .ref (eA E 13))]) ?_ rfl rfl rfl rfl
  refine G_iload_n hX 2 rfl rfl d_Sg_findAt_0 ?_
  refine G_aload_n hX 0 rfl rfl d_Sg_findAt_1 ?_
  refine F_get hX fg_Sg_39 d_Sg_findAt_2 14 (by decide) hS.1 rfl ?_
  refine G_iadd_z hX d_Sg_findAt_5 ?_
  refine G_aload_n hX 1 rfl rfl d_Sg_findAt_6 ?_
  refine F_get hX fg_Sg_46 d_Sg_findAt_7 4 (by decide) hR.1 rfl ?_
  refine G_icmp_le_z hX (tgt := 15) d_Sg_findAt_10 rfl (by omega) (fun c1 => ?_) (fun c2 => ?_)
  · skip
    refine G_aload_n hX 3 rfl rfl d_Sg_findAt_15 ?_
    refine G_aload_n hX 1 rfl rfl d_Sg_findAt_16 ?_
    refine F_get hX fg_Sg_49 d_Sg_findAt_17 4 (by decide) hR.1 rfl ?_
    refine G_iload_n hX 2 rfl rfl d_Sg_findAt_20 ?_
    refine G_aload_n hX 0 rfl rfl d_Sg_findAt_21 ?_
    refine F_get hX fg_Sg_39 d_Sg_findAt_22 14 (by decide) hS.1 rfl ?_
    refine F_callV hX (st := []) (c_Ws_moveTo E f 13 5 300 g a0 n0 pl wt p bl (by decide) (by decide) (by decide) hW hR.2 (by omega) (by omega) hv) cm_Ws_moveTo im_Ws_moveTo se_Ws_moveTo rfl ml_Sg_68 d_Sg_findAt_25 (by decide) hW rfl rfl (Nat.le_of_ble_eq_true rfl) (by decide) ?_
    rintro _ f3 ⟨rfl, h6, k7⟩
    refine G_cast (st' := []) ?_ rfl rfl rfl rfl
    refine G_aload_n hX 3 rfl rfl d_Sg_findAt_28 ?_
    refine F_callV hX (st := []) (c_Ws_value E f3 13 p bl (sP g p (bl).toNat) (sW g p bl (bl).toNat) (by decide) h6) cm_Ws_value im_Ws_value se_Ws_value rfl ml_Sg_58 d_Sg_findAt_29 (by decide) h6 rfl rfl (Nat.le_of_ble_eq_true rfl) (by decide) ?_
    rintro _ f8 ⟨rfl, e11⟩
    obtain rfl := e11.symm
    refine G_cast (st' := [.long (zL (65536 * ((sW g p bl (bl).toNat) % 65536) + (sP g p (bl).toNat) % 65536))]) ?_ rfl rfl rfl rfl
    refine G_topl (show zL (65536 * ((sW g p bl (bl).toNat) % 65536) + (sP g p (bl).toNat) % 65536) = zL (wkV g p bl) from rfl) ?_
    refine G_lstore hX (lv' := [(4, .long (zL (wkV g p bl))), (0, .ref (eA E 14)), (1, .ref (eA E 4)), (2, .int (zI p)), (3, .ref (eA E 13))]) (by decide) rfl d_Sg_findAt_32 ?_
    refine G_iconst hX d_Sg_findAt_34 ?_
    refine G_istore hX (lv' := [(6, .int (zI 0)), (4, .long (zL (wkV g p bl))), (0, .ref (eA E 14)), (1, .ref (eA E 4)), (2, .int (zI p)), (3, .ref (eA E 13))]) (by decide) rfl d_Sg_findAt_35 ?_
    refine G_iconst hX d_Sg_findAt_37 ?_
    refine G_istore hX (lv' := [(7, .int (zI 0)), (6, .int (zI 0)), (4, .long (zL (wkV g p bl))), (0, .ref (eA E 14)), (1, .ref (eA E 4)), (2, .int (zI p)), (3, .ref (eA E 13))]) (by decide) rfl d_Sg_findAt_38 ?_
    have loop12 : ∀ (q : Nat) (t : Int) (dg : Int) (s1 : Nat → Int32) (w1 : Nat → Int32) (f13 : Nat → va_E), (ct - t).toNat < q → (0 ≤ t ∧ t ≤ ct) → (dg = 0 ∨ dg = 1) → (dg = 1 → s1 = m4 (m5D g p bl)) → (fdF W F L g bl ct p = fdL W F L (zL (wkV g p bl)) (dgA g p bl) (dgB g p bl) (ct - t).toNat t) → f13 16 = ia E 4 s1 → f13 17 = ia E 16 w1 → Fr [16, 17] f3 f13 → G E X 0 0 40 [(0, .ref (eA E 14)), (1, .ref (eA E 4)), (2, .int (zI p)), (4, .long (zL (wkV g p bl))), (6, .int (zI dg)), (7, .int (zI t))] [] (wl E f13) := by
      intro q
      induction q with
      | zero => intro t dg s1 w1 f13 hms15; exact absurd hms15 (Nat.not_lt_zero _)
      | succ q ih16 =>
        intro t dg s1 w1 f13 hms15 ht hdg hd1 hs h17 h18 k14
        refine G_iload hX 5 rfl d_Sg_findAt_40 ?_
        refine G_aload_n hX 0 rfl rfl d_Sg_findAt_42 ?_
        have h19 : f13 14 = ob 7 [.ref (eA E 15), .ref (eA E 18), .ref (eA E 19), .ref (eA E 20), .ref (eA E 21), .int (zI md), .int (zI bl), .int (zI ct)] := (k14 14 (by decide)).trans ((k7 14 (by decide)).trans hS.1)
        refine F_get hX fg_Sg_35 d_Sg_findAt_43 14 (by decide) h19 rfl ?_
        refine G_icmp_ge_z hX (tgt := 131) d_Sg_findAt_46 rfl (by omega) (fun c20 => ?_) (fun c21 => ?_)
        · skip
          refine G_iconst hX d_Sg_findAt_131 ?_
          have h22 : f13 13 = ob 8 [.int (zI p), .int (zI bl), .int (zI (sP g p (bl).toNat)), .int (zI (sW g p bl (bl).toNat))] := (k14 13 (by decide)).trans h6
          have h23 : f13 15 = ob 2 [.ref (eA E 16), .ref (eA E 17)] := (k14 15 (by decide)).trans ((k7 15 (by decide)).trans hD.1)
          have hh : fdF W F L g bl ct p = -1 := hs.trans (fdL_end (by omega))
          exact F_iret hX hE d_Sg_findAt_132 ⟨by rw [if_pos (by omega), hh], ⟨_, _, _, _, _, _, ⟨h23, h17, h18⟩, h22, Or.inr ⟨by omega, by omega, by omega, by omega⟩, Or.inr ⟨by omega, rfl, rfl⟩⟩, (Fr.tr (Fr.tr Fr.rf k7 (by decide)) k14 (by decide))⟩
        · skip
          refine G_aload_n hX 0 rfl rfl d_Sg_findAt_49 ?_
          refine F_get hX fg_Sg_18 d_Sg_findAt_50 14 (by decide) h19 rfl ?_
          refine G_iload hX 5 rfl d_Sg_findAt_53 ?_
          have h24 : f13 18 = la E 75 W := (k14 18 (by decide)).trans ((k7 18 (by decide)).trans hS.2.1)
          refine F_lald hX d_Sg_findAt_55 18 (by decide) h24 (by omega) ?_
          refine G_lload hX 3 rfl d_Sg_findAt_56 ?_
          refine G_lcmp hX d_Sg_findAt_58 ?_
          refine G_if_ne hX (tgt := 125) d_Sg_findAt_59 rfl (fun c25 => ?_) (fun c26 => ?_)
          · have hwk := c25
            refine G_iinc_z hX (lv' := [(7, .int (zI (t + 1))), (0, .ref (eA E 14)), (1, .ref (eA E 4)), (2, .int (zI p)), (4, .long (zL (wkV g p bl))), (6, .int (zI dg))]) 5 rfl (by decide) rfl d_Sg_findAt_125 ?_
            refine G_goto hX (tgt := 40) d_Sg_findAt_128 rfl ?_
            refine G_loc (lv' := [(0, .ref (eA E 14)), (1, .ref (eA E 4)), (2, .int (zI p)), (4, .long (zL (wkV g p bl))), (6, .int (zI dg)), (7, .int (zI (t + 1)))]) [1, 2, 3, 4, 5, 0] rfl ?_
            exact ih16 (t + 1) dg s1 w1 f13 (by omega) (by omega) hdg hd1 (hs.trans (fdL_go (by omega) (fun q => hwk ((lg_cmp_eq _ _).mpr q.1)))) h17 h18 (Fr.tr Fr.rf k14 (by decide))
          · have hwk := c26
            have join27 : ∀ (w2 : Nat → Int32) (f28 : Nat → va_E), f28 16 = ia E 4 (m4 (m5D g p bl)) → f28 17 = ia E 16 w2 → Fr [16, 17] f13 f28 → G E X 0 0 86 [(0, .ref (eA E 14)), (1, .ref (eA E 4)), (2, .int (zI p)), (4, .long (zL (wkV g p bl))), (6, .int (zI 1)), (7, .int (zI t))] [] (wl E f28) := by
              intro w2 f28 h30 h31 k29
              refine G_aload_n hX 0 rfl rfl d_Sg_findAt_86 ?_
              have h32 : f28 14 = ob 7 [.ref (eA E 15), .ref (eA E 18), .ref (eA E 19), .ref (eA E 20), .ref (eA E 21), .int (zI md), .int (zI bl), .int (zI ct)] := (k29 14 (by decide)).trans h19
              refine F_get hX fg_Sg_22 d_Sg_findAt_87 14 (by decide) h32 rfl ?_
              refine G_iload hX 5 rfl d_Sg_findAt_90 ?_
              have h33 : f28 19 = la E 75 F := (k29 19 (by decide)).trans ((k14 19 (by decide)).trans ((k7 19 (by decide)).trans hS.2.2.1))
              refine F_lald hX d_Sg_findAt_92 19 (by decide) h33 (by omega) ?_
              refine G_aload_n hX 0 rfl rfl d_Sg_findAt_93 ?_
              refine F_get hX fg_Sg_12 d_Sg_findAt_94 14 (by decide) h32 rfl ?_
              have h34 : f28 15 = ob 2 [.ref (eA E 16), .ref (eA E 17)] := (k29 15 (by decide)).trans ((k14 15 (by decide)).trans ((k7 15 (by decide)).trans hD.1))
              refine F_callV hX (st := [.long (F (t : Int).toNat)]) (c_Dg_firstHalf E f28 15 16 17 (m5D g p bl) w2 (by decide) (by decide) (by decide) (by decide) (by decide) (by decide) ⟨h34, h30, h31⟩) cm_Dg_firstHalf im_Dg_firstHalf se_Dg_firstHalf rfl ml_Sg_62 d_Sg_findAt_97 (by decide) h34 rfl rfl (Nat.le_of_ble_eq_true rfl) (by decide) ?_
              rintro _ f35 ⟨rfl, e38⟩
              obtain rfl := e38.symm
              refine G_cast (st' := [.long (hfF (m5D g p bl).1 (m5D g p bl).2.1), .long (F (t : Int).toNat)]) ?_ rfl rfl rfl rfl
              refine G_topl (show (hfF (m5D g p bl).1 (m5D g p bl).2.1) = (dgA g p bl) from rfl) ?_
              refine G_lcmp hX d_Sg_findAt_100 ?_
              refine G_if_ne hX (tgt := 125) d_Sg_findAt_101 rfl (fun c39 => ?_) (fun c40 => ?_)
              · have hF := c39
                refine G_iinc_z hX (lv' := [(7, .int (zI (t + 1))), (0, .ref (eA E 14)), (1, .ref (eA E 4)), (2, .int (zI p)), (4, .long (zL (wkV g p bl))), (6, .int (zI 1))]) 5 rfl (by decide) rfl d_Sg_findAt_125 ?_
                refine G_goto hX (tgt := 40) d_Sg_findAt_128 rfl ?_
                refine G_loc (lv' := [(0, .ref (eA E 14)), (1, .ref (eA E 4)), (2, .int (zI p)), (4, .long (zL (wkV g p bl))), (6, .int (zI 1)), (7, .int (zI (t + 1)))]) [1, 2, 3, 4, 5, 0] rfl ?_
                exact ih16 (t + 1) 1 (m4 (m5D g p bl)) w2 f28 (by omega) (by omega) (by omega) (fun _ => rfl) (hs.trans (fdL_go (by omega) (fun q => hF ((lg_cmp_eq _ _).mpr q.2.1)))) h30 h31 (Fr.tr (Fr.tr Fr.rf k14 (by decide)) k29 (by decide))
              · have hF := c40
                refine G_aload_n hX 0 rfl rfl d_Sg_findAt_104 ?_
                refine F_get hX fg_Sg_25 d_Sg_findAt_105 14 (by decide) h32 rfl ?_
                refine G_iload hX 5 rfl d_Sg_findAt_108 ?_
                have h41 : f28 20 = la E 75 L := (k29 20 (by decide)).trans ((k14 20 (by decide)).trans ((k7 20 (by decide)).trans hS.2.2.2))
                refine F_lald hX d_Sg_findAt_110 20 (by decide) h41 (by omega) ?_
                refine G_aload_n hX 0 rfl rfl d_Sg_findAt_111 ?_
                refine F_get hX fg_Sg_12 d_Sg_findAt_112 14 (by decide) h32 rfl ?_
                refine F_callV hX (st := [.long (L (t : Int).toNat)]) (c_Dg_lastHalf E f28 15 16 17 (m5D g p bl) w2 (by decide) (by decide) (by decide) (by decide) (by decide) (by decide) ⟨h34, h30, h31⟩) cm_Dg_lastHalf im_Dg_lastHalf se_Dg_lastHalf rfl ml_Sg_65 d_Sg_findAt_115 (by decide) h34 rfl rfl (Nat.le_of_ble_eq_true rfl) (by decide) ?_
                rintro _ f42 ⟨rfl, e45⟩
                obtain rfl := e45.symm
                refine G_cast (st' := [.long (hfF (m5D g p bl).2.2.1 (m5D g p bl).2.2.2), .long (L (t : Int).toNat)]) ?_ rfl rfl rfl rfl
                refine G_topl (show (hfF (m5D g p bl).2.2.1 (m5D g p bl).2.2.2) = (dgB g p bl) from rfl) ?_
                refine G_lcmp hX d_Sg_findAt_118 ?_
                refine G_if_ne hX (tgt := 125) d_Sg_findAt_119 rfl (fun c46 => ?_) (fun c47 => ?_)
                · have hL := c46
                  refine G_iinc_z hX (lv' := [(7, .int (zI (t + 1))), (0, .ref (eA E 14)), (1, .ref (eA E 4)), (2, .int (zI p)), (4, .long (zL (wkV g p bl))), (6, .int (zI 1))]) 5 rfl (by decide) rfl d_Sg_findAt_125 ?_
                  refine G_goto hX (tgt := 40) d_Sg_findAt_128 rfl ?_
                  refine G_loc (lv' := [(0, .ref (eA E 14)), (1, .ref (eA E 4)), (2, .int (zI p)), (4, .long (zL (wkV g p bl))), (6, .int (zI 1)), (7, .int (zI (t + 1)))]) [1, 2, 3, 4, 5, 0] rfl ?_
                  exact ih16 (t + 1) 1 (m4 (m5D g p bl)) w2 f28 (by omega) (by omega) (by omega) (fun _ => rfl) (hs.trans (fdL_go (by omega) (fun q => hL ((lg_cmp_eq _ _).mpr q.2.2)))) h30 h31 (Fr.tr (Fr.tr Fr.rf k14 (by decide)) k29 (by decide))
                · have hL := c47
                  refine G_iload hX 5 rfl d_Sg_findAt_122 ?_
                  have h48 : f28 13 = ob 8 [.int (zI p), .int (zI bl), .int (zI (sP g p (bl).toNat)), .int (zI (sW g p bl (bl).toNat))] := (k29 13 (by decide)).trans ((k14 13 (by decide)).trans h6)
                  have hh : fdF W F L g bl ct p = t := hs.trans (fdL_hit (by omega) ⟨(lg_cmp_eq _ _).mp hwk, (lg_cmp_eq _ _).mp hF, (lg_cmp_eq _ _).mp hL⟩)
                  exact F_iret hX hE d_Sg_findAt_124 ⟨by rw [if_pos (by omega), hh], ⟨_, _, _, _, _, _, ⟨h34, h30, h31⟩, h48, Or.inr ⟨by omega, by omega, by omega, by omega⟩, Or.inr ⟨by omega, rfl, rfl⟩⟩, (Fr.tr (Fr.tr (Fr.tr Fr.rf k7 (by decide)) k14 (by decide)) k29 (by decide))⟩
            refine G_iload hX 4 rfl d_Sg_findAt_62 ?_
            refine G_if_ne_z hX (tgt := 86) d_Sg_findAt_64 rfl (by omega) (fun c49 => ?_) (fun c50 => ?_)
            · skip
              have e1 : dg = 1 := by omega
              have e2 := hd1 e1
              subst e1; subst e2
              exact join27 w1 f13   h17 h18 Fr.rf
            · skip
              refine G_aload_n hX 0 rfl rfl d_Sg_findAt_67 ?_
              refine F_get hX fg_Sg_12 d_Sg_findAt_68 14 (by decide) h19 rfl ?_
              refine G_aload_n hX 1 rfl rfl d_Sg_findAt_71 ?_
              have h51 : f13 4 = ob 6 [.ref (eA E 5), .int (zI c)] := (k14 4 (by decide)).trans ((k7 4 (by decide)).trans hR.1)
              refine F_get hX fg_Sg_49 d_Sg_findAt_72 4 (by decide) h51 rfl ?_
              refine G_iload_n hX 2 rfl rfl d_Sg_findAt_75 ?_
              refine G_aload_n hX 0 rfl rfl d_Sg_findAt_76 ?_
              refine F_get hX fg_Sg_39 d_Sg_findAt_77 14 (by decide) h19 rfl ?_
              have h52 : f13 15 = ob 2 [.ref (eA E 16), .ref (eA E 17)] := (k14 15 (by decide)).trans ((k7 15 (by decide)).trans hD.1)
              have h53 : f13 5 = iz E 300 g := (k14 5 (by decide)).trans ((k7 5 (by decide)).trans hR.2)
              refine F_callV hX (st := []) (c_Dg_take E f13 15 16 17 s1 w1 5 300 g p bl (by decide) (by decide) (by decide) (by decide) (by decide) (by decide) (by decide) (by decide) (by decide) (by decide) ⟨h52, h17, h18⟩ h53 (by omega)) cm_Dg_take im_Dg_take se_Dg_take rfl ml_Sg_57 d_Sg_findAt_80 (by decide) h52 rfl rfl (Nat.le_of_ble_eq_true rfl) (by decide) ?_
              rintro _ f54 ⟨rfl, ⟨wd57, h58, h59, h60⟩, k61⟩
              refine G_cast (st' := []) ?_ rfl rfl rfl rfl
              refine G_iconst hX d_Sg_findAt_83 ?_
              refine G_istore hX (lv' := [(6, .int (zI 1)), (0, .ref (eA E 14)), (1, .ref (eA E 4)), (2, .int (zI p)), (4, .long (zL (wkV g p bl))), (7, .int (zI t))]) (by decide) rfl d_Sg_findAt_84 ?_
              refine G_loc (lv' := [(0, .ref (eA E 14)), (1, .ref (eA E 4)), (2, .int (zI p)), (4, .long (zL (wkV g p bl))), (6, .int (zI 1)), (7, .int (zI t))]) [1, 2, 3, 4, 0, 5] rfl ?_
              exact join27 wd57 f54   h59 h60 (Fr.tr Fr.rf k61 (by decide))
    have h62 : f3 16 = ia E 4 s0 := (k7 16 (by decide)).trans hD.2.1
    have h63 : f3 17 = ia E 16 wd0 := (k7 17 (by decide)).trans hD.2.2
    refine G_loc (lv' := [(0, .ref (eA E 14)), (1, .ref (eA E 4)), (2, .int (zI p)), (4, .long (zL (wkV g p bl))), (6, .int (zI 0)), (7, .int (zI 0))]) [3, 4, 5, 2, 1, 0] rfl ?_
    exact loop12 (_ + 1) 0 0 s0 wd0 f3 (Nat.lt_succ_self _) (by omega) (by omega) (fun h => by omega) (by rw [Int.sub_zero]; rfl) h62 h63 Fr.rf
  · skip
    refine G_iconst hX d_Sg_findAt_13 ?_
    exact F_iret hX hE d_Sg_findAt_14 ⟨by rw [if_neg (by omega)], ⟨_, _, _, _, _, _, ⟨hD.1, hD.2.1, hD.2.2⟩, hW, hr, hv⟩, Fr.rf⟩
