/-! DeltaFerry$Reader: a delta's beginning, its table; DeltaFerry.decode; printed by wip/tools/m_rd2.py -/
def tbB (t : Int → Int) : Bool := (List.range 512).all fun k => decide (t (k : Int) ≤ 3)
theorem tbB_t {t : Int → Int} (h : tbB t = true) : ∀ k : Int, 0 ≤ k → k < 512 → t k ≤ 3 := by
  intro k h0 h1
  unfold tbB at h
  rw [List.all_eq_true] at h
  have h2 := of_decide_eq_true (h k.toNat (List.mem_range.mpr (by omega)))
  rwa [Int.toNat_of_nonneg h0] at h2
theorem tbB_i {t : Int → Int} (h : ∀ k : Int, 0 ≤ k → k < 512 → t k ≤ 3) : tbB t = true := by
  unfold tbB
  rw [List.all_eq_true]
  intro k hk
  have := List.mem_range.mp hk
  exact decide_eq_true (h k (by omega) (by omega))
section DC
variable (g : Int → Int) (e : Int) (st : Int → Int)
/-- the table's bytes: how many, and the place -/
def tN : Int × Int := numL g e 4 5 0
def tE : Int := (tN g e).2 + (tN g e).1
def tR (mT : Int → Int) : Int × (Int → Int) × Int := rdW g st st 4 3 1536 1536 (tE g e) 700 ((tN g e).2 + 7) mT 0
def tA (mT : Int → Int) : Int :=
  if (tN g e).1 < 2 ∨ e - (tN g e).2 < (tN g e).1 then -2 else
  if 8 < g (tN g e).2 ∨ 4 < g ((tN g e).2 + 1) ∨ ¬ rbV g ((tN g e).2 + 2) (tE g e) = 0 then -5 else
  if (tR g e st mT).1 = 0 ∧ (tR g e st mT).2.2 = 1536 ∧ tbB (tR g e st mT).2.1 = true then 0 else -5
def dcF (old : Int → Int) (oc : Int) (mR mT : Int → Int) : Int × (Int → Int) × Int :=
  if rbV g 0 e = 0 then rdW g st old 4 3 oc 300 e 700 5 mR 0 else
  if rbV g 0 e = 2 then (if tA g e st mT = 0 then rdW g (tR g e st mT).2.1 old (g (tN g e).2) (g ((tN g e).2 + 1)) oc 300 e 700 (tE g e) mR 0 else (tA g e st mT, mR, 0)) else
  if 0 < rbV g 0 e ∧ ¬ rbV g 0 e % 2 = 0 then (-3, mR, 0) else (-2, mR, 0)
end DC
def rdS (E : EV) (f : Nat → va_E) : Prop := ∃ (x1 x2 x3 : Int32) (v4 v5 v6 v7 v8 : Value) (y1 y2 : Int32), f 44 = ob 5 [.ref (eA E 45), .ref (eA E 47), .ref (eA E 49), .ref (eA E 51), .ref (eA E 52), .ref (eA E 53), .int x1, .int x2, .int x3, v4, v5, v6, v7, v8, .int y1, .int y2]
def roS (E : EV) (f : Nat → va_E) (i j n : Nat) : Prop := ∃ (m : Int → Int) (c : Int), isR E f i j n m c ∧ isB m ∧ 0 ≤ c ∧ c ≤ n
/-- what a reader holds between two calls -/
def rdI (E : EV) (f : Nat → va_E) (st : Int → Int) : Prop := rdS E f ∧ cuS E f 51 ∧ cuS E f 52 ∧ wdS E f ∧ roS E f 45 46 300 ∧ roS E f 47 48 1536 ∧ isR E f 49 50 1536 st 1536
theorem rdW_b {g t old : Int → Int} {N S oc nm e : Int} (hB : isB g) (he : e ≤ 700) : ∀ (k : Nat) (p : Int) (m : Int → Int) (c : Int), 0 ≤ p → p ≤ e → 0 ≤ c → c ≤ nm → 0 ≤ (rdW g t old N S oc nm e k p m c).2.2 ∧ (rdW g t old N S oc nm e k p m c).2.2 ≤ nm ∧ -6 ≤ (rdW g t old N S oc nm e k p m c).1 ∧ (rdW g t old N S oc nm e k p m c).1 ≤ 0 := by
  intro k
  induction k with
  | zero => intro p m c _ _ h1 h2; exact ⟨h1, h2, by show -6 ≤ (0 : Int); decide, Int.le_refl 0⟩
  | succ k ih =>
    intro p m c h1 h2 h3 h4
    have hb := hdA_b g p e c oc nm
    have hmb := mkE_b (hdK g p e c) (mkF (hdK g p e c) g t old N S m)
    simp only [rdW]
    by_cases c1 : p < e
    · rw [if_pos c1]
      by_cases c2 : hdA g p e c oc nm = 0
      · rw [if_neg (fun q => q c2)]
        have hk := hdK_ok hB ⟨h1, h2, he⟩ c2
        by_cases c3 : mkE (hdK g p e c) (mkF (hdK g p e c) g t old N S m) = 0
        · rw [if_neg (fun q => q c3)]
          exact ih _ _ _ (by omega) (by omega) (by omega) (by omega)
        · rw [if_pos c3]; dsimp only; omega
      · rw [if_pos c2]; dsimp only; omega
    · rw [if_neg c1]; dsimp only; omega
theorem c_Rd_readBeginning51 (E : EV) (f : Nat → va_E) (g : Int → Int) (p e : Int) (hg : f 7 = iz E 700 g) (hB : isB g) (hC : isC E f 51 7 p e) (hb : 0 ≤ p ∧ p ≤ e ∧ e ≤ 700) : CF yn_Rd_readBeginning cd_Rd_readBeginning 2 (some (.int)) 1 E [.ref (eA E 51)] f (fun r f' => r = some (.int (zI (rbV g p e))) ∧ (∃ p2, isC E f' 51 7 p2 e ∧ (0 ≤ p2 ∧ p2 ≤ e) ∧ (0 ≤ rbV g p e → p2 = p + 5)) ∧ Fr [51] f f') := by
  refine CF.of (by decide +kernel) (Nat.le_of_ble_eq_true rfl) fun X hX hE => ?_
  have hX : Ok E X "DeltaFerry$Reader" "readBeginning" cd_Rd_readBeginning 2 (some (.int)) (rl 1) := hX
  refine G_cast (lv' := [(0, .ref (eA E 51))]) ?_ rfl rfl rfl rfl
  refine G_aload_n hX 0 rfl rfl d_Rd_readBeginning_0 ?_
  refine F_callV hX (st := []) (c_Cu_next E f 51 7 700 g p e (by decide) (by decide) (by decide) hC hg (by omega)) cm_Cu_next im_Cu_next se_Cu_next rfl ml_Rd_98 d_Rd_readBeginning_1 (by decide) hC rfl rfl (Nat.le_of_ble_eq_true rfl) (by decide) ?_
  rintro _ f1 ⟨rfl, h4, k5⟩
  refine G_cast (st' := [.int (zI (nxV g p e))]) ?_ rfl rfl rfl rfl
  by_cases hlt0 : p < e
  · skip
    have h6 : isC E f1 51 7 (p + 1) e := by have := h4; rw [nxP_lt hlt0] at this; exact this
    have hgb0 := hB (p)
    refine G_top (show zI (nxV g p e) = zI (g (p)) from by rw [nxV_lt hlt0]) ?_
    refine G_sipush hX (by decide) d_Rd_readBeginning_4 ?_
    refine G_icmp_ne_z hX (tgt := 41) d_Rd_readBeginning_7 rfl (by omega) (fun c7 => ?_) (fun c8 => ?_)
    · skip
      refine G_iconst hX d_Rd_readBeginning_41 ?_
      refine G_istore_n hX (lv' := [(1, .int (zI 0)), (0, .ref (eA E 51))]) rfl (by decide) rfl d_Rd_readBeginning_42 ?_
      refine G_iload_n hX 0 rfl rfl d_Rd_readBeginning_43 ?_
      refine G_if_eq_z hX (tgt := 54) d_Rd_readBeginning_44 rfl (by omega) (fun c9 => ?_) (fun c10 => by exfalso; omega)
      refine G_iconst hX d_Rd_readBeginning_54 ?_
      first
        | (exfalso; omega)
        | (have e1 : rbV g p e = -1 := by unfold rbV; first | (rw [if_neg (by omega)]; done) | (rw [if_pos (by omega)]; exact if_neg hlt4)
           rw [e1] at hE
           exact F_iret hX hE d_Rd_readBeginning_55 ⟨rfl, ⟨_, h6, by omega, fun q => by omega⟩, (Fr.tr Fr.rf k5 (by decide))⟩)
    · skip
      refine G_aload_n hX 0 rfl rfl d_Rd_readBeginning_10 ?_
      have h11 : f1 7 = iz E 700 g := (k5 7 (by decide)).trans hg
      refine F_callV hX (st := []) (c_Cu_next E f1 51 7 700 g (p + 1) e (by decide) (by decide) (by decide) h6 h11 (by omega)) cm_Cu_next im_Cu_next se_Cu_next rfl ml_Rd_98 d_Rd_readBeginning_11 (by decide) h6 rfl rfl (Nat.le_of_ble_eq_true rfl) (by decide) ?_
      rintro _ f12 ⟨rfl, h15, k16⟩
      refine G_cast (st' := [.int (zI (nxV g (p + 1) e))]) ?_ rfl rfl rfl rfl
      by_cases hlt1 : p + 1 < e
      · skip
        have h17 : isC E f12 51 7 (p + 2) e := by have := h15; rw [nxP_lt hlt1, show p + 1 + 1 = p + 2 by omega] at this; exact this
        have hgb1 := hB (p + 1)
        refine G_top (show zI (nxV g (p + 1) e) = zI (g (p + 1)) from by rw [nxV_lt hlt1]) ?_
        refine G_sipush hX (by decide) d_Rd_readBeginning_14 ?_
        refine G_icmp_ne_z hX (tgt := 41) d_Rd_readBeginning_17 rfl (by omega) (fun c18 => ?_) (fun c19 => ?_)
        · skip
          refine G_iconst hX d_Rd_readBeginning_41 ?_
          refine G_istore_n hX (lv' := [(1, .int (zI 0)), (0, .ref (eA E 51))]) rfl (by decide) rfl d_Rd_readBeginning_42 ?_
          refine G_iload_n hX 0 rfl rfl d_Rd_readBeginning_43 ?_
          refine G_if_eq_z hX (tgt := 54) d_Rd_readBeginning_44 rfl (by omega) (fun c20 => ?_) (fun c21 => by exfalso; omega)
          refine G_iconst hX d_Rd_readBeginning_54 ?_
          first
            | (exfalso; omega)
            | (have e1 : rbV g p e = -1 := by unfold rbV; first | (rw [if_neg (by omega)]; done) | (rw [if_pos (by omega)]; exact if_neg hlt4)
               rw [e1] at hE
               exact F_iret hX hE d_Rd_readBeginning_55 ⟨rfl, ⟨_, h17, by omega, fun q => by omega⟩, (Fr.tr (Fr.tr Fr.rf k5 (by decide)) k16 (by decide))⟩)
        · skip
          refine G_aload_n hX 0 rfl rfl d_Rd_readBeginning_20 ?_
          have h22 : f12 7 = iz E 700 g := (k16 7 (by decide)).trans h11
          refine F_callV hX (st := []) (c_Cu_next E f12 51 7 700 g (p + 2) e (by decide) (by decide) (by decide) h17 h22 (by omega)) cm_Cu_next im_Cu_next se_Cu_next rfl ml_Rd_98 d_Rd_readBeginning_21 (by decide) h17 rfl rfl (Nat.le_of_ble_eq_true rfl) (by decide) ?_
          rintro _ f23 ⟨rfl, h26, k27⟩
          refine G_cast (st' := [.int (zI (nxV g (p + 2) e))]) ?_ rfl rfl rfl rfl
          by_cases hlt2 : p + 2 < e
          · skip
            have h28 : isC E f23 51 7 (p + 3) e := by have := h26; rw [nxP_lt hlt2, show p + 2 + 1 = p + 3 by omega] at this; exact this
            have hgb2 := hB (p + 2)
            refine G_top (show zI (nxV g (p + 2) e) = zI (g (p + 2)) from by rw [nxV_lt hlt2]) ?_
            refine G_sipush hX (by decide) d_Rd_readBeginning_24 ?_
            refine G_icmp_ne_z hX (tgt := 41) d_Rd_readBeginning_27 rfl (by omega) (fun c29 => ?_) (fun c30 => ?_)
            · skip
              refine G_iconst hX d_Rd_readBeginning_41 ?_
              refine G_istore_n hX (lv' := [(1, .int (zI 0)), (0, .ref (eA E 51))]) rfl (by decide) rfl d_Rd_readBeginning_42 ?_
              refine G_iload_n hX 0 rfl rfl d_Rd_readBeginning_43 ?_
              refine G_if_eq_z hX (tgt := 54) d_Rd_readBeginning_44 rfl (by omega) (fun c31 => ?_) (fun c32 => by exfalso; omega)
              refine G_iconst hX d_Rd_readBeginning_54 ?_
              first
                | (exfalso; omega)
                | (have e1 : rbV g p e = -1 := by unfold rbV; first | (rw [if_neg (by omega)]; done) | (rw [if_pos (by omega)]; exact if_neg hlt4)
                   rw [e1] at hE
                   exact F_iret hX hE d_Rd_readBeginning_55 ⟨rfl, ⟨_, h28, by omega, fun q => by omega⟩, (Fr.tr (Fr.tr (Fr.tr Fr.rf k5 (by decide)) k16 (by decide)) k27 (by decide))⟩)
            · skip
              refine G_aload_n hX 0 rfl rfl d_Rd_readBeginning_30 ?_
              have h33 : f23 7 = iz E 700 g := (k27 7 (by decide)).trans h22
              refine F_callV hX (st := []) (c_Cu_next E f23 51 7 700 g (p + 3) e (by decide) (by decide) (by decide) h28 h33 (by omega)) cm_Cu_next im_Cu_next se_Cu_next rfl ml_Rd_98 d_Rd_readBeginning_31 (by decide) h28 rfl rfl (Nat.le_of_ble_eq_true rfl) (by decide) ?_
              rintro _ f34 ⟨rfl, h37, k38⟩
              refine G_cast (st' := [.int (zI (nxV g (p + 3) e))]) ?_ rfl rfl rfl rfl
              by_cases hlt3 : p + 3 < e
              · skip
                have h39 : isC E f34 51 7 (p + 4) e := by have := h37; rw [nxP_lt hlt3, show p + 3 + 1 = p + 4 by omega] at this; exact this
                have hgb3 := hB (p + 3)
                refine G_top (show zI (nxV g (p + 3) e) = zI (g (p + 3)) from by rw [nxV_lt hlt3]) ?_
                refine G_if_ne_z hX (tgt := 41) d_Rd_readBeginning_34 rfl (by omega) (fun c40 => ?_) (fun c41 => ?_)
                · skip
                  refine G_iconst hX d_Rd_readBeginning_41 ?_
                  refine G_istore_n hX (lv' := [(1, .int (zI 0)), (0, .ref (eA E 51))]) rfl (by decide) rfl d_Rd_readBeginning_42 ?_
                  refine G_iload_n hX 0 rfl rfl d_Rd_readBeginning_43 ?_
                  refine G_if_eq_z hX (tgt := 54) d_Rd_readBeginning_44 rfl (by omega) (fun c42 => ?_) (fun c43 => by exfalso; omega)
                  refine G_iconst hX d_Rd_readBeginning_54 ?_
                  first
                    | (exfalso; omega)
                    | (have e1 : rbV g p e = -1 := by unfold rbV; first | (rw [if_neg (by omega)]; done) | (rw [if_pos (by omega)]; exact if_neg hlt4)
                       rw [e1] at hE
                       exact F_iret hX hE d_Rd_readBeginning_55 ⟨rfl, ⟨_, h39, by omega, fun q => by omega⟩, (Fr.tr (Fr.tr (Fr.tr (Fr.tr Fr.rf k5 (by decide)) k16 (by decide)) k27 (by decide)) k38 (by decide))⟩)
                · skip
                  refine G_iconst hX d_Rd_readBeginning_37 ?_
                  refine G_goto hX (tgt := 42) d_Rd_readBeginning_38 rfl ?_
                  refine G_istore_n hX (lv' := [(1, .int (zI 1)), (0, .ref (eA E 51))]) rfl (by decide) rfl d_Rd_readBeginning_42 ?_
                  refine G_iload_n hX 0 rfl rfl d_Rd_readBeginning_43 ?_
                  refine G_if_eq_z hX (tgt := 54) d_Rd_readBeginning_44 rfl (by omega) (fun c44 => by exfalso; omega) (fun c45 => ?_)
                  refine G_aload_n hX 1 rfl rfl d_Rd_readBeginning_47 ?_
                  have h46 : f34 7 = iz E 700 g := (k38 7 (by decide)).trans h33
                  refine F_callV hX (st := []) (c_Cu_next E f34 51 7 700 g (p + 4) e (by decide) (by decide) (by decide) h39 h46 (by omega)) cm_Cu_next im_Cu_next se_Cu_next rfl ml_Rd_98 d_Rd_readBeginning_48 (by decide) h39 rfl rfl (Nat.le_of_ble_eq_true rfl) (by decide) ?_
                  rintro _ f47 ⟨rfl, h50, k51⟩
                  refine G_cast (st' := [.int (zI (nxV g (p + 4) e))]) ?_ rfl rfl rfl rfl
                  by_cases hlt4 : p + 4 < e
                  · skip
                    have h52 : isC E f47 51 7 (p + 5) e := by have := h50; rw [nxP_lt hlt4, show p + 4 + 1 = p + 5 by omega] at this; exact this
                    have hgb4 := hB (p + 4)
                    refine G_top (show zI (nxV g (p + 4) e) = zI (g (p + 4)) from by rw [nxV_lt hlt4]) ?_
                    refine G_goto hX (tgt := 55) d_Rd_readBeginning_51 rfl ?_
                    first
                      | (exfalso; omega)
                      | (have e1 : rbV g p e = g (p + 4) := by unfold rbV; rw [if_pos (by omega), nxV_lt hlt4]
                         rw [e1] at hE
                         exact F_iret hX hE d_Rd_readBeginning_55 ⟨rfl, ⟨_, h52, by omega, fun q => by omega⟩, (Fr.tr (Fr.tr (Fr.tr (Fr.tr (Fr.tr Fr.rf k5 (by decide)) k16 (by decide)) k27 (by decide)) k38 (by decide)) k51 (by decide))⟩)
                  · skip
                    have h53 : isC E f47 51 7 (p + 4) e := by have := h50; rw [show nxP (p + 4) e = p + 4 from if_neg hlt4] at this; exact this
                    refine G_top (show zI (nxV g (p + 4) e) = zI (-1) from by rw [show nxV g (p + 4) e = -1 from if_neg hlt4]) ?_
                    refine G_goto hX (tgt := 55) d_Rd_readBeginning_51 rfl ?_
                    first
                      | (exfalso; omega)
                      | (have e1 : rbV g p e = -1 := by unfold rbV; first | (rw [if_neg (by omega)]; done) | (rw [if_pos (by omega)]; exact if_neg hlt4)
                         rw [e1] at hE
                         exact F_iret hX hE d_Rd_readBeginning_55 ⟨rfl, ⟨_, h53, by omega, fun q => by omega⟩, (Fr.tr (Fr.tr (Fr.tr (Fr.tr (Fr.tr Fr.rf k5 (by decide)) k16 (by decide)) k27 (by decide)) k38 (by decide)) k51 (by decide))⟩)
              · skip
                have h54 : isC E f34 51 7 (p + 3) e := by have := h37; rw [show nxP (p + 3) e = p + 3 from if_neg hlt3] at this; exact this
                refine G_top (show zI (nxV g (p + 3) e) = zI (-1) from by rw [show nxV g (p + 3) e = -1 from if_neg hlt3]) ?_
                refine G_if_ne_z hX (tgt := 41) d_Rd_readBeginning_34 rfl (by omega) (fun c55 => ?_) (fun c56 => by exfalso; omega)
                refine G_iconst hX d_Rd_readBeginning_41 ?_
                refine G_istore_n hX (lv' := [(1, .int (zI 0)), (0, .ref (eA E 51))]) rfl (by decide) rfl d_Rd_readBeginning_42 ?_
                refine G_iload_n hX 0 rfl rfl d_Rd_readBeginning_43 ?_
                refine G_if_eq_z hX (tgt := 54) d_Rd_readBeginning_44 rfl (by omega) (fun c57 => ?_) (fun c58 => by exfalso; omega)
                refine G_iconst hX d_Rd_readBeginning_54 ?_
                first
                  | (exfalso; omega)
                  | (have e1 : rbV g p e = -1 := by unfold rbV; first | (rw [if_neg (by omega)]; done) | (rw [if_pos (by omega)]; exact if_neg hlt4)
                     rw [e1] at hE
                     exact F_iret hX hE d_Rd_readBeginning_55 ⟨rfl, ⟨_, h54, by omega, fun q => by omega⟩, (Fr.tr (Fr.tr (Fr.tr (Fr.tr Fr.rf k5 (by decide)) k16 (by decide)) k27 (by decide)) k38 (by decide))⟩)
          · skip
            have h59 : isC E f23 51 7 (p + 2) e := by have := h26; rw [show nxP (p + 2) e = p + 2 from if_neg hlt2] at this; exact this
            refine G_top (show zI (nxV g (p + 2) e) = zI (-1) from by rw [show nxV g (p + 2) e = -1 from if_neg hlt2]) ?_
            refine G_sipush hX (by decide) d_Rd_readBeginning_24 ?_
            refine G_icmp_ne_z hX (tgt := 41) d_Rd_readBeginning_27 rfl (by omega) (fun c60 => ?_) (fun c61 => by exfalso; omega)
            refine G_iconst hX d_Rd_readBeginning_41 ?_
            refine G_istore_n hX (lv' := [(1, .int (zI 0)), (0, .ref (eA E 51))]) rfl (by decide) rfl d_Rd_readBeginning_42 ?_
            refine G_iload_n hX 0 rfl rfl d_Rd_readBeginning_43 ?_
            refine G_if_eq_z hX (tgt := 54) d_Rd_readBeginning_44 rfl (by omega) (fun c62 => ?_) (fun c63 => by exfalso; omega)
            refine G_iconst hX d_Rd_readBeginning_54 ?_
            first
              | (exfalso; omega)
              | (have e1 : rbV g p e = -1 := by unfold rbV; first | (rw [if_neg (by omega)]; done) | (rw [if_pos (by omega)]; exact if_neg hlt4)
                 rw [e1] at hE
                 exact F_iret hX hE d_Rd_readBeginning_55 ⟨rfl, ⟨_, h59, by omega, fun q => by omega⟩, (Fr.tr (Fr.tr (Fr.tr Fr.rf k5 (by decide)) k16 (by decide)) k27 (by decide))⟩)
      · skip
        have h64 : isC E f12 51 7 (p + 1) e := by have := h15; rw [show nxP (p + 1) e = p + 1 from if_neg hlt1] at this; exact this
        refine G_top (show zI (nxV g (p + 1) e) = zI (-1) from by rw [show nxV g (p + 1) e = -1 from if_neg hlt1]) ?_
        refine G_sipush hX (by decide) d_Rd_readBeginning_14 ?_
        refine G_icmp_ne_z hX (tgt := 41) d_Rd_readBeginning_17 rfl (by omega) (fun c65 => ?_) (fun c66 => by exfalso; omega)
        refine G_iconst hX d_Rd_readBeginning_41 ?_
        refine G_istore_n hX (lv' := [(1, .int (zI 0)), (0, .ref (eA E 51))]) rfl (by decide) rfl d_Rd_readBeginning_42 ?_
        refine G_iload_n hX 0 rfl rfl d_Rd_readBeginning_43 ?_
        refine G_if_eq_z hX (tgt := 54) d_Rd_readBeginning_44 rfl (by omega) (fun c67 => ?_) (fun c68 => by exfalso; omega)
        refine G_iconst hX d_Rd_readBeginning_54 ?_
        first
          | (exfalso; omega)
          | (have e1 : rbV g p e = -1 := by unfold rbV; first | (rw [if_neg (by omega)]; done) | (rw [if_pos (by omega)]; exact if_neg hlt4)
             rw [e1] at hE
             exact F_iret hX hE d_Rd_readBeginning_55 ⟨rfl, ⟨_, h64, by omega, fun q => by omega⟩, (Fr.tr (Fr.tr Fr.rf k5 (by decide)) k16 (by decide))⟩)
  · skip
    have h69 : isC E f1 51 7 (p) e := by have := h4; rw [show nxP (p) e = p from if_neg hlt0] at this; exact this
    refine G_top (show zI (nxV g p e) = zI (-1) from by rw [show nxV g (p) e = -1 from if_neg hlt0]) ?_
    refine G_sipush hX (by decide) d_Rd_readBeginning_4 ?_
    refine G_icmp_ne_z hX (tgt := 41) d_Rd_readBeginning_7 rfl (by omega) (fun c70 => ?_) (fun c71 => by exfalso; omega)
    refine G_iconst hX d_Rd_readBeginning_41 ?_
    refine G_istore_n hX (lv' := [(1, .int (zI 0)), (0, .ref (eA E 51))]) rfl (by decide) rfl d_Rd_readBeginning_42 ?_
    refine G_iload_n hX 0 rfl rfl d_Rd_readBeginning_43 ?_
    refine G_if_eq_z hX (tgt := 54) d_Rd_readBeginning_44 rfl (by omega) (fun c72 => ?_) (fun c73 => by exfalso; omega)
    refine G_iconst hX d_Rd_readBeginning_54 ?_
    first
      | (exfalso; omega)
      | (have e1 : rbV g p e = -1 := by unfold rbV; first | (rw [if_neg (by omega)]; done) | (rw [if_pos (by omega)]; exact if_neg hlt4)
         rw [e1] at hE
         exact F_iret hX hE d_Rd_readBeginning_55 ⟨rfl, ⟨_, h69, by omega, fun q => by omega⟩, (Fr.tr Fr.rf k5 (by decide))⟩)
theorem c_Rd_readBeginning52 (E : EV) (f : Nat → va_E) (g : Int → Int) (p e : Int) (hg : f 7 = iz E 700 g) (hB : isB g) (hC : isC E f 52 7 p e) (hb : 0 ≤ p ∧ p ≤ e ∧ e ≤ 700) : CF yn_Rd_readBeginning cd_Rd_readBeginning 2 (some (.int)) 1 E [.ref (eA E 52)] f (fun r f' => r = some (.int (zI (rbV g p e))) ∧ (∃ p2, isC E f' 52 7 p2 e ∧ (0 ≤ p2 ∧ p2 ≤ e) ∧ (0 ≤ rbV g p e → p2 = p + 5)) ∧ Fr [52] f f') := by
  refine CF.of (by decide +kernel) (Nat.le_of_ble_eq_true rfl) fun X hX hE => ?_
  have hX : Ok E X "DeltaFerry$Reader" "readBeginning" cd_Rd_readBeginning 2 (some (.int)) (rl 1) := hX
  refine G_cast (lv' := [(0, .ref (eA E 52))]) ?_ rfl rfl rfl rfl
  refine G_aload_n hX 0 rfl rfl d_Rd_readBeginning_0 ?_
  refine F_callV hX (st := []) (c_Cu_next E f 52 7 700 g p e (by decide) (by decide) (by decide) hC hg (by omega)) cm_Cu_next im_Cu_next se_Cu_next rfl ml_Rd_98 d_Rd_readBeginning_1 (by decide) hC rfl rfl (Nat.le_of_ble_eq_true rfl) (by decide) ?_
  rintro _ f1 ⟨rfl, h4, k5⟩
  refine G_cast (st' := [.int (zI (nxV g p e))]) ?_ rfl rfl rfl rfl
  by_cases hlt0 : p < e
  · skip
    have h6 : isC E f1 52 7 (p + 1) e := by have := h4; rw [nxP_lt hlt0] at this; exact this
    have hgb0 := hB (p)
    refine G_top (show zI (nxV g p e) = zI (g (p)) from by rw [nxV_lt hlt0]) ?_
    refine G_sipush hX (by decide) d_Rd_readBeginning_4 ?_
    refine G_icmp_ne_z hX (tgt := 41) d_Rd_readBeginning_7 rfl (by omega) (fun c7 => ?_) (fun c8 => ?_)
    · skip
      refine G_iconst hX d_Rd_readBeginning_41 ?_
      refine G_istore_n hX (lv' := [(1, .int (zI 0)), (0, .ref (eA E 52))]) rfl (by decide) rfl d_Rd_readBeginning_42 ?_
      refine G_iload_n hX 0 rfl rfl d_Rd_readBeginning_43 ?_
      refine G_if_eq_z hX (tgt := 54) d_Rd_readBeginning_44 rfl (by omega) (fun c9 => ?_) (fun c10 => by exfalso; omega)
      refine G_iconst hX d_Rd_readBeginning_54 ?_
      first
        | (exfalso; omega)
        | (have e1 : rbV g p e = -1 := by unfold rbV; first | (rw [if_neg (by omega)]; done) | (rw [if_pos (by omega)]; exact if_neg hlt4)
           rw [e1] at hE
           exact F_iret hX hE d_Rd_readBeginning_55 ⟨rfl, ⟨_, h6, by omega, fun q => by omega⟩, (Fr.tr Fr.rf k5 (by decide))⟩)
    · skip
      refine G_aload_n hX 0 rfl rfl d_Rd_readBeginning_10 ?_
      have h11 : f1 7 = iz E 700 g := (k5 7 (by decide)).trans hg
      refine F_callV hX (st := []) (c_Cu_next E f1 52 7 700 g (p + 1) e (by decide) (by decide) (by decide) h6 h11 (by omega)) cm_Cu_next im_Cu_next se_Cu_next rfl ml_Rd_98 d_Rd_readBeginning_11 (by decide) h6 rfl rfl (Nat.le_of_ble_eq_true rfl) (by decide) ?_
      rintro _ f12 ⟨rfl, h15, k16⟩
      refine G_cast (st' := [.int (zI (nxV g (p + 1) e))]) ?_ rfl rfl rfl rfl
      by_cases hlt1 : p + 1 < e
      · skip
        have h17 : isC E f12 52 7 (p + 2) e := by have := h15; rw [nxP_lt hlt1, show p + 1 + 1 = p + 2 by omega] at this; exact this
        have hgb1 := hB (p + 1)
        refine G_top (show zI (nxV g (p + 1) e) = zI (g (p + 1)) from by rw [nxV_lt hlt1]) ?_
        refine G_sipush hX (by decide) d_Rd_readBeginning_14 ?_
        refine G_icmp_ne_z hX (tgt := 41) d_Rd_readBeginning_17 rfl (by omega) (fun c18 => ?_) (fun c19 => ?_)
        · skip
          refine G_iconst hX d_Rd_readBeginning_41 ?_
          refine G_istore_n hX (lv' := [(1, .int (zI 0)), (0, .ref (eA E 52))]) rfl (by decide) rfl d_Rd_readBeginning_42 ?_
          refine G_iload_n hX 0 rfl rfl d_Rd_readBeginning_43 ?_
          refine G_if_eq_z hX (tgt := 54) d_Rd_readBeginning_44 rfl (by omega) (fun c20 => ?_) (fun c21 => by exfalso; omega)
          refine G_iconst hX d_Rd_readBeginning_54 ?_
          first
            | (exfalso; omega)
            | (have e1 : rbV g p e = -1 := by unfold rbV; first | (rw [if_neg (by omega)]; done) | (rw [if_pos (by omega)]; exact if_neg hlt4)
               rw [e1] at hE
               exact F_iret hX hE d_Rd_readBeginning_55 ⟨rfl, ⟨_, h17, by omega, fun q => by omega⟩, (Fr.tr (Fr.tr Fr.rf k5 (by decide)) k16 (by decide))⟩)
        · skip
          refine G_aload_n hX 0 rfl rfl d_Rd_readBeginning_20 ?_
          have h22 : f12 7 = iz E 700 g := (k16 7 (by decide)).trans h11
          refine F_callV hX (st := []) (c_Cu_next E f12 52 7 700 g (p + 2) e (by decide) (by decide) (by decide) h17 h22 (by omega)) cm_Cu_next im_Cu_next se_Cu_next rfl ml_Rd_98 d_Rd_readBeginning_21 (by decide) h17 rfl rfl (Nat.le_of_ble_eq_true rfl) (by decide) ?_
          rintro _ f23 ⟨rfl, h26, k27⟩
          refine G_cast (st' := [.int (zI (nxV g (p + 2) e))]) ?_ rfl rfl rfl rfl
          by_cases hlt2 : p + 2 < e
          · skip
            have h28 : isC E f23 52 7 (p + 3) e := by have := h26; rw [nxP_lt hlt2, show p + 2 + 1 = p + 3 by omega] at this; exact this
            have hgb2 := hB (p + 2)
            refine G_top (show zI (nxV g (p + 2) e) = zI (g (p + 2)) from by rw [nxV_lt hlt2]) ?_
            refine G_sipush hX (by decide) d_Rd_readBeginning_24 ?_
            refine G_icmp_ne_z hX (tgt := 41) d_Rd_readBeginning_27 rfl (by omega) (fun c29 => ?_) (fun c30 => ?_)
            · skip
              refine G_iconst hX d_Rd_readBeginning_41 ?_
              refine G_istore_n hX (lv' := [(1, .int (zI 0)), (0, .ref (eA E 52))]) rfl (by decide) rfl d_Rd_readBeginning_42 ?_
              refine G_iload_n hX 0 rfl rfl d_Rd_readBeginning_43 ?_
              refine G_if_eq_z hX (tgt := 54) d_Rd_readBeginning_44 rfl (by omega) (fun c31 => ?_) (fun c32 => by exfalso; omega)
              refine G_iconst hX d_Rd_readBeginning_54 ?_
              first
                | (exfalso; omega)
                | (have e1 : rbV g p e = -1 := by unfold rbV; first | (rw [if_neg (by omega)]; done) | (rw [if_pos (by omega)]; exact if_neg hlt4)
                   rw [e1] at hE
                   exact F_iret hX hE d_Rd_readBeginning_55 ⟨rfl, ⟨_, h28, by omega, fun q => by omega⟩, (Fr.tr (Fr.tr (Fr.tr Fr.rf k5 (by decide)) k16 (by decide)) k27 (by decide))⟩)
            · skip
              refine G_aload_n hX 0 rfl rfl d_Rd_readBeginning_30 ?_
              have h33 : f23 7 = iz E 700 g := (k27 7 (by decide)).trans h22
              refine F_callV hX (st := []) (c_Cu_next E f23 52 7 700 g (p + 3) e (by decide) (by decide) (by decide) h28 h33 (by omega)) cm_Cu_next im_Cu_next se_Cu_next rfl ml_Rd_98 d_Rd_readBeginning_31 (by decide) h28 rfl rfl (Nat.le_of_ble_eq_true rfl) (by decide) ?_
              rintro _ f34 ⟨rfl, h37, k38⟩
              refine G_cast (st' := [.int (zI (nxV g (p + 3) e))]) ?_ rfl rfl rfl rfl
              by_cases hlt3 : p + 3 < e
              · skip
                have h39 : isC E f34 52 7 (p + 4) e := by have := h37; rw [nxP_lt hlt3, show p + 3 + 1 = p + 4 by omega] at this; exact this
                have hgb3 := hB (p + 3)
                refine G_top (show zI (nxV g (p + 3) e) = zI (g (p + 3)) from by rw [nxV_lt hlt3]) ?_
                refine G_if_ne_z hX (tgt := 41) d_Rd_readBeginning_34 rfl (by omega) (fun c40 => ?_) (fun c41 => ?_)
                · skip
                  refine G_iconst hX d_Rd_readBeginning_41 ?_
                  refine G_istore_n hX (lv' := [(1, .int (zI 0)), (0, .ref (eA E 52))]) rfl (by decide) rfl d_Rd_readBeginning_42 ?_
                  refine G_iload_n hX 0 rfl rfl d_Rd_readBeginning_43 ?_
                  refine G_if_eq_z hX (tgt := 54) d_Rd_readBeginning_44 rfl (by omega) (fun c42 => ?_) (fun c43 => by exfalso; omega)
                  refine G_iconst hX d_Rd_readBeginning_54 ?_
                  first
                    | (exfalso; omega)
                    | (have e1 : rbV g p e = -1 := by unfold rbV; first | (rw [if_neg (by omega)]; done) | (rw [if_pos (by omega)]; exact if_neg hlt4)
                       rw [e1] at hE
                       exact F_iret hX hE d_Rd_readBeginning_55 ⟨rfl, ⟨_, h39, by omega, fun q => by omega⟩, (Fr.tr (Fr.tr (Fr.tr (Fr.tr Fr.rf k5 (by decide)) k16 (by decide)) k27 (by decide)) k38 (by decide))⟩)
                · skip
                  refine G_iconst hX d_Rd_readBeginning_37 ?_
                  refine G_goto hX (tgt := 42) d_Rd_readBeginning_38 rfl ?_
                  refine G_istore_n hX (lv' := [(1, .int (zI 1)), (0, .ref (eA E 52))]) rfl (by decide) rfl d_Rd_readBeginning_42 ?_
                  refine G_iload_n hX 0 rfl rfl d_Rd_readBeginning_43 ?_
                  refine G_if_eq_z hX (tgt := 54) d_Rd_readBeginning_44 rfl (by omega) (fun c44 => by exfalso; omega) (fun c45 => ?_)
                  refine G_aload_n hX 1 rfl rfl d_Rd_readBeginning_47 ?_
                  have h46 : f34 7 = iz E 700 g := (k38 7 (by decide)).trans h33
                  refine F_callV hX (st := []) (c_Cu_next E f34 52 7 700 g (p + 4) e (by decide) (by decide) (by decide) h39 h46 (by omega)) cm_Cu_next im_Cu_next se_Cu_next rfl ml_Rd_98 d_Rd_readBeginning_48 (by decide) h39 rfl rfl (Nat.le_of_ble_eq_true rfl) (by decide) ?_
                  rintro _ f47 ⟨rfl, h50, k51⟩
                  refine G_cast (st' := [.int (zI (nxV g (p + 4) e))]) ?_ rfl rfl rfl rfl
                  by_cases hlt4 : p + 4 < e
                  · skip
                    have h52 : isC E f47 52 7 (p + 5) e := by have := h50; rw [nxP_lt hlt4, show p + 4 + 1 = p + 5 by omega] at this; exact this
                    have hgb4 := hB (p + 4)
                    refine G_top (show zI (nxV g (p + 4) e) = zI (g (p + 4)) from by rw [nxV_lt hlt4]) ?_
                    refine G_goto hX (tgt := 55) d_Rd_readBeginning_51 rfl ?_
                    first
                      | (exfalso; omega)
                      | (have e1 : rbV g p e = g (p + 4) := by unfold rbV; rw [if_pos (by omega), nxV_lt hlt4]
                         rw [e1] at hE
                         exact F_iret hX hE d_Rd_readBeginning_55 ⟨rfl, ⟨_, h52, by omega, fun q => by omega⟩, (Fr.tr (Fr.tr (Fr.tr (Fr.tr (Fr.tr Fr.rf k5 (by decide)) k16 (by decide)) k27 (by decide)) k38 (by decide)) k51 (by decide))⟩)
                  · skip
                    have h53 : isC E f47 52 7 (p + 4) e := by have := h50; rw [show nxP (p + 4) e = p + 4 from if_neg hlt4] at this; exact this
                    refine G_top (show zI (nxV g (p + 4) e) = zI (-1) from by rw [show nxV g (p + 4) e = -1 from if_neg hlt4]) ?_
                    refine G_goto hX (tgt := 55) d_Rd_readBeginning_51 rfl ?_
                    first
                      | (exfalso; omega)
                      | (have e1 : rbV g p e = -1 := by unfold rbV; first | (rw [if_neg (by omega)]; done) | (rw [if_pos (by omega)]; exact if_neg hlt4)
                         rw [e1] at hE
                         exact F_iret hX hE d_Rd_readBeginning_55 ⟨rfl, ⟨_, h53, by omega, fun q => by omega⟩, (Fr.tr (Fr.tr (Fr.tr (Fr.tr (Fr.tr Fr.rf k5 (by decide)) k16 (by decide)) k27 (by decide)) k38 (by decide)) k51 (by decide))⟩)
              · skip
                have h54 : isC E f34 52 7 (p + 3) e := by have := h37; rw [show nxP (p + 3) e = p + 3 from if_neg hlt3] at this; exact this
                refine G_top (show zI (nxV g (p + 3) e) = zI (-1) from by rw [show nxV g (p + 3) e = -1 from if_neg hlt3]) ?_
                refine G_if_ne_z hX (tgt := 41) d_Rd_readBeginning_34 rfl (by omega) (fun c55 => ?_) (fun c56 => by exfalso; omega)
                refine G_iconst hX d_Rd_readBeginning_41 ?_
                refine G_istore_n hX (lv' := [(1, .int (zI 0)), (0, .ref (eA E 52))]) rfl (by decide) rfl d_Rd_readBeginning_42 ?_
                refine G_iload_n hX 0 rfl rfl d_Rd_readBeginning_43 ?_
                refine G_if_eq_z hX (tgt := 54) d_Rd_readBeginning_44 rfl (by omega) (fun c57 => ?_) (fun c58 => by exfalso; omega)
                refine G_iconst hX d_Rd_readBeginning_54 ?_
                first
                  | (exfalso; omega)
                  | (have e1 : rbV g p e = -1 := by unfold rbV; first | (rw [if_neg (by omega)]; done) | (rw [if_pos (by omega)]; exact if_neg hlt4)
                     rw [e1] at hE
                     exact F_iret hX hE d_Rd_readBeginning_55 ⟨rfl, ⟨_, h54, by omega, fun q => by omega⟩, (Fr.tr (Fr.tr (Fr.tr (Fr.tr Fr.rf k5 (by decide)) k16 (by decide)) k27 (by decide)) k38 (by decide))⟩)
          · skip
            have h59 : isC E f23 52 7 (p + 2) e := by have := h26; rw [show nxP (p + 2) e = p + 2 from if_neg hlt2] at this; exact this
            refine G_top (show zI (nxV g (p + 2) e) = zI (-1) from by rw [show nxV g (p + 2) e = -1 from if_neg hlt2]) ?_
            refine G_sipush hX (by decide) d_Rd_readBeginning_24 ?_
            refine G_icmp_ne_z hX (tgt := 41) d_Rd_readBeginning_27 rfl (by omega) (fun c60 => ?_) (fun c61 => by exfalso; omega)
            refine G_iconst hX d_Rd_readBeginning_41 ?_
            refine G_istore_n hX (lv' := [(1, .int (zI 0)), (0, .ref (eA E 52))]) rfl (by decide) rfl d_Rd_readBeginning_42 ?_
            refine G_iload_n hX 0 rfl rfl d_Rd_readBeginning_43 ?_
            refine G_if_eq_z hX (tgt := 54) d_Rd_readBeginning_44 rfl (by omega) (fun c62 => ?_) (fun c63 => by exfalso; omega)
            refine G_iconst hX d_Rd_readBeginning_54 ?_
            first
              | (exfalso; omega)
              | (have e1 : rbV g p e = -1 := by unfold rbV; first | (rw [if_neg (by omega)]; done) | (rw [if_pos (by omega)]; exact if_neg hlt4)
                 rw [e1] at hE
                 exact F_iret hX hE d_Rd_readBeginning_55 ⟨rfl, ⟨_, h59, by omega, fun q => by omega⟩, (Fr.tr (Fr.tr (Fr.tr Fr.rf k5 (by decide)) k16 (by decide)) k27 (by decide))⟩)
      · skip
        have h64 : isC E f12 52 7 (p + 1) e := by have := h15; rw [show nxP (p + 1) e = p + 1 from if_neg hlt1] at this; exact this
        refine G_top (show zI (nxV g (p + 1) e) = zI (-1) from by rw [show nxV g (p + 1) e = -1 from if_neg hlt1]) ?_
        refine G_sipush hX (by decide) d_Rd_readBeginning_14 ?_
        refine G_icmp_ne_z hX (tgt := 41) d_Rd_readBeginning_17 rfl (by omega) (fun c65 => ?_) (fun c66 => by exfalso; omega)
        refine G_iconst hX d_Rd_readBeginning_41 ?_
        refine G_istore_n hX (lv' := [(1, .int (zI 0)), (0, .ref (eA E 52))]) rfl (by decide) rfl d_Rd_readBeginning_42 ?_
        refine G_iload_n hX 0 rfl rfl d_Rd_readBeginning_43 ?_
        refine G_if_eq_z hX (tgt := 54) d_Rd_readBeginning_44 rfl (by omega) (fun c67 => ?_) (fun c68 => by exfalso; omega)
        refine G_iconst hX d_Rd_readBeginning_54 ?_
        first
          | (exfalso; omega)
          | (have e1 : rbV g p e = -1 := by unfold rbV; first | (rw [if_neg (by omega)]; done) | (rw [if_pos (by omega)]; exact if_neg hlt4)
             rw [e1] at hE
             exact F_iret hX hE d_Rd_readBeginning_55 ⟨rfl, ⟨_, h64, by omega, fun q => by omega⟩, (Fr.tr (Fr.tr Fr.rf k5 (by decide)) k16 (by decide))⟩)
  · skip
    have h69 : isC E f1 52 7 (p) e := by have := h4; rw [show nxP (p) e = p from if_neg hlt0] at this; exact this
    refine G_top (show zI (nxV g p e) = zI (-1) from by rw [show nxV g (p) e = -1 from if_neg hlt0]) ?_
    refine G_sipush hX (by decide) d_Rd_readBeginning_4 ?_
    refine G_icmp_ne_z hX (tgt := 41) d_Rd_readBeginning_7 rfl (by omega) (fun c70 => ?_) (fun c71 => by exfalso; omega)
    refine G_iconst hX d_Rd_readBeginning_41 ?_
    refine G_istore_n hX (lv' := [(1, .int (zI 0)), (0, .ref (eA E 52))]) rfl (by decide) rfl d_Rd_readBeginning_42 ?_
    refine G_iload_n hX 0 rfl rfl d_Rd_readBeginning_43 ?_
    refine G_if_eq_z hX (tgt := 54) d_Rd_readBeginning_44 rfl (by omega) (fun c72 => ?_) (fun c73 => by exfalso; omega)
    refine G_iconst hX d_Rd_readBeginning_54 ?_
    first
      | (exfalso; omega)
      | (have e1 : rbV g p e = -1 := by unfold rbV; first | (rw [if_neg (by omega)]; done) | (rw [if_pos (by omega)]; exact if_neg hlt4)
         rw [e1] at hE
         exact F_iret hX hE d_Rd_readBeginning_55 ⟨rfl, ⟨_, h69, by omega, fun q => by omega⟩, (Fr.tr Fr.rf k5 (by decide))⟩)
theorem Fr_nil {f f1 : Nat → va_E} (h : Fr [] f f1) : f1 = f := funext fun x => h x (List.not_mem_nil)
theorem c_Rd_isTable (E : EV) (f : Nat → va_E) (t : Int → Int) (c : Int) (hR : isR E f 47 48 1536 t c) (hB : isB t) (hc : 0 ≤ c ∧ c ≤ 1536) : CF yn_Rd_isTable cd_Rd_isTable 2 (some (.boolean)) 0 E [.ref (eA E 47)] f (fun r f' => r = some (.int (zI (if c = 1536 ∧ tbB t = true then 1 else 0))) ∧ f' = f) := by
  refine CF.of (by decide +kernel) (Nat.le_of_ble_eq_true rfl) fun X hX hE => ?_
  have hX : Ok E X "DeltaFerry$Reader" "isTable" cd_Rd_isTable 2 (some (.boolean)) (rl 0) := hX
  refine G_cast (lv' := [(0, .ref (eA E 47))]) ?_ rfl rfl rfl rfl
  refine G_aload_n hX 0 rfl rfl d_Rd_isTable_0 ?_
  refine F_get hX fg_Rd_66 d_Rd_isTable_1 47 (by decide) hR.1 rfl ?_
  refine G_sipush hX (by decide) d_Rd_isTable_4 ?_
  refine G_icmp_eq_z hX (tgt := 12) d_Rd_isTable_7 rfl (by omega) (fun c1 => ?_) (fun c2 => ?_)
  · skip
    refine G_iconst hX d_Rd_isTable_12 ?_
    refine G_istore_n hX (lv' := [(1, .int (zI 0)), (0, .ref (eA E 47))]) rfl (by decide) rfl d_Rd_isTable_13 ?_
    have loop3 : ∀ (q : Nat) (i : Int) (f4 : Nat → va_E), (512 - i).toNat < q → (0 ≤ i ∧ i ≤ 512) → (∀ k, 0 ≤ k → k < i → t k ≤ 3) → Fr [] f f4 → G E X 0 0 14 [(0, .ref (eA E 47)), (1, .int (zI i))] [] (wl E f4) := by
      intro q
      induction q with
      | zero => intro i f4 hms6; exact absurd hms6 (Nat.not_lt_zero _)
      | succ q ih7 =>
        intro i f4 hms6 hi hs k5
        refine G_iload_n hX 1 rfl rfl d_Rd_isTable_14 ?_
        refine G_sipush hX (by decide) d_Rd_isTable_15 ?_
        refine G_icmp_ge_z hX (tgt := 39) d_Rd_isTable_18 rfl (by omega) (fun c8 => ?_) (fun c9 => ?_)
        · skip
          refine G_iconst hX d_Rd_isTable_39 ?_
          exact F_zret hX hE (by decide) d_Rd_isTable_40 ⟨by rw [if_pos ⟨by omega, tbB_i (fun k h1 h2 => hs k h1 (by omega))⟩], Fr_nil (Fr.tr Fr.rf k5 (by decide))⟩
        · skip
          refine G_aload_n hX 0 rfl rfl d_Rd_isTable_21 ?_
          have h10 : f4 47 = ob 6 [.ref (eA E 48), .int (zI c)] := (k5 47 (List.not_mem_nil)).trans hR.1
          refine F_get hX fg_Rd_62 d_Rd_isTable_22 47 (by decide) h10 rfl ?_
          refine G_iload_n hX 1 rfl rfl d_Rd_isTable_25 ?_
          have h11 : f4 48 = iz E 1536 t := (k5 48 (List.not_mem_nil)).trans hR.2
          refine F_iald hX d_Rd_isTable_26 48 (by decide) h11 (by omega) ?_
          have b12 := hB i
          refine G_iconst hX d_Rd_isTable_27 ?_
          refine G_icmp_le_z hX (tgt := 33) d_Rd_isTable_28 rfl (by omega) (fun c13 => ?_) (fun c14 => ?_)
          · skip
            refine G_iinc_z hX (lv' := [(1, .int (zI (i + 1))), (0, .ref (eA E 47))]) 1 rfl (by decide) rfl d_Rd_isTable_33 ?_
            refine G_goto hX (tgt := 14) d_Rd_isTable_36 rfl ?_
            refine G_loc (lv' := [(0, .ref (eA E 47)), (1, .int (zI (i + 1)))]) [1, 0] rfl ?_
            exact ih7 (i + 1) f4 (by omega) (by omega) (fun k h1 h2 => by rcases Int.lt_or_eq_of_le (Int.lt_add_one_iff.mp h2) with h3 | h3; exact hs k h1 h3; rw [h3]; omega)  (Fr.tr Fr.rf k5 (by decide))
          · skip
            refine G_iconst hX d_Rd_isTable_31 ?_
            exact F_zret hX hE (by decide) d_Rd_isTable_32 ⟨by rw [if_neg (fun q => by have := tbB_t q.2 i (by omega) (by omega); omega)], Fr_nil (Fr.tr Fr.rf k5 (by decide))⟩
    refine G_loc (lv' := [(0, .ref (eA E 47)), (1, .int (zI 0))]) [1, 0] rfl ?_
    exact loop3 (_ + 1) 0 f (Nat.lt_succ_self _) (by omega) (fun k h1 h2 => by omega)  Fr.rf
  · skip
    refine G_iconst hX d_Rd_isTable_10 ?_
    exact F_zret hX hE (by decide) d_Rd_isTable_11 ⟨by rw [if_neg (by omega)], rfl⟩
theorem c_Rd_open (E : EV) (f : Nat → va_E) (g : Int → Int) (e : Int) (x1 x2 x3 : Int32) (v4 v5 v6 v7 v8 : Value) (y1 y2 : Int32) (w1 : Value) (a1 b1 : Int32) (h44 : f 44 = ob 5 [.ref (eA E 45), .ref (eA E 47), .ref (eA E 49), .ref (eA E 51), .ref (eA E 52), .ref (eA E 53), .int x1, .int x2, .int x3, v4, v5, v6, v7, v8, .int y1, .int y2]) (h51 : f 51 = ob 1 [w1, .int a1, .int b1]) (hD : isR E f 6 7 700 g e) (hB : isB g) (hb : 0 ≤ e ∧ e ≤ 700) : CF yn_Rd_open cd_Rd_open 2 (some (.int)) 2 E [.ref (eA E 44), .ref (eA E 6)] f (fun r f' => r = some (.int (zI (if rbV g 0 e = 0 ∨ rbV g 0 e = 2 then 0 else if 0 < rbV g 0 e ∧ ¬ rbV g 0 e % 2 = 0 then -3 else -2))) ∧ f' 44 = ob 5 [.ref (eA E 45), .ref (eA E 47), .ref (eA E 49), .ref (eA E 51), .ref (eA E 52), .ref (eA E 53), .int (zI (rbV g 0 e)), .int (zI 4), .int (zI 3), .ref (eA E 49), v5, v6, v7, v8, .int y1, .int y2] ∧ (∃ p2, isC E f' 51 7 p2 e ∧ (0 ≤ p2 ∧ p2 ≤ e) ∧ (0 ≤ rbV g 0 e → p2 = 5)) ∧ Fr [44, 51] f f') := by
  refine CF.of (by decide +kernel) (Nat.le_of_ble_eq_true rfl) fun X hX hE => ?_
  have hX : Ok E X "DeltaFerry$Reader" "open" cd_Rd_open 2 (some (.int)) (rl 2) := hX
  refine G_cast (lv' := [(0, .ref (eA E 44)), (1, .ref (eA E 6))]) ?_ rfl rfl rfl rfl
  refine G_aload_n hX 0 rfl rfl d_Rd_open_0 ?_
  refine F_get hX fg_Rd_33 d_Rd_open_1 44 (by decide) h44 rfl ?_
  refine G_aload_n hX 1 rfl rfl d_Rd_open_4 ?_
  refine F_get hX fg_Rd_62 d_Rd_open_5 6 (by decide) hD.1 rfl ?_
  refine G_iconst hX d_Rd_open_8 ?_
  refine G_aload_n hX 1 rfl rfl d_Rd_open_9 ?_
  refine F_get hX fg_Rd_66 d_Rd_open_10 6 (by decide) hD.1 rfl ?_
  refine F_callV hX (st := []) (c_Cu_open E f 51 7 w1 a1 b1 0 e (by decide) h51) cm_Cu_open im_Cu_open se_Cu_open rfl ml_Rd_70 d_Rd_open_13 (by decide) h51 rfl rfl (Nat.le_of_ble_eq_true rfl) (by decide) ?_
  rintro _ f1 ⟨rfl, h4, k5⟩
  refine G_cast (st' := []) ?_ rfl rfl rfl rfl
  refine G_aload_n hX 0 rfl rfl d_Rd_open_16 ?_
  refine G_iconst hX d_Rd_open_17 ?_
  have h6 : f1 44 = ob 5 [.ref (eA E 45), .ref (eA E 47), .ref (eA E 49), .ref (eA E 51), .ref (eA E 52), .ref (eA E 53), .int x1, .int x2, .int x3, v4, v5, v6, v7, v8, .int y1, .int y2] := (k5 44 (by decide)).trans h44
  refine F_put hX fg_Rd_74 fp_Rd_7 d_Rd_open_18 44 (fs' := [.ref (eA E 45), .ref (eA E 47), .ref (eA E 49), .ref (eA E 51), .ref (eA E 52), .ref (eA E 53), .int x1, .int (zI 4), .int x3, v4, v5, v6, v7, v8, .int y1, .int y2]) (by decide) h6 rfl rfl (Nat.le_of_ble_eq_true rfl) rfl (fun f7 h8 k9 => ?_)
  refine G_aload_n hX 0 rfl rfl d_Rd_open_21 ?_
  refine G_iconst hX d_Rd_open_22 ?_
  refine F_put hX fg_Rd_77 fp_Rd_8 d_Rd_open_23 44 (fs' := [.ref (eA E 45), .ref (eA E 47), .ref (eA E 49), .ref (eA E 51), .ref (eA E 52), .ref (eA E 53), .int x1, .int (zI 4), .int (zI 3), v4, v5, v6, v7, v8, .int y1, .int y2]) (by decide) h8 rfl rfl (Nat.le_of_ble_eq_true rfl) rfl (fun f10 h11 k12 => ?_)
  refine G_aload_n hX 0 rfl rfl d_Rd_open_26 ?_
  refine G_aload_n hX 0 rfl rfl d_Rd_open_27 ?_
  refine F_get hX fg_Rd_27 d_Rd_open_28 44 (by decide) h11 rfl ?_
  refine F_put hX fg_Rd_47 fp_Rd_9 d_Rd_open_31 44 (fs' := [.ref (eA E 45), .ref (eA E 47), .ref (eA E 49), .ref (eA E 51), .ref (eA E 52), .ref (eA E 53), .int x1, .int (zI 4), .int (zI 3), .ref (eA E 49), v5, v6, v7, v8, .int y1, .int y2]) (by decide) h11 rfl rfl (Nat.le_of_ble_eq_true rfl) rfl (fun f13 h14 k15 => ?_)
  refine G_aload_n hX 0 rfl rfl d_Rd_open_34 ?_
  refine G_aload_n hX 0 rfl rfl d_Rd_open_35 ?_
  refine F_get hX fg_Rd_33 d_Rd_open_36 44 (by decide) h14 rfl ?_
  have h16 : f13 51 = ob 1 [.ref (eA E 7), .int (zI 0), .int (zI (0 + e))] := (k15 51 (by decide)).trans ((k12 51 (by decide)).trans ((k9 51 (by decide)).trans h4))
  have h51z : isC E f13 51 7 0 e := by have := h16; rw [Int.zero_add] at this; exact this
  have h17 : f13 7 = iz E 700 g := (k15 7 (by decide)).trans ((k12 7 (by decide)).trans ((k9 7 (by decide)).trans ((k5 7 (by decide)).trans hD.2)))
  refine F_callS hX (st := [.ref (eA E 44)]) (c_Rd_readBeginning51 E f13 g 0 e h17 hB h51z (by omega)) cm_Rd_readBeginning sm_Rd_readBeginning ml_Rd_80 d_Rd_open_39 rfl rfl (Nat.le_of_ble_eq_true rfl) (by decide) ?_
  rintro _ f18 ⟨rfl, ⟨p21, h22, h23, h24⟩, k25⟩
  refine G_cast (st' := [.int (zI (rbV g 0 e)), .ref (eA E 44)]) ?_ rfl rfl rfl rfl
  have b26 := rbV_b hB 0 e
  have h27 : f18 44 = ob 5 [.ref (eA E 45), .ref (eA E 47), .ref (eA E 49), .ref (eA E 51), .ref (eA E 52), .ref (eA E 53), .int x1, .int (zI 4), .int (zI 3), .ref (eA E 49), v5, v6, v7, v8, .int y1, .int y2] := (k25 44 (by decide)).trans h14
  refine F_put hX fg_Rd_84 fp_Rd_6 d_Rd_open_42 44 (fs' := [.ref (eA E 45), .ref (eA E 47), .ref (eA E 49), .ref (eA E 51), .ref (eA E 52), .ref (eA E 53), .int (zI (rbV g 0 e)), .int (zI 4), .int (zI 3), .ref (eA E 49), v5, v6, v7, v8, .int y1, .int y2]) (by decide) h27 rfl rfl (Nat.le_of_ble_eq_true rfl) rfl (fun f28 h29 k30 => ?_)
  refine G_aload_n hX 0 rfl rfl d_Rd_open_45 ?_
  refine F_get hX fg_Rd_84 d_Rd_open_46 44 (by decide) h29 rfl ?_
  refine G_if_le_z hX (tgt := 64) d_Rd_open_49 rfl (by omega) (fun c31 => ?_) (fun c32 => ?_)
  · skip
    refine G_aload_n hX 0 rfl rfl d_Rd_open_64 ?_
    refine F_get hX fg_Rd_84 d_Rd_open_65 44 (by decide) h29 rfl ?_
    refine G_if_eq_z hX (tgt := 79) d_Rd_open_68 rfl (by omega) (fun c33 => ?_) (fun c34 => ?_)
    · skip
      refine G_iconst hX d_Rd_open_79 ?_
      refine G_goto hX (tgt := 85) d_Rd_open_80 rfl ?_
      first
        | (exfalso; omega)
        | (have h35 : f28 51 = ob 1 [.ref (eA E 7), .int (zI p21), .int (zI e)] := (k30 51 (by decide)).trans h22
           exact F_iret hX hE d_Rd_open_85 ⟨by rw [if_pos (by omega)], h29, ⟨_, h35, h23, fun q => by have := h24 q; omega⟩, (Fr.tr (Fr.tr (Fr.tr (Fr.tr (Fr.tr (Fr.tr Fr.rf k5 (by decide)) k9 (by decide)) k12 (by decide)) k15 (by decide)) k25 (by decide)) k30 (by decide))⟩)
    · skip
      refine G_aload_n hX 0 rfl rfl d_Rd_open_71 ?_
      refine F_get hX fg_Rd_84 d_Rd_open_72 44 (by decide) h29 rfl ?_
      refine G_iconst hX d_Rd_open_75 ?_
      refine G_icmp_ne_z hX (tgt := 83) d_Rd_open_76 rfl (by omega) (fun c36 => ?_) (fun c37 => ?_)
      · skip
        refine G_bipush hX (by decide) d_Rd_open_83 ?_
        first
          | (exfalso; omega)
          | (have h38 : f28 51 = ob 1 [.ref (eA E 7), .int (zI p21), .int (zI e)] := (k30 51 (by decide)).trans h22
             exact F_iret hX hE d_Rd_open_85 ⟨by rw [if_neg (by omega), if_neg (by omega)], h29, ⟨_, h38, h23, fun q => by have := h24 q; omega⟩, (Fr.tr (Fr.tr (Fr.tr (Fr.tr (Fr.tr (Fr.tr Fr.rf k5 (by decide)) k9 (by decide)) k12 (by decide)) k15 (by decide)) k25 (by decide)) k30 (by decide))⟩)
      · skip
        refine G_iconst hX d_Rd_open_79 ?_
        refine G_goto hX (tgt := 85) d_Rd_open_80 rfl ?_
        first
          | (exfalso; omega)
          | (have h39 : f28 51 = ob 1 [.ref (eA E 7), .int (zI p21), .int (zI e)] := (k30 51 (by decide)).trans h22
             exact F_iret hX hE d_Rd_open_85 ⟨by rw [if_pos (by omega)], h29, ⟨_, h39, h23, fun q => by have := h24 q; omega⟩, (Fr.tr (Fr.tr (Fr.tr (Fr.tr (Fr.tr (Fr.tr Fr.rf k5 (by decide)) k9 (by decide)) k12 (by decide)) k15 (by decide)) k25 (by decide)) k30 (by decide))⟩)
  · skip
    refine G_aload_n hX 0 rfl rfl d_Rd_open_52 ?_
    refine F_get hX fg_Rd_84 d_Rd_open_53 44 (by decide) h29 rfl ?_
    refine G_iconst hX d_Rd_open_56 ?_
    refine G_iand hX d_Rd_open_57 ?_
    refine G_top (show (zI (rbV g 0 e) &&& zI 1) = zI (rbV g 0 e % 2) from zI_and1 _) ?_
    refine G_if_eq_z hX (tgt := 64) d_Rd_open_58 rfl (by omega) (fun c40 => ?_) (fun c41 => ?_)
    · skip
      refine G_aload_n hX 0 rfl rfl d_Rd_open_64 ?_
      refine F_get hX fg_Rd_84 d_Rd_open_65 44 (by decide) h29 rfl ?_
      refine G_if_eq_z hX (tgt := 79) d_Rd_open_68 rfl (by omega) (fun c42 => ?_) (fun c43 => ?_)
      · skip
        refine G_iconst hX d_Rd_open_79 ?_
        refine G_goto hX (tgt := 85) d_Rd_open_80 rfl ?_
        first
          | (exfalso; omega)
          | (have h44 : f28 51 = ob 1 [.ref (eA E 7), .int (zI p21), .int (zI e)] := (k30 51 (by decide)).trans h22
             exact F_iret hX hE d_Rd_open_85 ⟨by rw [if_pos (by omega)], h29, ⟨_, h44, h23, fun q => by have := h24 q; omega⟩, (Fr.tr (Fr.tr (Fr.tr (Fr.tr (Fr.tr (Fr.tr Fr.rf k5 (by decide)) k9 (by decide)) k12 (by decide)) k15 (by decide)) k25 (by decide)) k30 (by decide))⟩)
      · skip
        refine G_aload_n hX 0 rfl rfl d_Rd_open_71 ?_
        refine F_get hX fg_Rd_84 d_Rd_open_72 44 (by decide) h29 rfl ?_
        refine G_iconst hX d_Rd_open_75 ?_
        refine G_icmp_ne_z hX (tgt := 83) d_Rd_open_76 rfl (by omega) (fun c45 => ?_) (fun c46 => ?_)
        · skip
          refine G_bipush hX (by decide) d_Rd_open_83 ?_
          first
            | (exfalso; omega)
            | (have h47 : f28 51 = ob 1 [.ref (eA E 7), .int (zI p21), .int (zI e)] := (k30 51 (by decide)).trans h22
               exact F_iret hX hE d_Rd_open_85 ⟨by rw [if_neg (by omega), if_neg (by omega)], h29, ⟨_, h47, h23, fun q => by have := h24 q; omega⟩, (Fr.tr (Fr.tr (Fr.tr (Fr.tr (Fr.tr (Fr.tr Fr.rf k5 (by decide)) k9 (by decide)) k12 (by decide)) k15 (by decide)) k25 (by decide)) k30 (by decide))⟩)
        · skip
          refine G_iconst hX d_Rd_open_79 ?_
          refine G_goto hX (tgt := 85) d_Rd_open_80 rfl ?_
          first
            | (exfalso; omega)
            | (have h48 : f28 51 = ob 1 [.ref (eA E 7), .int (zI p21), .int (zI e)] := (k30 51 (by decide)).trans h22
               exact F_iret hX hE d_Rd_open_85 ⟨by rw [if_pos (by omega)], h29, ⟨_, h48, h23, fun q => by have := h24 q; omega⟩, (Fr.tr (Fr.tr (Fr.tr (Fr.tr (Fr.tr (Fr.tr Fr.rf k5 (by decide)) k9 (by decide)) k12 (by decide)) k15 (by decide)) k25 (by decide)) k30 (by decide))⟩)
    · skip
      refine G_bipush hX (by decide) d_Rd_open_61 ?_
      first
        | (exfalso; omega)
        | (have h49 : f28 51 = ob 1 [.ref (eA E 7), .int (zI p21), .int (zI e)] := (k30 51 (by decide)).trans h22
           exact F_iret hX hE d_Rd_open_63 ⟨by rw [if_neg (by omega), if_pos (by omega)], h29, ⟨_, h49, h23, fun q => by have := h24 q; omega⟩, (Fr.tr (Fr.tr (Fr.tr (Fr.tr (Fr.tr (Fr.tr Fr.rf k5 (by decide)) k9 (by decide)) k12 (by decide)) k15 (by decide)) k25 (by decide)) k30 (by decide))⟩)
theorem c_Rd_tableFollows (E : EV) (f : Nat → va_E) (x1 : Int) (x2 x3 : Int32) (v4 v5 v6 v7 v8 : Value) (y1 y2 : Int32) (h44 : f 44 = ob 5 [.ref (eA E 45), .ref (eA E 47), .ref (eA E 49), .ref (eA E 51), .ref (eA E 52), .ref (eA E 53), .int (zI x1), .int x2, .int x3, v4, v5, v6, v7, v8, .int y1, .int y2]) (hx : -1 ≤ x1 ∧ x1 < 256) : CF yn_Rd_tableFollows cd_Rd_tableFollows 1 (some (.boolean)) 0 E [.ref (eA E 44)] f (fun r f' => r = some (.int (zI (if x1 = 2 then 1 else 0))) ∧ f' = f) := by
  refine CF.of (by decide +kernel) (Nat.le_of_ble_eq_true rfl) fun X hX hE => ?_
  have hX : Ok E X "DeltaFerry$Reader" "tableFollows" cd_Rd_tableFollows 1 (some (.boolean)) (rl 0) := hX
  refine G_cast (lv' := [(0, .ref (eA E 44))]) ?_ rfl rfl rfl rfl
  refine G_aload_n hX 0 rfl rfl d_Rd_tableFollows_0 ?_
  refine F_get hX fg_Rd_84 d_Rd_tableFollows_1 44 (by decide) h44 rfl ?_
  refine G_iconst hX d_Rd_tableFollows_4 ?_
  refine G_icmp_ne_z hX (tgt := 12) d_Rd_tableFollows_5 rfl (by omega) (fun c1 => ?_) (fun c2 => ?_)
  · skip
    refine G_iconst hX d_Rd_tableFollows_12 ?_
    exact F_zret hX hE (by decide) d_Rd_tableFollows_13 ⟨by rw [if_neg (by omega)], rfl⟩
  · skip
    refine G_iconst hX d_Rd_tableFollows_8 ?_
    refine G_goto hX (tgt := 13) d_Rd_tableFollows_9 rfl ?_
    exact F_zret hX hE (by decide) d_Rd_tableFollows_13 ⟨by rw [if_pos (by omega)], rfl⟩
theorem c_Rd_enterTable (E : EV) (f : Nat → va_E) (g : Int → Int) (e : Int) (x1 x2 x3 : Int32) (v4 v5 v6 v7 v8 : Value) (y1 y2 : Int32) (w1 : Value) (a1 b1 : Int32) (h44 : f 44 = ob 5 [.ref (eA E 45), .ref (eA E 47), .ref (eA E 49), .ref (eA E 51), .ref (eA E 52), .ref (eA E 53), .int x1, .int x2, .int x3, v4, v5, v6, v7, v8, .int y1, .int y2]) (h51 : isC E f 51 7 5 e) (h52 : f 52 = ob 1 [w1, .int a1, .int b1]) (hg : f 7 = iz E 700 g) (hB : isB g) (hb : 5 ≤ e ∧ e ≤ 700) : CF yn_Rd_enterTable cd_Rd_enterTable 2 (some (.int)) 2 E [.ref (eA E 44)] f (fun r f' => (¬ ((tN g e).1 < 2 ∨ e - (tN g e).2 < (tN g e).1) ∧ ¬ (8 < g (tN g e).2 ∨ 4 < g ((tN g e).2 + 1) ∨ ¬ rbV g ((tN g e).2 + 2) (tE g e) = 0) ∧ r = some (.int (zI 0)) ∧ f' 44 = ob 5 [.ref (eA E 45), .ref (eA E 47), .ref (eA E 49), .ref (eA E 51), .ref (eA E 52), .ref (eA E 53), .int x1, .int (zI (g (tN g e).2)), .int (zI (g ((tN g e).2 + 1))), v4, .ref (eA E 52), .ref (eA E 49), .ref (eA E 47), .ref (eA E 49), .int (zI 4), .int (zI 3)] ∧ isC E f' 51 7 (tE g e) e ∧ isC E f' 52 7 ((tN g e).2 + 7) (tE g e) ∧ Fr [44, 51, 52] f f') ∨ ((((tN g e).1 < 2 ∨ e - (tN g e).2 < (tN g e).1) ∨ (¬ ((tN g e).1 < 2 ∨ e - (tN g e).2 < (tN g e).1) ∧ (8 < g (tN g e).2 ∨ 4 < g ((tN g e).2 + 1) ∨ ¬ rbV g ((tN g e).2 + 2) (tE g e) = 0))) ∧ r = some (.int (zI (if ((tN g e).1 < 2 ∨ e - (tN g e).2 < (tN g e).1) then -2 else -5))) ∧ rdS E f' ∧ cuS E f' 51 ∧ cuS E f' 52 ∧ Fr [44, 51, 52] f f')) := by
  refine CF.of (by decide +kernel) (Nat.le_of_ble_eq_true rfl) fun X hX hE => ?_
  have hX : Ok E X "DeltaFerry$Reader" "enterTable" cd_Rd_enterTable 2 (some (.int)) (rl 2) := hX
  refine G_cast (lv' := [(0, .ref (eA E 44))]) ?_ rfl rfl rfl rfl
  have hnb : -1 ≤ (tN g e).1 ∧ (tN g e).1 < 268435456 ∧ 5 ≤ (tN g e).2 ∧ (tN g e).2 ≤ e := num_b hB (by omega)
  have htE : tE g e = (tN g e).2 + (tN g e).1 := rfl
  refine G_aload_n hX 0 rfl rfl d_Rd_enterTable_0 ?_
  refine F_get hX fg_Rd_33 d_Rd_enterTable_1 44 (by decide) h44 rfl ?_
  refine F_callV hX (st := []) (c_Cu_number E f 51 7 700 g 5 e (by decide) (by decide) (by decide) h51 hg (by omega) hB) cm_Cu_number im_Cu_number se_Cu_number rfl ml_Rd_87 d_Rd_enterTable_4 (by decide) h51 rfl rfl (Nat.le_of_ble_eq_true rfl) (by decide) ?_
  rintro _ f1 ⟨rfl, h4, k5⟩
  refine G_cast (st' := [.int (zI ((numL g e 4 5 0).1))]) ?_ rfl rfl rfl rfl
  refine G_top (show zI ((numL g e 4 5 0).1) = zI ((tN g e).1) from rfl) ?_
  have h6 : f1 51 = ob 1 [.ref (eA E 7), .int (zI ((tN g e).2)), .int (zI e)] := h4
  refine G_istore_n hX (lv' := [(1, .int (zI ((tN g e).1))), (0, .ref (eA E 44))]) rfl (by decide) rfl d_Rd_enterTable_7 ?_
  refine G_iload_n hX 0 rfl rfl d_Rd_enterTable_8 ?_
  refine G_iconst hX d_Rd_enterTable_9 ?_
  refine G_icmp_lt_z hX (tgt := 24) d_Rd_enterTable_10 rfl (by omega) (fun c7 => ?_) (fun c8 => ?_)
  · skip
    refine G_bipush hX (by decide) d_Rd_enterTable_24 ?_
    have h9 : f1 44 = ob 5 [.ref (eA E 45), .ref (eA E 47), .ref (eA E 49), .ref (eA E 51), .ref (eA E 52), .ref (eA E 53), .int x1, .int x2, .int x3, v4, v5, v6, v7, v8, .int y1, .int y2] := (k5 44 (by decide)).trans h44
    have h10 : f1 52 = ob 1 [w1, .int a1, .int b1] := (k5 52 (by decide)).trans h52
    exact F_iret hX hE d_Rd_enterTable_26 (Or.inr ⟨by omega, by rw [if_pos (by omega)], ⟨_, _, _, _, _, _, _, _, _, _, h9⟩, ⟨_, _, _, h6⟩, ⟨_, _, _, h10⟩, (Fr.tr Fr.rf k5 (by decide))⟩)
  · skip
    refine G_iload_n hX 0 rfl rfl d_Rd_enterTable_13 ?_
    refine G_aload_n hX 1 rfl rfl d_Rd_enterTable_14 ?_
    have h11 : f1 44 = ob 5 [.ref (eA E 45), .ref (eA E 47), .ref (eA E 49), .ref (eA E 51), .ref (eA E 52), .ref (eA E 53), .int x1, .int x2, .int x3, v4, v5, v6, v7, v8, .int y1, .int y2] := (k5 44 (by decide)).trans h44
    refine F_get hX fg_Rd_33 d_Rd_enterTable_15 44 (by decide) h11 rfl ?_
    have h12 : f1 7 = iz E 700 g := (k5 7 (by decide)).trans hg
    refine F_callV hX (st := [.int (zI ((tN g e).1))]) (c_Cu_left E f1 51 7 700 g ((tN g e).2) e (by decide) (by decide) (by decide) h6 h12 (by omega)) cm_Cu_left im_Cu_left se_Cu_left rfl ml_Rd_91 d_Rd_enterTable_18 (by decide) h6 rfl rfl (Nat.le_of_ble_eq_true rfl) (by decide) ?_
    rintro _ f13 ⟨rfl, e16⟩
    obtain rfl := e16.symm
    refine G_cast (st' := [.int (zI (e - ((tN g e).2))), .int (zI ((tN g e).1))]) ?_ rfl rfl rfl rfl
    refine G_icmp_le_z hX (tgt := 27) d_Rd_enterTable_21 rfl (by omega) (fun c17 => ?_) (fun c18 => ?_)
    · skip
      refine G_aload_n hX 1 rfl rfl d_Rd_enterTable_27 ?_
      refine F_get hX fg_Rd_37 d_Rd_enterTable_28 44 (by decide) h11 rfl ?_
      refine G_aload_n hX 1 rfl rfl d_Rd_enterTable_31 ?_
      refine F_get hX fg_Rd_33 d_Rd_enterTable_32 44 (by decide) h11 rfl ?_
      refine F_get hX fg_Rd_94 d_Rd_enterTable_35 51 (by decide) h6 rfl ?_
      refine G_aload_n hX 1 rfl rfl d_Rd_enterTable_38 ?_
      refine F_get hX fg_Rd_33 d_Rd_enterTable_39 44 (by decide) h11 rfl ?_
      refine F_get hX fg_Rd_95 d_Rd_enterTable_42 51 (by decide) h6 rfl ?_
      refine G_iload_n hX 0 rfl rfl d_Rd_enterTable_45 ?_
      have h19 : f1 52 = ob 1 [w1, .int a1, .int b1] := (k5 52 (by decide)).trans h52
      refine F_callV hX (st := []) (c_Cu_open E f1 52 7 w1 a1 b1 ((tN g e).2) ((tN g e).1) (by decide) h19) cm_Cu_open im_Cu_open se_Cu_open rfl ml_Rd_70 d_Rd_enterTable_46 (by decide) h19 rfl rfl (Nat.le_of_ble_eq_true rfl) (by decide) ?_
      rintro _ f20 ⟨rfl, h23, k24⟩
      refine G_cast (st' := []) ?_ rfl rfl rfl rfl
      have h25 : f20 52 = ob 1 [.ref (eA E 7), .int (zI ((tN g e).2)), .int (zI (tE g e))] := h23
      refine G_aload_n hX 1 rfl rfl d_Rd_enterTable_49 ?_
      have h26 : f20 44 = ob 5 [.ref (eA E 45), .ref (eA E 47), .ref (eA E 49), .ref (eA E 51), .ref (eA E 52), .ref (eA E 53), .int x1, .int x2, .int x3, v4, v5, v6, v7, v8, .int y1, .int y2] := (k24 44 (by decide)).trans h11
      refine F_get hX fg_Rd_33 d_Rd_enterTable_50 44 (by decide) h26 rfl ?_
      refine G_dup hX rfl d_Rd_enterTable_53 ?_
      have h27 : f20 51 = ob 1 [.ref (eA E 7), .int (zI ((tN g e).2)), .int (zI e)] := (k24 51 (by decide)).trans h6
      refine F_get hX fg_Rd_95 d_Rd_enterTable_54 51 (by decide) h27 rfl ?_
      refine G_iload_n hX 0 rfl rfl d_Rd_enterTable_57 ?_
      refine G_iadd_z hX d_Rd_enterTable_58 ?_
      refine F_put hX fg_Rd_95 fp_Cu_1 d_Rd_enterTable_59 51 (fs' := [.ref (eA E 7), .int (zI (((tN g e).2) + ((tN g e).1))), .int (zI e)]) (by decide) h27 rfl rfl (Nat.le_of_ble_eq_true rfl) rfl (fun f28 h29 k30 => ?_)
      have h31 : f28 51 = ob 1 [.ref (eA E 7), .int (zI (tE g e)), .int (zI e)] := h29
      refine G_aload_n hX 1 rfl rfl d_Rd_enterTable_62 ?_
      refine G_aload_n hX 1 rfl rfl d_Rd_enterTable_63 ?_
      have h32 : f28 44 = ob 5 [.ref (eA E 45), .ref (eA E 47), .ref (eA E 49), .ref (eA E 51), .ref (eA E 52), .ref (eA E 53), .int x1, .int x2, .int x3, v4, v5, v6, v7, v8, .int y1, .int y2] := (k30 44 (by decide)).trans h26
      refine F_get hX fg_Rd_37 d_Rd_enterTable_64 44 (by decide) h32 rfl ?_
      have h33 : f28 52 = ob 1 [.ref (eA E 7), .int (zI ((tN g e).2)), .int (zI (tE g e))] := (k30 52 (by decide)).trans h25
      have h34 : f28 7 = iz E 700 g := (k30 7 (by decide)).trans ((k24 7 (by decide)).trans h12)
      refine F_callV hX (st := [.ref (eA E 44)]) (c_Cu_next E f28 52 7 700 g ((tN g e).2) (tE g e) (by decide) (by decide) (by decide) h33 h34 (by omega)) cm_Cu_next im_Cu_next se_Cu_next rfl ml_Rd_98 d_Rd_enterTable_67 (by decide) h33 rfl rfl (Nat.le_of_ble_eq_true rfl) (by decide) ?_
      rintro _ f35 ⟨rfl, h38, k39⟩
      refine G_cast (st' := [.int (zI (nxV g ((tN g e).2) (tE g e))), .ref (eA E 44)]) ?_ rfl rfl rfl rfl
      have hl0 : (tN g e).2 < tE g e := by omega
      have h40 : isC E f35 52 7 ((tN g e).2 + 1) (tE g e) := by have := h38; rw [nxP_lt hl0] at this; exact this
      refine G_top (show zI (nxV g ((tN g e).2) (tE g e)) = zI (g (tN g e).2) from by rw [nxV_lt hl0]) ?_
      have b41 := hB ((tN g e).2)
      have h42 : f35 44 = ob 5 [.ref (eA E 45), .ref (eA E 47), .ref (eA E 49), .ref (eA E 51), .ref (eA E 52), .ref (eA E 53), .int x1, .int x2, .int x3, v4, v5, v6, v7, v8, .int y1, .int y2] := (k39 44 (by decide)).trans h32
      refine F_put hX fg_Rd_74 fp_Rd_7 d_Rd_enterTable_70 44 (fs' := [.ref (eA E 45), .ref (eA E 47), .ref (eA E 49), .ref (eA E 51), .ref (eA E 52), .ref (eA E 53), .int x1, .int (zI (g (tN g e).2)), .int x3, v4, v5, v6, v7, v8, .int y1, .int y2]) (by decide) h42 rfl rfl (Nat.le_of_ble_eq_true rfl) rfl (fun f43 h44 k45 => ?_)
      refine G_aload_n hX 1 rfl rfl d_Rd_enterTable_73 ?_
      refine G_aload_n hX 1 rfl rfl d_Rd_enterTable_74 ?_
      refine F_get hX fg_Rd_37 d_Rd_enterTable_75 44 (by decide) h44 rfl ?_
      have h46 : f43 52 = ob 1 [.ref (eA E 7), .int (zI ((tN g e).2 + 1)), .int (zI (tE g e))] := (k45 52 (by decide)).trans h40
      have h47 : f43 7 = iz E 700 g := (k45 7 (by decide)).trans ((k39 7 (by decide)).trans h34)
      refine F_callV hX (st := [.ref (eA E 44)]) (c_Cu_next E f43 52 7 700 g ((tN g e).2 + 1) (tE g e) (by decide) (by decide) (by decide) h46 h47 (by omega)) cm_Cu_next im_Cu_next se_Cu_next rfl ml_Rd_98 d_Rd_enterTable_78 (by decide) h46 rfl rfl (Nat.le_of_ble_eq_true rfl) (by decide) ?_
      rintro _ f48 ⟨rfl, h51, k52⟩
      refine G_cast (st' := [.int (zI (nxV g ((tN g e).2 + 1) (tE g e))), .ref (eA E 44)]) ?_ rfl rfl rfl rfl
      have hl1 : (tN g e).2 + 1 < tE g e := by omega
      have h53 : isC E f48 52 7 ((tN g e).2 + 2) (tE g e) := by have := h51; rw [nxP_lt hl1, show (tN g e).2 + 1 + 1 = (tN g e).2 + 2 by omega] at this; exact this
      refine G_top (show zI (nxV g ((tN g e).2 + 1) (tE g e)) = zI (g ((tN g e).2 + 1)) from by rw [nxV_lt hl1]) ?_
      have b54 := hB ((tN g e).2 + 1)
      have h55 : f48 44 = ob 5 [.ref (eA E 45), .ref (eA E 47), .ref (eA E 49), .ref (eA E 51), .ref (eA E 52), .ref (eA E 53), .int x1, .int (zI (g (tN g e).2)), .int x3, v4, v5, v6, v7, v8, .int y1, .int y2] := (k52 44 (by decide)).trans h44
      refine F_put hX fg_Rd_77 fp_Rd_8 d_Rd_enterTable_81 44 (fs' := [.ref (eA E 45), .ref (eA E 47), .ref (eA E 49), .ref (eA E 51), .ref (eA E 52), .ref (eA E 53), .int x1, .int (zI (g (tN g e).2)), .int (zI (g ((tN g e).2 + 1))), v4, v5, v6, v7, v8, .int y1, .int y2]) (by decide) h55 rfl rfl (Nat.le_of_ble_eq_true rfl) rfl (fun f56 h57 k58 => ?_)
      refine G_aload_n hX 1 rfl rfl d_Rd_enterTable_84 ?_
      refine F_get hX fg_Rd_74 d_Rd_enterTable_85 44 (by decide) h57 rfl ?_
      refine G_bipush hX (by decide) d_Rd_enterTable_88 ?_
      refine G_icmp_gt_z hX (tgt := 111) d_Rd_enterTable_90 rfl (by omega) (fun c59 => ?_) (fun c60 => ?_)
      · skip
        refine G_bipush hX (by decide) d_Rd_enterTable_111 ?_
        have h61 : f56 51 = ob 1 [.ref (eA E 7), .int (zI (tE g e)), .int (zI e)] := (k58 51 (by decide)).trans ((k52 51 (by decide)).trans ((k45 51 (by decide)).trans ((k39 51 (by decide)).trans h31)))
        have h62 : f56 52 = ob 1 [.ref (eA E 7), .int (zI ((tN g e).2 + 2)), .int (zI (tE g e))] := (k58 52 (by decide)).trans h53
        exact F_iret hX hE d_Rd_enterTable_113 (Or.inr ⟨by omega, by rw [if_neg (by omega)], ⟨_, _, _, _, _, _, _, _, _, _, h57⟩, ⟨_, _, _, h61⟩, ⟨_, _, _, h62⟩, (Fr.tr (Fr.tr (Fr.tr (Fr.tr (Fr.tr (Fr.tr (Fr.tr Fr.rf k5 (by decide)) k24 (by decide)) k30 (by decide)) k39 (by decide)) k45 (by decide)) k52 (by decide)) k58 (by decide))⟩)
      · skip
        refine G_aload_n hX 1 rfl rfl d_Rd_enterTable_93 ?_
        refine F_get hX fg_Rd_77 d_Rd_enterTable_94 44 (by decide) h57 rfl ?_
        refine G_iconst hX d_Rd_enterTable_97 ?_
        refine G_icmp_gt_z hX (tgt := 111) d_Rd_enterTable_98 rfl (by omega) (fun c63 => ?_) (fun c64 => ?_)
        · skip
          refine G_bipush hX (by decide) d_Rd_enterTable_111 ?_
          have h65 : f56 51 = ob 1 [.ref (eA E 7), .int (zI (tE g e)), .int (zI e)] := (k58 51 (by decide)).trans ((k52 51 (by decide)).trans ((k45 51 (by decide)).trans ((k39 51 (by decide)).trans h31)))
          have h66 : f56 52 = ob 1 [.ref (eA E 7), .int (zI ((tN g e).2 + 2)), .int (zI (tE g e))] := (k58 52 (by decide)).trans h53
          exact F_iret hX hE d_Rd_enterTable_113 (Or.inr ⟨by omega, by rw [if_neg (by omega)], ⟨_, _, _, _, _, _, _, _, _, _, h57⟩, ⟨_, _, _, h65⟩, ⟨_, _, _, h66⟩, (Fr.tr (Fr.tr (Fr.tr (Fr.tr (Fr.tr (Fr.tr (Fr.tr Fr.rf k5 (by decide)) k24 (by decide)) k30 (by decide)) k39 (by decide)) k45 (by decide)) k52 (by decide)) k58 (by decide))⟩)
        · skip
          refine G_aload_n hX 1 rfl rfl d_Rd_enterTable_101 ?_
          refine F_get hX fg_Rd_37 d_Rd_enterTable_102 44 (by decide) h57 rfl ?_
          have h67 : f56 52 = ob 1 [.ref (eA E 7), .int (zI ((tN g e).2 + 2)), .int (zI (tE g e))] := (k58 52 (by decide)).trans h53
          have h68 : f56 7 = iz E 700 g := (k58 7 (by decide)).trans ((k52 7 (by decide)).trans h47)
          refine F_callS hX (st := []) (c_Rd_readBeginning52 E f56 g ((tN g e).2 + 2) (tE g e) h68 hB h67 (by omega)) cm_Rd_readBeginning sm_Rd_readBeginning ml_Rd_80 d_Rd_enterTable_105 rfl rfl (Nat.le_of_ble_eq_true rfl) (by decide) ?_
          rintro _ f69 ⟨rfl, ⟨p72, h73, h74, h75⟩, k76⟩
          refine G_cast (st' := [.int (zI (rbV g ((tN g e).2 + 2) (tE g e)))]) ?_ rfl rfl rfl rfl
          have b77 := rbV_b hB ((tN g e).2 + 2) (tE g e)
          refine G_if_eq_z hX (tgt := 114) d_Rd_enterTable_108 rfl (by omega) (fun c78 => ?_) (fun c79 => ?_)
          · skip
            refine G_aload_n hX 1 rfl rfl d_Rd_enterTable_114 ?_
            refine G_aload_n hX 1 rfl rfl d_Rd_enterTable_115 ?_
            have h80 : f69 44 = ob 5 [.ref (eA E 45), .ref (eA E 47), .ref (eA E 49), .ref (eA E 51), .ref (eA E 52), .ref (eA E 53), .int x1, .int (zI (g (tN g e).2)), .int (zI (g ((tN g e).2 + 1))), v4, v5, v6, v7, v8, .int y1, .int y2] := (k76 44 (by decide)).trans h57
            refine F_get hX fg_Rd_37 d_Rd_enterTable_116 44 (by decide) h80 rfl ?_
            refine F_put hX fg_Rd_50 fp_Rd_10 d_Rd_enterTable_119 44 (fs' := [.ref (eA E 45), .ref (eA E 47), .ref (eA E 49), .ref (eA E 51), .ref (eA E 52), .ref (eA E 53), .int x1, .int (zI (g (tN g e).2)), .int (zI (g ((tN g e).2 + 1))), v4, .ref (eA E 52), v6, v7, v8, .int y1, .int y2]) (by decide) h80 rfl rfl (Nat.le_of_ble_eq_true rfl) rfl (fun f81 h82 k83 => ?_)
            refine G_aload_n hX 1 rfl rfl d_Rd_enterTable_122 ?_
            refine G_aload_n hX 1 rfl rfl d_Rd_enterTable_123 ?_
            refine F_get hX fg_Rd_27 d_Rd_enterTable_124 44 (by decide) h82 rfl ?_
            refine F_put hX fg_Rd_53 fp_Rd_11 d_Rd_enterTable_127 44 (fs' := [.ref (eA E 45), .ref (eA E 47), .ref (eA E 49), .ref (eA E 51), .ref (eA E 52), .ref (eA E 53), .int x1, .int (zI (g (tN g e).2)), .int (zI (g ((tN g e).2 + 1))), v4, .ref (eA E 52), .ref (eA E 49), v7, v8, .int y1, .int y2]) (by decide) h82 rfl rfl (Nat.le_of_ble_eq_true rfl) rfl (fun f84 h85 k86 => ?_)
            refine G_aload_n hX 1 rfl rfl d_Rd_enterTable_130 ?_
            refine G_aload_n hX 1 rfl rfl d_Rd_enterTable_131 ?_
            refine F_get hX fg_Rd_20 d_Rd_enterTable_132 44 (by decide) h85 rfl ?_
            refine F_put hX fg_Rd_56 fp_Rd_12 d_Rd_enterTable_135 44 (fs' := [.ref (eA E 45), .ref (eA E 47), .ref (eA E 49), .ref (eA E 51), .ref (eA E 52), .ref (eA E 53), .int x1, .int (zI (g (tN g e).2)), .int (zI (g ((tN g e).2 + 1))), v4, .ref (eA E 52), .ref (eA E 49), .ref (eA E 47), v8, .int y1, .int y2]) (by decide) h85 rfl rfl (Nat.le_of_ble_eq_true rfl) rfl (fun f87 h88 k89 => ?_)
            refine G_aload_n hX 1 rfl rfl d_Rd_enterTable_138 ?_
            refine G_aload_n hX 1 rfl rfl d_Rd_enterTable_139 ?_
            refine F_get hX fg_Rd_27 d_Rd_enterTable_140 44 (by decide) h88 rfl ?_
            refine F_put hX fg_Rd_59 fp_Rd_13 d_Rd_enterTable_143 44 (fs' := [.ref (eA E 45), .ref (eA E 47), .ref (eA E 49), .ref (eA E 51), .ref (eA E 52), .ref (eA E 53), .int x1, .int (zI (g (tN g e).2)), .int (zI (g ((tN g e).2 + 1))), v4, .ref (eA E 52), .ref (eA E 49), .ref (eA E 47), .ref (eA E 49), .int y1, .int y2]) (by decide) h88 rfl rfl (Nat.le_of_ble_eq_true rfl) rfl (fun f90 h91 k92 => ?_)
            refine G_aload_n hX 1 rfl rfl d_Rd_enterTable_146 ?_
            refine G_iconst hX d_Rd_enterTable_147 ?_
            refine F_put hX fg_Rd_101 fp_Rd_14 d_Rd_enterTable_148 44 (fs' := [.ref (eA E 45), .ref (eA E 47), .ref (eA E 49), .ref (eA E 51), .ref (eA E 52), .ref (eA E 53), .int x1, .int (zI (g (tN g e).2)), .int (zI (g ((tN g e).2 + 1))), v4, .ref (eA E 52), .ref (eA E 49), .ref (eA E 47), .ref (eA E 49), .int (zI 4), .int y2]) (by decide) h91 rfl rfl (Nat.le_of_ble_eq_true rfl) rfl (fun f93 h94 k95 => ?_)
            refine G_aload_n hX 1 rfl rfl d_Rd_enterTable_151 ?_
            refine G_iconst hX d_Rd_enterTable_152 ?_
            refine F_put hX fg_Rd_104 fp_Rd_15 d_Rd_enterTable_153 44 (fs' := [.ref (eA E 45), .ref (eA E 47), .ref (eA E 49), .ref (eA E 51), .ref (eA E 52), .ref (eA E 53), .int x1, .int (zI (g (tN g e).2)), .int (zI (g ((tN g e).2 + 1))), v4, .ref (eA E 52), .ref (eA E 49), .ref (eA E 47), .ref (eA E 49), .int (zI 4), .int (zI 3)]) (by decide) h94 rfl rfl (Nat.le_of_ble_eq_true rfl) rfl (fun f96 h97 k98 => ?_)
            refine G_iconst hX d_Rd_enterTable_156 ?_
            have ep : p72 = (tN g e).2 + 7 := by have := h75 (by omega); omega
            have h99 : f96 51 = ob 1 [.ref (eA E 7), .int (zI (tE g e)), .int (zI e)] := (k98 51 (by decide)).trans ((k95 51 (by decide)).trans ((k92 51 (by decide)).trans ((k89 51 (by decide)).trans ((k86 51 (by decide)).trans ((k83 51 (by decide)).trans ((k76 51 (by decide)).trans ((k58 51 (by decide)).trans ((k52 51 (by decide)).trans ((k45 51 (by decide)).trans ((k39 51 (by decide)).trans h31))))))))))
            have h100 : f96 52 = ob 1 [.ref (eA E 7), .int (zI p72), .int (zI (tE g e))] := (k98 52 (by decide)).trans ((k95 52 (by decide)).trans ((k92 52 (by decide)).trans ((k89 52 (by decide)).trans ((k86 52 (by decide)).trans ((k83 52 (by decide)).trans h73)))))
            exact F_iret hX hE d_Rd_enterTable_157 (Or.inl ⟨by omega, by omega, rfl, h97, h99, by rw [← ep]; exact h100, (Fr.tr (Fr.tr (Fr.tr (Fr.tr (Fr.tr (Fr.tr (Fr.tr (Fr.tr (Fr.tr (Fr.tr (Fr.tr (Fr.tr (Fr.tr (Fr.tr Fr.rf k5 (by decide)) k24 (by decide)) k30 (by decide)) k39 (by decide)) k45 (by decide)) k52 (by decide)) k58 (by decide)) k76 (by decide)) k83 (by decide)) k86 (by decide)) k89 (by decide)) k92 (by decide)) k95 (by decide)) k98 (by decide))⟩)
          · skip
            refine G_bipush hX (by decide) d_Rd_enterTable_111 ?_
            have h101 : f69 44 = ob 5 [.ref (eA E 45), .ref (eA E 47), .ref (eA E 49), .ref (eA E 51), .ref (eA E 52), .ref (eA E 53), .int x1, .int (zI (g (tN g e).2)), .int (zI (g ((tN g e).2 + 1))), v4, v5, v6, v7, v8, .int y1, .int y2] := (k76 44 (by decide)).trans h57
            have h102 : f69 51 = ob 1 [.ref (eA E 7), .int (zI (tE g e)), .int (zI e)] := (k76 51 (by decide)).trans ((k58 51 (by decide)).trans ((k52 51 (by decide)).trans ((k45 51 (by decide)).trans ((k39 51 (by decide)).trans h31))))
            exact F_iret hX hE d_Rd_enterTable_113 (Or.inr ⟨by omega, by rw [if_neg (by omega)], ⟨_, _, _, _, _, _, _, _, _, _, h101⟩, ⟨_, _, _, h102⟩, ⟨_, _, _, h73⟩, (Fr.tr (Fr.tr (Fr.tr (Fr.tr (Fr.tr (Fr.tr (Fr.tr (Fr.tr Fr.rf k5 (by decide)) k24 (by decide)) k30 (by decide)) k39 (by decide)) k45 (by decide)) k52 (by decide)) k58 (by decide)) k76 (by decide))⟩)
    · skip
      refine G_bipush hX (by decide) d_Rd_enterTable_24 ?_
      have h103 : f1 52 = ob 1 [w1, .int a1, .int b1] := (k5 52 (by decide)).trans h52
      exact F_iret hX hE d_Rd_enterTable_26 (Or.inr ⟨by omega, by rw [if_pos (by omega)], ⟨_, _, _, _, _, _, _, _, _, _, h11⟩, ⟨_, _, _, h6⟩, ⟨_, _, _, h103⟩, (Fr.tr Fr.rf k5 (by decide))⟩)
theorem c_Rd_leaveTable (E : EV) (f : Nat → va_E) (t : Int → Int) (c a : Int) (x1 : Int32) (x2 x3 : Int) (v4 v5 v6 v7 v8 : Value) (y1 y2 : Int) (h44 : f 44 = ob 5 [.ref (eA E 45), .ref (eA E 47), .ref (eA E 49), .ref (eA E 51), .ref (eA E 52), .ref (eA E 53), .int x1, .int (zI x2), .int (zI x3), v4, v5, v6, v7, v8, .int (zI y1), .int (zI y2)]) (hR : isR E f 47 48 1536 t c) (hB : isB t) (hc : 0 ≤ c ∧ c ≤ 1536) (ha : -100 ≤ a ∧ a ≤ 100) : CF yn_Rd_leaveTable cd_Rd_leaveTable 2 (some (.int)) 1 E [.ref (eA E 44), .int (zI a)] f (fun r f' => r = some (.int (zI (if a = 0 ∧ c = 1536 ∧ tbB t = true then 0 else -5))) ∧ f' 44 = ob 5 [.ref (eA E 45), .ref (eA E 47), .ref (eA E 49), .ref (eA E 51), .ref (eA E 52), .ref (eA E 53), .int x1, .int (zI x2), .int (zI x3), .ref (eA E 47), v5, v6, v7, v8, .int (zI y1), .int (zI y2)] ∧ Fr [44] f f') := by
  refine CF.of (by decide +kernel) (Nat.le_of_ble_eq_true rfl) fun X hX hE => ?_
  have hX : Ok E X "DeltaFerry$Reader" "leaveTable" cd_Rd_leaveTable 2 (some (.int)) (rl 1) := hX
  refine G_cast (lv' := [(0, .ref (eA E 44)), (1, .int (zI a))]) ?_ rfl rfl rfl rfl
  refine G_aload_n hX 0 rfl rfl d_Rd_leaveTable_0 ?_
  refine G_aload_n hX 0 rfl rfl d_Rd_leaveTable_1 ?_
  refine F_get hX fg_Rd_20 d_Rd_leaveTable_2 44 (by decide) h44 rfl ?_
  refine F_put hX fg_Rd_47 fp_Rd_9 d_Rd_leaveTable_5 44 (fs' := [.ref (eA E 45), .ref (eA E 47), .ref (eA E 49), .ref (eA E 51), .ref (eA E 52), .ref (eA E 53), .int x1, .int (zI x2), .int (zI x3), .ref (eA E 47), v5, v6, v7, v8, .int (zI y1), .int (zI y2)]) (by decide) h44 rfl rfl (Nat.le_of_ble_eq_true rfl) rfl (fun f1 h2 k3 => ?_)
  refine G_iload_n hX 1 rfl rfl d_Rd_leaveTable_8 ?_
  refine G_if_ne_z hX (tgt := 26) d_Rd_leaveTable_9 rfl (by omega) (fun c4 => ?_) (fun c5 => ?_)
  · skip
    refine G_bipush hX (by decide) d_Rd_leaveTable_26 ?_
    first
      | (exfalso; omega)
      | (exact F_iret hX hE d_Rd_leaveTable_28 ⟨by first | (rw [if_neg (fun q => absurd q.1 (by omega))]; done) | (rw [if_neg (fun q => hT q.2)]), h2, (Fr.tr Fr.rf k3 (by decide))⟩)
  · skip
    refine G_aload_n hX 0 rfl rfl d_Rd_leaveTable_12 ?_
    refine F_get hX fg_Rd_20 d_Rd_leaveTable_13 44 (by decide) h2 rfl ?_
    have h6 : f1 47 = ob 6 [.ref (eA E 48), .int (zI c)] := (k3 47 (by decide)).trans hR.1
    have h7 : f1 48 = iz E 1536 t := (k3 48 (by decide)).trans hR.2
    refine F_callS hX (st := []) (c_Rd_isTable E f1 t c ⟨h6, h7⟩ hB hc) cm_Rd_isTable sm_Rd_isTable ml_Rd_107 d_Rd_leaveTable_16 rfl rfl (Nat.le_of_ble_eq_true rfl) (by decide) ?_
    rintro _ f8 ⟨rfl, e11⟩
    obtain rfl := e11.symm
    refine G_cast (st' := [.int (zI (if c = 1536 ∧ tbB t = true then 1 else 0))]) ?_ rfl rfl rfl rfl
    by_cases hT : c = 1536 ∧ tbB t = true
    · skip
      refine G_top (show zI (if c = 1536 ∧ tbB t = true then 1 else 0) = zI 1 from by rw [if_pos hT]) ?_
      refine G_if_eq_z hX (tgt := 26) d_Rd_leaveTable_19 rfl (by omega) (fun c12 => by exfalso; omega) (fun c13 => ?_)
      refine G_iconst hX d_Rd_leaveTable_22 ?_
      refine G_goto hX (tgt := 28) d_Rd_leaveTable_23 rfl ?_
      first
        | (exfalso; omega)
        | (exact F_iret hX hE d_Rd_leaveTable_28 ⟨by rw [if_pos ⟨by omega, hT⟩], h2, (Fr.tr Fr.rf k3 (by decide))⟩)
    · skip
      refine G_top (show zI (if c = 1536 ∧ tbB t = true then 1 else 0) = zI 0 from by rw [if_neg hT]) ?_
      refine G_if_eq_z hX (tgt := 26) d_Rd_leaveTable_19 rfl (by omega) (fun c14 => ?_) (fun c15 => by exfalso; omega)
      refine G_bipush hX (by decide) d_Rd_leaveTable_26 ?_
      first
        | (exfalso; omega)
        | (exact F_iret hX hE d_Rd_leaveTable_28 ⟨by first | (rw [if_neg (fun q => absurd q.1 (by omega))]; done) | (rw [if_neg (fun q => hT q.2)]), h2, (Fr.tr Fr.rf k3 (by decide))⟩)
theorem c_Rd_enterResult49 (E : EV) (f : Nat → va_E) (x1 : Int32) (x2 x3 : Int) (v5 v6 v7 v8 : Value) (y1 y2 : Int32) (h44 : f 44 = ob 5 [.ref (eA E 45), .ref (eA E 47), .ref (eA E 49), .ref (eA E 51), .ref (eA E 52), .ref (eA E 53), .int x1, .int (zI x2), .int (zI x3), .ref (eA E 49), v5, v6, v7, v8, .int y1, .int y2]) : CF yn_Rd_enterResult cd_Rd_enterResult 2 none 0 E [.ref (eA E 44), .ref (eA E 2)] f (fun r f' => r = none ∧ f' 44 = ob 5 [.ref (eA E 45), .ref (eA E 47), .ref (eA E 49), .ref (eA E 51), .ref (eA E 52), .ref (eA E 53), .int x1, .int (zI x2), .int (zI x3), .ref (eA E 49), .ref (eA E 51), .ref (eA E 2), .ref (eA E 45), .ref (eA E 49), .int (zI x2), .int (zI x3)] ∧ Fr [44] f f') := by
  refine CF.of (by decide +kernel) (Nat.le_of_ble_eq_true rfl) fun X hX hE => ?_
  have hX : Ok E X "DeltaFerry$Reader" "enterResult" cd_Rd_enterResult 2 none (rl 0) := hX
  refine G_cast (lv' := [(0, .ref (eA E 44)), (1, .ref (eA E 2))]) ?_ rfl rfl rfl rfl
  refine G_aload_n hX 0 rfl rfl d_Rd_enterResult_0 ?_
  refine G_aload_n hX 0 rfl rfl d_Rd_enterResult_1 ?_
  refine F_get hX fg_Rd_33 d_Rd_enterResult_2 44 (by decide) h44 rfl ?_
  refine F_put hX fg_Rd_50 fp_Rd_10 d_Rd_enterResult_5 44 (fs' := [.ref (eA E 45), .ref (eA E 47), .ref (eA E 49), .ref (eA E 51), .ref (eA E 52), .ref (eA E 53), .int x1, .int (zI x2), .int (zI x3), .ref (eA E 49), .ref (eA E 51), v6, v7, v8, .int y1, .int y2]) (by decide) h44 rfl rfl (Nat.le_of_ble_eq_true rfl) rfl (fun f1 h2 k3 => ?_)
  refine G_aload_n hX 0 rfl rfl d_Rd_enterResult_8 ?_
  refine G_aload_n hX 1 rfl rfl d_Rd_enterResult_9 ?_
  refine F_put hX fg_Rd_53 fp_Rd_11 d_Rd_enterResult_10 44 (fs' := [.ref (eA E 45), .ref (eA E 47), .ref (eA E 49), .ref (eA E 51), .ref (eA E 52), .ref (eA E 53), .int x1, .int (zI x2), .int (zI x3), .ref (eA E 49), .ref (eA E 51), .ref (eA E 2), v7, v8, .int y1, .int y2]) (by decide) h2 rfl rfl (Nat.le_of_ble_eq_true rfl) rfl (fun f4 h5 k6 => ?_)
  refine G_aload_n hX 0 rfl rfl d_Rd_enterResult_13 ?_
  refine G_aload_n hX 0 rfl rfl d_Rd_enterResult_14 ?_
  refine F_get hX fg_Rd_14 d_Rd_enterResult_15 44 (by decide) h5 rfl ?_
  refine F_put hX fg_Rd_56 fp_Rd_12 d_Rd_enterResult_18 44 (fs' := [.ref (eA E 45), .ref (eA E 47), .ref (eA E 49), .ref (eA E 51), .ref (eA E 52), .ref (eA E 53), .int x1, .int (zI x2), .int (zI x3), .ref (eA E 49), .ref (eA E 51), .ref (eA E 2), .ref (eA E 45), v8, .int y1, .int y2]) (by decide) h5 rfl rfl (Nat.le_of_ble_eq_true rfl) rfl (fun f7 h8 k9 => ?_)
  refine G_aload_n hX 0 rfl rfl d_Rd_enterResult_21 ?_
  refine G_aload_n hX 0 rfl rfl d_Rd_enterResult_22 ?_
  refine F_get hX fg_Rd_47 d_Rd_enterResult_23 44 (by decide) h8 rfl ?_
  refine F_put hX fg_Rd_59 fp_Rd_13 d_Rd_enterResult_26 44 (fs' := [.ref (eA E 45), .ref (eA E 47), .ref (eA E 49), .ref (eA E 51), .ref (eA E 52), .ref (eA E 53), .int x1, .int (zI x2), .int (zI x3), .ref (eA E 49), .ref (eA E 51), .ref (eA E 2), .ref (eA E 45), .ref (eA E 49), .int y1, .int y2]) (by decide) h8 rfl rfl (Nat.le_of_ble_eq_true rfl) rfl (fun f10 h11 k12 => ?_)
  refine G_aload_n hX 0 rfl rfl d_Rd_enterResult_29 ?_
  refine G_aload_n hX 0 rfl rfl d_Rd_enterResult_30 ?_
  refine F_get hX fg_Rd_74 d_Rd_enterResult_31 44 (by decide) h11 rfl ?_
  refine F_put hX fg_Rd_101 fp_Rd_14 d_Rd_enterResult_34 44 (fs' := [.ref (eA E 45), .ref (eA E 47), .ref (eA E 49), .ref (eA E 51), .ref (eA E 52), .ref (eA E 53), .int x1, .int (zI x2), .int (zI x3), .ref (eA E 49), .ref (eA E 51), .ref (eA E 2), .ref (eA E 45), .ref (eA E 49), .int (zI x2), .int y2]) (by decide) h11 rfl rfl (Nat.le_of_ble_eq_true rfl) rfl (fun f13 h14 k15 => ?_)
  refine G_aload_n hX 0 rfl rfl d_Rd_enterResult_37 ?_
  refine G_aload_n hX 0 rfl rfl d_Rd_enterResult_38 ?_
  refine F_get hX fg_Rd_77 d_Rd_enterResult_39 44 (by decide) h14 rfl ?_
  refine F_put hX fg_Rd_104 fp_Rd_15 d_Rd_enterResult_42 44 (fs' := [.ref (eA E 45), .ref (eA E 47), .ref (eA E 49), .ref (eA E 51), .ref (eA E 52), .ref (eA E 53), .int x1, .int (zI x2), .int (zI x3), .ref (eA E 49), .ref (eA E 51), .ref (eA E 2), .ref (eA E 45), .ref (eA E 49), .int (zI x2), .int (zI x3)]) (by decide) h14 rfl rfl (Nat.le_of_ble_eq_true rfl) rfl (fun f16 h17 k18 => ?_)
  exact F_vret hX hE d_Rd_enterResult_45 ⟨rfl, h17, (Fr.tr (Fr.tr (Fr.tr (Fr.tr (Fr.tr (Fr.tr Fr.rf k3 (by decide)) k6 (by decide)) k9 (by decide)) k12 (by decide)) k15 (by decide)) k18 (by decide))⟩
theorem c_Rd_enterResult47 (E : EV) (f : Nat → va_E) (x1 : Int32) (x2 x3 : Int) (v5 v6 v7 v8 : Value) (y1 y2 : Int32) (h44 : f 44 = ob 5 [.ref (eA E 45), .ref (eA E 47), .ref (eA E 49), .ref (eA E 51), .ref (eA E 52), .ref (eA E 53), .int x1, .int (zI x2), .int (zI x3), .ref (eA E 47), v5, v6, v7, v8, .int y1, .int y2]) : CF yn_Rd_enterResult cd_Rd_enterResult 2 none 0 E [.ref (eA E 44), .ref (eA E 2)] f (fun r f' => r = none ∧ f' 44 = ob 5 [.ref (eA E 45), .ref (eA E 47), .ref (eA E 49), .ref (eA E 51), .ref (eA E 52), .ref (eA E 53), .int x1, .int (zI x2), .int (zI x3), .ref (eA E 47), .ref (eA E 51), .ref (eA E 2), .ref (eA E 45), .ref (eA E 47), .int (zI x2), .int (zI x3)] ∧ Fr [44] f f') := by
  refine CF.of (by decide +kernel) (Nat.le_of_ble_eq_true rfl) fun X hX hE => ?_
  have hX : Ok E X "DeltaFerry$Reader" "enterResult" cd_Rd_enterResult 2 none (rl 0) := hX
  refine G_cast (lv' := [(0, .ref (eA E 44)), (1, .ref (eA E 2))]) ?_ rfl rfl rfl rfl
  refine G_aload_n hX 0 rfl rfl d_Rd_enterResult_0 ?_
  refine G_aload_n hX 0 rfl rfl d_Rd_enterResult_1 ?_
  refine F_get hX fg_Rd_33 d_Rd_enterResult_2 44 (by decide) h44 rfl ?_
  refine F_put hX fg_Rd_50 fp_Rd_10 d_Rd_enterResult_5 44 (fs' := [.ref (eA E 45), .ref (eA E 47), .ref (eA E 49), .ref (eA E 51), .ref (eA E 52), .ref (eA E 53), .int x1, .int (zI x2), .int (zI x3), .ref (eA E 47), .ref (eA E 51), v6, v7, v8, .int y1, .int y2]) (by decide) h44 rfl rfl (Nat.le_of_ble_eq_true rfl) rfl (fun f1 h2 k3 => ?_)
  refine G_aload_n hX 0 rfl rfl d_Rd_enterResult_8 ?_
  refine G_aload_n hX 1 rfl rfl d_Rd_enterResult_9 ?_
  refine F_put hX fg_Rd_53 fp_Rd_11 d_Rd_enterResult_10 44 (fs' := [.ref (eA E 45), .ref (eA E 47), .ref (eA E 49), .ref (eA E 51), .ref (eA E 52), .ref (eA E 53), .int x1, .int (zI x2), .int (zI x3), .ref (eA E 47), .ref (eA E 51), .ref (eA E 2), v7, v8, .int y1, .int y2]) (by decide) h2 rfl rfl (Nat.le_of_ble_eq_true rfl) rfl (fun f4 h5 k6 => ?_)
  refine G_aload_n hX 0 rfl rfl d_Rd_enterResult_13 ?_
  refine G_aload_n hX 0 rfl rfl d_Rd_enterResult_14 ?_
  refine F_get hX fg_Rd_14 d_Rd_enterResult_15 44 (by decide) h5 rfl ?_
  refine F_put hX fg_Rd_56 fp_Rd_12 d_Rd_enterResult_18 44 (fs' := [.ref (eA E 45), .ref (eA E 47), .ref (eA E 49), .ref (eA E 51), .ref (eA E 52), .ref (eA E 53), .int x1, .int (zI x2), .int (zI x3), .ref (eA E 47), .ref (eA E 51), .ref (eA E 2), .ref (eA E 45), v8, .int y1, .int y2]) (by decide) h5 rfl rfl (Nat.le_of_ble_eq_true rfl) rfl (fun f7 h8 k9 => ?_)
  refine G_aload_n hX 0 rfl rfl d_Rd_enterResult_21 ?_
  refine G_aload_n hX 0 rfl rfl d_Rd_enterResult_22 ?_
  refine F_get hX fg_Rd_47 d_Rd_enterResult_23 44 (by decide) h8 rfl ?_
  refine F_put hX fg_Rd_59 fp_Rd_13 d_Rd_enterResult_26 44 (fs' := [.ref (eA E 45), .ref (eA E 47), .ref (eA E 49), .ref (eA E 51), .ref (eA E 52), .ref (eA E 53), .int x1, .int (zI x2), .int (zI x3), .ref (eA E 47), .ref (eA E 51), .ref (eA E 2), .ref (eA E 45), .ref (eA E 47), .int y1, .int y2]) (by decide) h8 rfl rfl (Nat.le_of_ble_eq_true rfl) rfl (fun f10 h11 k12 => ?_)
  refine G_aload_n hX 0 rfl rfl d_Rd_enterResult_29 ?_
  refine G_aload_n hX 0 rfl rfl d_Rd_enterResult_30 ?_
  refine F_get hX fg_Rd_74 d_Rd_enterResult_31 44 (by decide) h11 rfl ?_
  refine F_put hX fg_Rd_101 fp_Rd_14 d_Rd_enterResult_34 44 (fs' := [.ref (eA E 45), .ref (eA E 47), .ref (eA E 49), .ref (eA E 51), .ref (eA E 52), .ref (eA E 53), .int x1, .int (zI x2), .int (zI x3), .ref (eA E 47), .ref (eA E 51), .ref (eA E 2), .ref (eA E 45), .ref (eA E 47), .int (zI x2), .int y2]) (by decide) h11 rfl rfl (Nat.le_of_ble_eq_true rfl) rfl (fun f13 h14 k15 => ?_)
  refine G_aload_n hX 0 rfl rfl d_Rd_enterResult_37 ?_
  refine G_aload_n hX 0 rfl rfl d_Rd_enterResult_38 ?_
  refine F_get hX fg_Rd_77 d_Rd_enterResult_39 44 (by decide) h14 rfl ?_
  refine F_put hX fg_Rd_104 fp_Rd_15 d_Rd_enterResult_42 44 (fs' := [.ref (eA E 45), .ref (eA E 47), .ref (eA E 49), .ref (eA E 51), .ref (eA E 52), .ref (eA E 53), .int x1, .int (zI x2), .int (zI x3), .ref (eA E 47), .ref (eA E 51), .ref (eA E 2), .ref (eA E 45), .ref (eA E 47), .int (zI x2), .int (zI x3)]) (by decide) h14 rfl rfl (Nat.le_of_ble_eq_true rfl) rfl (fun f16 h17 k18 => ?_)
  exact F_vret hX hE d_Rd_enterResult_45 ⟨rfl, h17, (Fr.tr (Fr.tr (Fr.tr (Fr.tr (Fr.tr (Fr.tr Fr.rf k3 (by decide)) k6 (by decide)) k9 (by decide)) k12 (by decide)) k15 (by decide)) k18 (by decide))⟩
