/-! DeltaFerry$WindowReader: readSource, readParts, readHead; printed by wip/tools/m_wr3.py -/
/-- a window's source: from, size, and the place behind -/
def sR (g : Int → Int) (e p k : Int) : Int × Int × Int := if k = 0 then (0, 0, p) else ((numL g e 4 (numL g e 4 p 0).2 0).1, (numL g e 4 p 0).1, (numL g e 4 (numL g e 4 p 0).2 0).2)
def sOk (g : Int → Int) (e p k mc oc : Int) : Prop := k = 0 ∨ (0 ≤ (numL g e 4 p 0).1 ∧ 0 ≤ (numL g e 4 (numL g e 4 p 0).2 0).1 ∧ (numL g e 4 (numL g e 4 p 0).2 0).1 + (numL g e 4 p 0).1 ≤ if k = 2 then mc else oc)
def cvL (g : Int → Int) : Nat → Int → Int → Int
  | 0, _, v => v
  | k + 1, p, v => cvL g k (p + 1) (256 * v + g p)
theorem cvL_s {g : Int → Int} {b i p v : Int} (h : i < b) : cvL g (b - i).toNat p v = cvL g (b - (i + 1)).toNat (p + 1) (256 * v + g p) := by
  rw [show (b - i).toNat = (b - (i + 1)).toNat + 1 by omega]
  rfl
theorem cvL_e {g : Int → Int} {b i p v : Int} (h : b ≤ i) : cvL g (b - i).toNat p v = v := by
  rw [show (b - i).toNat = 0 by omega]
  rfl
theorem cvL_b {g : Int → Int} (hB : isB g) (p : Int) : 0 ≤ cvL g 4 p 0 ∧ cvL g 4 p 0 < 4294967296 := by
  have h0 := hB p
  have h1 := hB (p + 1)
  have h2 := hB (p + 1 + 1)
  have h3 := hB (p + 1 + 1 + 1)
  show 0 ≤ 256 * (256 * (256 * (256 * 0 + g p) + g (p + 1)) + g (p + 1 + 1)) + g (p + 1 + 1 + 1) ∧ 256 * (256 * (256 * (256 * 0 + g p) + g (p + 1)) + g (p + 1 + 1)) + g (p + 1 + 1 + 1) < 4294967296
  omega
section HD
variable (g : Int → Int) (p e : Int)
def wk : Int := nxV g p e
def wS : Int × Int × Int := sR g e (nxP p e) (wk g p e % 4)
def wY : Int × Int := numL g e 4 (wS g p e).2.2 0
def wE : Int := (wY g p e).2 + (wY g p e).1
def wZ : Int × Int := numL g (wE g p e) 4 (wY g p e).2 0
def wQ : Int := nxV g (wZ g p e).2 (wE g p e)
def w1 : Int × Int := numL g (wE g p e) 4 (nxP (wZ g p e).2 (wE g p e)) 0
def w2 : Int × Int := numL g (wE g p e) 4 (w1 g p e).2 0
def w3 : Int × Int := numL g (wE g p e) 4 (w2 g p e).2 0
def wc : Int := wk g p e / 4
def hdA (mc oc nm : Int) : Int :=
  if wk g p e < 0 ∨ 7 < wk g p e ∨ wk g p e % 4 = 3 then -2 else
  if ¬ (wk g p e % 4 = 0 ∨ (0 ≤ (numL g e 4 (nxP p e) 0).1 ∧ 0 ≤ (numL g e 4 (numL g e 4 (nxP p e) 0).2 0).1 ∧ (numL g e 4 (numL g e 4 (nxP p e) 0).2 0).1 + (numL g e 4 (nxP p e) 0).1 ≤ if wk g p e % 4 = 2 then mc else oc)) then -2 else
  if (wY g p e).1 < 0 ∨ e - (wY g p e).2 < (wY g p e).1 then -2 else
  if (wZ g p e).1 < 0 then -2 else
  if nm - mc < (wZ g p e).1 then -4 else
  if 0 < wQ g p e ∧ ¬ wQ g p e % 8 = 0 then -3 else
  if ¬ wQ g p e = 0 then -2 else
  if (w1 g p e).1 < 0 ∨ (w2 g p e).1 < 0 ∨ (w3 g p e).1 < 0 then -2 else
  if ¬ (w1 g p e).1 + (w2 g p e).1 + (w3 g p e).1 + 4 * wc g p e = wE g p e - (w3 g p e).2 then -2 else 0
def hdK (mc : Int) : WK := ((w3 g p e).2 + 4 * wc g p e, (w3 g p e).2 + 4 * wc g p e + (w1 g p e).1, (w3 g p e).2 + 4 * wc g p e + (w1 g p e).1 + (w2 g p e).1, (w3 g p e).2 + 4 * wc g p e + (w1 g p e).1 + (w2 g p e).1 + (w3 g p e).1, wk g p e % 4, (wS g p e).1, (wS g p e).2.1, mc, (wZ g p e).1, wc g p e, cvL g (4 * wc g p e).toNat (w3 g p e).2 0)
end HD
def cuS (E : EV) (f : Nat → va_E) (i : Nat) : Prop := ∃ (v : Value) (x y : Int32), f i = ob 1 [v, .int x, .int y]
theorem cuS_c {E : EV} {f : Nat → va_E} {i j : Nat} {p e : Int} (h : isC E f i j p e) : cuS E f i := ⟨_, _, _, h⟩
def wrS (E : EV) (f : Nat → va_E) : Prop := ∃ (v5 v6 : Value) (x1 x2 x3 x4 x5 : Int32) (l : Int64), f 53 = ob 9 [.ref (eA E 54), .ref (eA E 55), .ref (eA E 56), .ref (eA E 57), .ref (eA E 58), v5, v6, .int x1, .int x2, .int x3, .int x4, .int x5, .long l]
theorem c_Wr_readSourceR (E : EV) (f : Nat → va_E) (g old m : Int → Int) (p e k mc oc st : Int) (v6 : Value) (x1 x2 x4 x5 : Int32) (l : Int64) (hW : f 53 = ob 9 [.ref (eA E 54), .ref (eA E 55), .ref (eA E 56), .ref (eA E 57), .ref (eA E 58), .ref (eA E 45), v6, .int x1, .int x2, .int (zI st), .int x4, .int x5, .long l]) (hg : f 7 = iz E 700 g) (hB : isB g) (hC : isC E f 51 7 p e) (hO : isR E f 2 3 300 old oc) (hM : isR E f 45 46 300 m mc) (hb : 0 ≤ p ∧ p ≤ e ∧ e ≤ 700 ∧ 0 ≤ k ∧ k ≤ 2 ∧ 0 ≤ oc ∧ oc ≤ 2000 ∧ 0 ≤ mc ∧ mc ≤ 2000) : CF yn_Wr_readSource cd_Wr_readSource 4 (some (.boolean)) 1 E [.ref (eA E 53), .ref (eA E 51), .int (zI k), .ref (eA E 2)] f (fun r f' => (sOk g e p k mc oc ∧ r = some (.int (zI 1)) ∧ isC E f' 51 7 (sR g e p k).2.2 e ∧ f' 53 = ob 9 [.ref (eA E 54), .ref (eA E 55), .ref (eA E 56), .ref (eA E 57), .ref (eA E 58), .ref (eA E 45), .ref (eA E (if k = 2 then 45 else 2)), .int (zI ((sR g e p k).1)), .int (zI ((sR g e p k).2.1)), .int (zI st), .int x4, .int x5, .long l] ∧ Fr [53, 51] f f') ∨ (¬ sOk g e p k mc oc ∧ r = some (.int (zI 0)) ∧ (∃ p2, isC E f' 51 7 p2 e ∧ 0 ≤ p2 ∧ p2 ≤ e) ∧ (∃ y1 y2 : Int32, f' 53 = ob 9 [.ref (eA E 54), .ref (eA E 55), .ref (eA E 56), .ref (eA E 57), .ref (eA E 58), .ref (eA E 45), .ref (eA E (if k = 2 then 45 else 2)), .int y1, .int y2, .int (zI st), .int x4, .int x5, .long l]) ∧ Fr [53, 51] f f')) := by
  refine CF.of (by decide +kernel) (Nat.le_of_ble_eq_true rfl) fun X hX hE => ?_
  have hX : Ok E X "DeltaFerry$WindowReader" "readSource" cd_Wr_readSource 4 (some (.boolean)) (rl 1) := hX
  refine G_cast (lv' := [(0, .ref (eA E 53)), (1, .ref (eA E 51)), (2, .int (zI k)), (3, .ref (eA E 2))]) ?_ rfl rfl rfl rfl
  have hn1 := num_b (g := g) (e := e) (p := p) hB (by omega)
  have hn2 := num_b (g := g) (e := e) (p := (numL g e 4 p 0).2) hB (by omega)
  refine G_aload_n hX 0 rfl rfl d_Wr_readSource_0 ?_
  refine G_iconst hX d_Wr_readSource_1 ?_
  refine F_put hX fg_Wr_90 fp_Wr_7 d_Wr_readSource_2 53 (fs' := [.ref (eA E 54), .ref (eA E 55), .ref (eA E 56), .ref (eA E 57), .ref (eA E 58), .ref (eA E 45), v6, .int (zI 0), .int x2, .int (zI st), .int x4, .int x5, .long l]) (by decide) hW rfl rfl (Nat.le_of_ble_eq_true rfl) rfl (fun f1 h2 k3 => ?_)
  refine G_aload_n hX 0 rfl rfl d_Wr_readSource_5 ?_
  refine G_iconst hX d_Wr_readSource_6 ?_
  refine F_put hX fg_Wr_93 fp_Wr_8 d_Wr_readSource_7 53 (fs' := [.ref (eA E 54), .ref (eA E 55), .ref (eA E 56), .ref (eA E 57), .ref (eA E 58), .ref (eA E 45), v6, .int (zI 0), .int (zI 0), .int (zI st), .int x4, .int x5, .long l]) (by decide) h2 rfl rfl (Nat.le_of_ble_eq_true rfl) rfl (fun f4 h5 k6 => ?_)
  refine G_aload_n hX 0 rfl rfl d_Wr_readSource_10 ?_
  refine G_iload_n hX 2 rfl rfl d_Wr_readSource_11 ?_
  refine G_iconst hX d_Wr_readSource_12 ?_
  refine G_icmp_ne_z hX (tgt := 23) d_Wr_readSource_13 rfl (by omega) (fun c7 => ?_) (fun c8 => ?_)
  · skip
    refine G_aload_n hX 3 rfl rfl d_Wr_readSource_23 ?_
    refine F_put hX fg_Wr_43 fp_Wr_6 d_Wr_readSource_24 53 (fs' := [.ref (eA E 54), .ref (eA E 55), .ref (eA E 56), .ref (eA E 57), .ref (eA E 58), .ref (eA E 45), .ref (eA E 2), .int (zI 0), .int (zI 0), .int (zI st), .int x4, .int x5, .long l]) (by decide) h5 rfl rfl (Nat.le_of_ble_eq_true rfl) rfl (fun f9 h10 k11 => ?_)
    refine G_iload_n hX 2 rfl rfl d_Wr_readSource_27 ?_
    refine G_if_ne_z hX (tgt := 33) d_Wr_readSource_28 rfl (by omega) (fun c12 => ?_) (fun c13 => ?_)
    · skip
      refine G_aload_n hX 0 rfl rfl d_Wr_readSource_33 ?_
      refine G_aload_n hX 1 rfl rfl d_Wr_readSource_34 ?_
      have h14 : f9 51 = ob 1 [.ref (eA E 7), .int (zI p), .int (zI e)] := (k11 51 (by decide)).trans ((k6 51 (by decide)).trans ((k3 51 (by decide)).trans hC))
      have h15 : f9 7 = iz E 700 g := (k11 7 (by decide)).trans ((k6 7 (by decide)).trans ((k3 7 (by decide)).trans hg))
      refine F_callV hX (st := [.ref (eA E 53)]) (c_Cu_number E f9 51 7 700 g p e (by decide) (by decide) (by decide) h14 h15 (by omega) hB) cm_Cu_number im_Cu_number se_Cu_number rfl ml_Wr_65 d_Wr_readSource_35 (by decide) h14 rfl rfl (Nat.le_of_ble_eq_true rfl) (by decide) ?_
      rintro _ f16 ⟨rfl, h19, k20⟩
      refine G_cast (st' := [.int (zI ((numL g e 4 p 0).1)), .ref (eA E 53)]) ?_ rfl rfl rfl rfl
      have h21 : f16 53 = ob 9 [.ref (eA E 54), .ref (eA E 55), .ref (eA E 56), .ref (eA E 57), .ref (eA E 58), .ref (eA E 45), .ref (eA E 2), .int (zI 0), .int (zI 0), .int (zI st), .int x4, .int x5, .long l] := (k20 53 (by decide)).trans h10
      refine F_put hX fg_Wr_93 fp_Wr_8 d_Wr_readSource_38 53 (fs' := [.ref (eA E 54), .ref (eA E 55), .ref (eA E 56), .ref (eA E 57), .ref (eA E 58), .ref (eA E 45), .ref (eA E 2), .int (zI 0), .int (zI ((numL g e 4 p 0).1)), .int (zI st), .int x4, .int x5, .long l]) (by decide) h21 rfl rfl (Nat.le_of_ble_eq_true rfl) rfl (fun f22 h23 k24 => ?_)
      refine G_aload_n hX 0 rfl rfl d_Wr_readSource_41 ?_
      refine F_get hX fg_Wr_93 d_Wr_readSource_42 53 (by decide) h23 rfl ?_
      refine G_if_ge_z hX (tgt := 50) d_Wr_readSource_45 rfl (by omega) (fun c25 => ?_) (fun c26 => ?_)
      · skip
        refine G_aload_n hX 0 rfl rfl d_Wr_readSource_50 ?_
        refine G_aload_n hX 1 rfl rfl d_Wr_readSource_51 ?_
        have h27 : f22 51 = ob 1 [.ref (eA E 7), .int (zI ((numL g e 4 p 0).2)), .int (zI e)] := (k24 51 (by decide)).trans h19
        have h28 : f22 7 = iz E 700 g := (k24 7 (by decide)).trans ((k20 7 (by decide)).trans h15)
        refine F_callV hX (st := [.ref (eA E 53)]) (c_Cu_number E f22 51 7 700 g ((numL g e 4 p 0).2) e (by decide) (by decide) (by decide) h27 h28 (by omega) hB) cm_Cu_number im_Cu_number se_Cu_number rfl ml_Wr_65 d_Wr_readSource_52 (by decide) h27 rfl rfl (Nat.le_of_ble_eq_true rfl) (by decide) ?_
        rintro _ f29 ⟨rfl, h32, k33⟩
        refine G_cast (st' := [.int (zI ((numL g e 4 ((numL g e 4 p 0).2) 0).1)), .ref (eA E 53)]) ?_ rfl rfl rfl rfl
        have h34 : f29 53 = ob 9 [.ref (eA E 54), .ref (eA E 55), .ref (eA E 56), .ref (eA E 57), .ref (eA E 58), .ref (eA E 45), .ref (eA E 2), .int (zI 0), .int (zI ((numL g e 4 p 0).1)), .int (zI st), .int x4, .int x5, .long l] := (k33 53 (by decide)).trans h23
        refine F_put hX fg_Wr_90 fp_Wr_7 d_Wr_readSource_55 53 (fs' := [.ref (eA E 54), .ref (eA E 55), .ref (eA E 56), .ref (eA E 57), .ref (eA E 58), .ref (eA E 45), .ref (eA E 2), .int (zI ((numL g e 4 ((numL g e 4 p 0).2) 0).1)), .int (zI ((numL g e 4 p 0).1)), .int (zI st), .int x4, .int x5, .long l]) (by decide) h34 rfl rfl (Nat.le_of_ble_eq_true rfl) rfl (fun f35 h36 k37 => ?_)
        refine G_aload_n hX 0 rfl rfl d_Wr_readSource_58 ?_
        refine F_get hX fg_Wr_90 d_Wr_readSource_59 53 (by decide) h36 rfl ?_
        refine G_if_lt_z hX (tgt := 88) d_Wr_readSource_62 rfl (by omega) (fun c38 => ?_) (fun c39 => ?_)
        · skip
          refine G_iconst hX d_Wr_readSource_88 ?_
          first
            | (exfalso; omega)
            | (have h40 : f35 51 = ob 1 [.ref (eA E 7), .int (zI ((numL g e 4 ((numL g e 4 p 0).2) 0).2)), .int (zI e)] := (k37 51 (by decide)).trans h32
               have e2 : ¬ sOk g e p k mc oc := by unfold sOk; rw [if_neg (by omega)]; omega
               exact F_zret hX hE (by decide) d_Wr_readSource_89 (Or.inr ⟨e2, rfl, ⟨_, h40, by omega, by omega⟩, ⟨_, _, (by rw [if_neg (by omega)]; exact h36)⟩, (Fr.tr (Fr.tr (Fr.tr (Fr.tr (Fr.tr (Fr.tr (Fr.tr Fr.rf k3 (by decide)) k6 (by decide)) k11 (by decide)) k20 (by decide)) k24 (by decide)) k33 (by decide)) k37 (by decide))⟩))
        · skip
          refine G_aload_n hX 0 rfl rfl d_Wr_readSource_65 ?_
          refine F_get hX fg_Wr_90 d_Wr_readSource_66 53 (by decide) h36 rfl ?_
          refine G_aload_n hX 0 rfl rfl d_Wr_readSource_69 ?_
          refine F_get hX fg_Wr_93 d_Wr_readSource_70 53 (by decide) h36 rfl ?_
          refine G_iadd_z hX d_Wr_readSource_73 ?_
          refine G_aload_n hX 0 rfl rfl d_Wr_readSource_74 ?_
          refine F_get hX fg_Wr_43 d_Wr_readSource_75 53 (by decide) h36 rfl ?_
          have h41 : f35 2 = ob 6 [.ref (eA E 3), .int (zI oc)] := (k37 2 (by decide)).trans ((k33 2 (by decide)).trans ((k24 2 (by decide)).trans ((k20 2 (by decide)).trans ((k11 2 (by decide)).trans ((k6 2 (by decide)).trans ((k3 2 (by decide)).trans hO.1))))))
          refine F_get hX fg_Wr_46 d_Wr_readSource_78 2 (by decide) h41 rfl ?_
          refine G_icmp_gt_z hX (tgt := 88) d_Wr_readSource_81 rfl (by omega) (fun c42 => ?_) (fun c43 => ?_)
          · skip
            refine G_iconst hX d_Wr_readSource_88 ?_
            first
              | (exfalso; omega)
              | (have h44 : f35 51 = ob 1 [.ref (eA E 7), .int (zI ((numL g e 4 ((numL g e 4 p 0).2) 0).2)), .int (zI e)] := (k37 51 (by decide)).trans h32
                 have e2 : ¬ sOk g e p k mc oc := by unfold sOk; rw [if_neg (by omega)]; omega
                 exact F_zret hX hE (by decide) d_Wr_readSource_89 (Or.inr ⟨e2, rfl, ⟨_, h44, by omega, by omega⟩, ⟨_, _, (by rw [if_neg (by omega)]; exact h36)⟩, (Fr.tr (Fr.tr (Fr.tr (Fr.tr (Fr.tr (Fr.tr (Fr.tr Fr.rf k3 (by decide)) k6 (by decide)) k11 (by decide)) k20 (by decide)) k24 (by decide)) k33 (by decide)) k37 (by decide))⟩))
          · skip
            refine G_iconst hX d_Wr_readSource_84 ?_
            refine G_goto hX (tgt := 89) d_Wr_readSource_85 rfl ?_
            first
              | (exfalso; omega)
              | (have h45 : f35 51 = ob 1 [.ref (eA E 7), .int (zI ((numL g e 4 ((numL g e 4 p 0).2) 0).2)), .int (zI e)] := (k37 51 (by decide)).trans h32
                 have e1 : sR g e p k = ((numL g e 4 (numL g e 4 p 0).2 0).1, (numL g e 4 p 0).1, (numL g e 4 (numL g e 4 p 0).2 0).2) := by unfold sR; rw [if_neg (by omega)]
                 have e2 : sOk g e p k mc oc := by unfold sOk; exact Or.inr ⟨by omega, by omega, by rw [if_neg (by omega)]; omega⟩
                 rw [e1] at hE
                 exact F_zret hX hE (by decide) d_Wr_readSource_89 (Or.inl ⟨e2, rfl, h45, (by rw [if_neg (by omega)]; exact h36), (Fr.tr (Fr.tr (Fr.tr (Fr.tr (Fr.tr (Fr.tr (Fr.tr Fr.rf k3 (by decide)) k6 (by decide)) k11 (by decide)) k20 (by decide)) k24 (by decide)) k33 (by decide)) k37 (by decide))⟩))
      · skip
        refine G_iconst hX d_Wr_readSource_48 ?_
        first
          | (exfalso; omega)
          | (have h46 : f22 51 = ob 1 [.ref (eA E 7), .int (zI ((numL g e 4 p 0).2)), .int (zI e)] := (k24 51 (by decide)).trans h19
             have e2 : ¬ sOk g e p k mc oc := by unfold sOk; rw [if_neg (by omega)]; omega
             exact F_zret hX hE (by decide) d_Wr_readSource_49 (Or.inr ⟨e2, rfl, ⟨_, h46, by omega, by omega⟩, ⟨_, _, (by rw [if_neg (by omega)]; exact h23)⟩, (Fr.tr (Fr.tr (Fr.tr (Fr.tr (Fr.tr Fr.rf k3 (by decide)) k6 (by decide)) k11 (by decide)) k20 (by decide)) k24 (by decide))⟩))
    · skip
      refine G_iconst hX d_Wr_readSource_31 ?_
      first
        | (exfalso; omega)
        | (have h47 : f9 51 = ob 1 [.ref (eA E 7), .int (zI p), .int (zI e)] := (k11 51 (by decide)).trans ((k6 51 (by decide)).trans ((k3 51 (by decide)).trans hC))
           have e1 : sR g e p k = (0, 0, p) := by unfold sR; rw [if_pos (by omega)]
           have e2 : sOk g e p k mc oc := by unfold sOk; exact Or.inl (by omega)
           rw [e1] at hE
           exact F_zret hX hE (by decide) d_Wr_readSource_32 (Or.inl ⟨e2, rfl, h47, (by rw [if_neg (by omega)]; exact h10), (Fr.tr (Fr.tr (Fr.tr Fr.rf k3 (by decide)) k6 (by decide)) k11 (by decide))⟩))
  · skip
    refine G_aload_n hX 0 rfl rfl d_Wr_readSource_16 ?_
    refine F_get hX fg_Wr_39 d_Wr_readSource_17 53 (by decide) h5 rfl ?_
    refine G_goto hX (tgt := 24) d_Wr_readSource_20 rfl ?_
    refine F_put hX fg_Wr_43 fp_Wr_6 d_Wr_readSource_24 53 (fs' := [.ref (eA E 54), .ref (eA E 55), .ref (eA E 56), .ref (eA E 57), .ref (eA E 58), .ref (eA E 45), .ref (eA E 45), .int (zI 0), .int (zI 0), .int (zI st), .int x4, .int x5, .long l]) (by decide) h5 rfl rfl (Nat.le_of_ble_eq_true rfl) rfl (fun f48 h49 k50 => ?_)
    refine G_iload_n hX 2 rfl rfl d_Wr_readSource_27 ?_
    refine G_if_ne_z hX (tgt := 33) d_Wr_readSource_28 rfl (by omega) (fun c51 => ?_) (fun c52 => ?_)
    · skip
      refine G_aload_n hX 0 rfl rfl d_Wr_readSource_33 ?_
      refine G_aload_n hX 1 rfl rfl d_Wr_readSource_34 ?_
      have h53 : f48 51 = ob 1 [.ref (eA E 7), .int (zI p), .int (zI e)] := (k50 51 (by decide)).trans ((k6 51 (by decide)).trans ((k3 51 (by decide)).trans hC))
      have h54 : f48 7 = iz E 700 g := (k50 7 (by decide)).trans ((k6 7 (by decide)).trans ((k3 7 (by decide)).trans hg))
      refine F_callV hX (st := [.ref (eA E 53)]) (c_Cu_number E f48 51 7 700 g p e (by decide) (by decide) (by decide) h53 h54 (by omega) hB) cm_Cu_number im_Cu_number se_Cu_number rfl ml_Wr_65 d_Wr_readSource_35 (by decide) h53 rfl rfl (Nat.le_of_ble_eq_true rfl) (by decide) ?_
      rintro _ f55 ⟨rfl, h58, k59⟩
      refine G_cast (st' := [.int (zI ((numL g e 4 p 0).1)), .ref (eA E 53)]) ?_ rfl rfl rfl rfl
      have h60 : f55 53 = ob 9 [.ref (eA E 54), .ref (eA E 55), .ref (eA E 56), .ref (eA E 57), .ref (eA E 58), .ref (eA E 45), .ref (eA E 45), .int (zI 0), .int (zI 0), .int (zI st), .int x4, .int x5, .long l] := (k59 53 (by decide)).trans h49
      refine F_put hX fg_Wr_93 fp_Wr_8 d_Wr_readSource_38 53 (fs' := [.ref (eA E 54), .ref (eA E 55), .ref (eA E 56), .ref (eA E 57), .ref (eA E 58), .ref (eA E 45), .ref (eA E 45), .int (zI 0), .int (zI ((numL g e 4 p 0).1)), .int (zI st), .int x4, .int x5, .long l]) (by decide) h60 rfl rfl (Nat.le_of_ble_eq_true rfl) rfl (fun f61 h62 k63 => ?_)
      refine G_aload_n hX 0 rfl rfl d_Wr_readSource_41 ?_
      refine F_get hX fg_Wr_93 d_Wr_readSource_42 53 (by decide) h62 rfl ?_
      refine G_if_ge_z hX (tgt := 50) d_Wr_readSource_45 rfl (by omega) (fun c64 => ?_) (fun c65 => ?_)
      · skip
        refine G_aload_n hX 0 rfl rfl d_Wr_readSource_50 ?_
        refine G_aload_n hX 1 rfl rfl d_Wr_readSource_51 ?_
        have h66 : f61 51 = ob 1 [.ref (eA E 7), .int (zI ((numL g e 4 p 0).2)), .int (zI e)] := (k63 51 (by decide)).trans h58
        have h67 : f61 7 = iz E 700 g := (k63 7 (by decide)).trans ((k59 7 (by decide)).trans h54)
        refine F_callV hX (st := [.ref (eA E 53)]) (c_Cu_number E f61 51 7 700 g ((numL g e 4 p 0).2) e (by decide) (by decide) (by decide) h66 h67 (by omega) hB) cm_Cu_number im_Cu_number se_Cu_number rfl ml_Wr_65 d_Wr_readSource_52 (by decide) h66 rfl rfl (Nat.le_of_ble_eq_true rfl) (by decide) ?_
        rintro _ f68 ⟨rfl, h71, k72⟩
        refine G_cast (st' := [.int (zI ((numL g e 4 ((numL g e 4 p 0).2) 0).1)), .ref (eA E 53)]) ?_ rfl rfl rfl rfl
        have h73 : f68 53 = ob 9 [.ref (eA E 54), .ref (eA E 55), .ref (eA E 56), .ref (eA E 57), .ref (eA E 58), .ref (eA E 45), .ref (eA E 45), .int (zI 0), .int (zI ((numL g e 4 p 0).1)), .int (zI st), .int x4, .int x5, .long l] := (k72 53 (by decide)).trans h62
        refine F_put hX fg_Wr_90 fp_Wr_7 d_Wr_readSource_55 53 (fs' := [.ref (eA E 54), .ref (eA E 55), .ref (eA E 56), .ref (eA E 57), .ref (eA E 58), .ref (eA E 45), .ref (eA E 45), .int (zI ((numL g e 4 ((numL g e 4 p 0).2) 0).1)), .int (zI ((numL g e 4 p 0).1)), .int (zI st), .int x4, .int x5, .long l]) (by decide) h73 rfl rfl (Nat.le_of_ble_eq_true rfl) rfl (fun f74 h75 k76 => ?_)
        refine G_aload_n hX 0 rfl rfl d_Wr_readSource_58 ?_
        refine F_get hX fg_Wr_90 d_Wr_readSource_59 53 (by decide) h75 rfl ?_
        refine G_if_lt_z hX (tgt := 88) d_Wr_readSource_62 rfl (by omega) (fun c77 => ?_) (fun c78 => ?_)
        · skip
          refine G_iconst hX d_Wr_readSource_88 ?_
          first
            | (exfalso; omega)
            | (have h79 : f74 51 = ob 1 [.ref (eA E 7), .int (zI ((numL g e 4 ((numL g e 4 p 0).2) 0).2)), .int (zI e)] := (k76 51 (by decide)).trans h71
               have e2 : ¬ sOk g e p k mc oc := by unfold sOk; rw [if_pos (by omega)]; omega
               exact F_zret hX hE (by decide) d_Wr_readSource_89 (Or.inr ⟨e2, rfl, ⟨_, h79, by omega, by omega⟩, ⟨_, _, (by rw [if_pos (by omega)]; exact h75)⟩, (Fr.tr (Fr.tr (Fr.tr (Fr.tr (Fr.tr (Fr.tr (Fr.tr Fr.rf k3 (by decide)) k6 (by decide)) k50 (by decide)) k59 (by decide)) k63 (by decide)) k72 (by decide)) k76 (by decide))⟩))
        · skip
          refine G_aload_n hX 0 rfl rfl d_Wr_readSource_65 ?_
          refine F_get hX fg_Wr_90 d_Wr_readSource_66 53 (by decide) h75 rfl ?_
          refine G_aload_n hX 0 rfl rfl d_Wr_readSource_69 ?_
          refine F_get hX fg_Wr_93 d_Wr_readSource_70 53 (by decide) h75 rfl ?_
          refine G_iadd_z hX d_Wr_readSource_73 ?_
          refine G_aload_n hX 0 rfl rfl d_Wr_readSource_74 ?_
          refine F_get hX fg_Wr_43 d_Wr_readSource_75 53 (by decide) h75 rfl ?_
          have h80 : f74 45 = ob 6 [.ref (eA E 46), .int (zI mc)] := (k76 45 (by decide)).trans ((k72 45 (by decide)).trans ((k63 45 (by decide)).trans ((k59 45 (by decide)).trans ((k50 45 (by decide)).trans ((k6 45 (by decide)).trans ((k3 45 (by decide)).trans hM.1))))))
          refine F_get hX fg_Wr_46 d_Wr_readSource_78 45 (by decide) h80 rfl ?_
          refine G_icmp_gt_z hX (tgt := 88) d_Wr_readSource_81 rfl (by omega) (fun c81 => ?_) (fun c82 => ?_)
          · skip
            refine G_iconst hX d_Wr_readSource_88 ?_
            first
              | (exfalso; omega)
              | (have h83 : f74 51 = ob 1 [.ref (eA E 7), .int (zI ((numL g e 4 ((numL g e 4 p 0).2) 0).2)), .int (zI e)] := (k76 51 (by decide)).trans h71
                 have e2 : ¬ sOk g e p k mc oc := by unfold sOk; rw [if_pos (by omega)]; omega
                 exact F_zret hX hE (by decide) d_Wr_readSource_89 (Or.inr ⟨e2, rfl, ⟨_, h83, by omega, by omega⟩, ⟨_, _, (by rw [if_pos (by omega)]; exact h75)⟩, (Fr.tr (Fr.tr (Fr.tr (Fr.tr (Fr.tr (Fr.tr (Fr.tr Fr.rf k3 (by decide)) k6 (by decide)) k50 (by decide)) k59 (by decide)) k63 (by decide)) k72 (by decide)) k76 (by decide))⟩))
          · skip
            refine G_iconst hX d_Wr_readSource_84 ?_
            refine G_goto hX (tgt := 89) d_Wr_readSource_85 rfl ?_
            first
              | (exfalso; omega)
              | (have h84 : f74 51 = ob 1 [.ref (eA E 7), .int (zI ((numL g e 4 ((numL g e 4 p 0).2) 0).2)), .int (zI e)] := (k76 51 (by decide)).trans h71
                 have e1 : sR g e p k = ((numL g e 4 (numL g e 4 p 0).2 0).1, (numL g e 4 p 0).1, (numL g e 4 (numL g e 4 p 0).2 0).2) := by unfold sR; rw [if_neg (by omega)]
                 have e2 : sOk g e p k mc oc := by unfold sOk; exact Or.inr ⟨by omega, by omega, by rw [if_pos (by omega)]; omega⟩
                 rw [e1] at hE
                 exact F_zret hX hE (by decide) d_Wr_readSource_89 (Or.inl ⟨e2, rfl, h84, (by rw [if_pos (by omega)]; exact h75), (Fr.tr (Fr.tr (Fr.tr (Fr.tr (Fr.tr (Fr.tr (Fr.tr Fr.rf k3 (by decide)) k6 (by decide)) k50 (by decide)) k59 (by decide)) k63 (by decide)) k72 (by decide)) k76 (by decide))⟩))
      · skip
        refine G_iconst hX d_Wr_readSource_48 ?_
        first
          | (exfalso; omega)
          | (have h85 : f61 51 = ob 1 [.ref (eA E 7), .int (zI ((numL g e 4 p 0).2)), .int (zI e)] := (k63 51 (by decide)).trans h58
             have e2 : ¬ sOk g e p k mc oc := by unfold sOk; rw [if_pos (by omega)]; omega
             exact F_zret hX hE (by decide) d_Wr_readSource_49 (Or.inr ⟨e2, rfl, ⟨_, h85, by omega, by omega⟩, ⟨_, _, (by rw [if_pos (by omega)]; exact h62)⟩, (Fr.tr (Fr.tr (Fr.tr (Fr.tr (Fr.tr Fr.rf k3 (by decide)) k6 (by decide)) k50 (by decide)) k59 (by decide)) k63 (by decide))⟩))
    · skip
      refine G_iconst hX d_Wr_readSource_31 ?_
      first
        | (exfalso; omega)
        | (have h86 : f48 51 = ob 1 [.ref (eA E 7), .int (zI p), .int (zI e)] := (k50 51 (by decide)).trans ((k6 51 (by decide)).trans ((k3 51 (by decide)).trans hC))
           have e1 : sR g e p k = (0, 0, p) := by unfold sR; rw [if_pos (by omega)]
           have e2 : sOk g e p k mc oc := by unfold sOk; exact Or.inl (by omega)
           rw [e1] at hE
           exact F_zret hX hE (by decide) d_Wr_readSource_32 (Or.inl ⟨e2, rfl, h86, (by rw [if_pos (by omega)]; exact h49), (Fr.tr (Fr.tr (Fr.tr Fr.rf k3 (by decide)) k6 (by decide)) k50 (by decide))⟩))
theorem pw256 {i v b : Int} (hi : 0 ≤ i) (hv : 0 ≤ v ∧ v < 256 ^ i.toNat) (hb : 0 ≤ b ∧ b < 256) : 0 ≤ 256 * v + b ∧ 256 * v + b < 256 ^ (i + 1).toNat := by
  rw [show (i + 1).toNat = i.toNat + 1 by omega, Int.pow_succ]
  omega
theorem c_Wr_readParts (E : EV) (f : Nat → va_E) (g : Int → Int) (p e sf ss st sz ck : Int) (v5 v6 u1 u2 u3 : Value) (a1 b1 a2 b2 a3 b3 : Int32) (l : Int64) (hW : f 53 = ob 9 [.ref (eA E 54), .ref (eA E 55), .ref (eA E 56), .ref (eA E 57), .ref (eA E 58), v5, v6, .int (zI sf), .int (zI ss), .int (zI st), .int (zI sz), .int (zI ck), .long l]) (hg : f 7 = iz E 700 g) (hB : isB g) (hC : isC E f 54 7 p e) (hS1 : f 55 = ob 1 [u1, .int a1, .int b1]) (hS2 : f 56 = ob 1 [u2, .int a2, .int b2]) (hS3 : f 57 = ob 1 [u3, .int a3, .int b3]) (hb : 0 ≤ p ∧ p ≤ e ∧ e ≤ 700 ∧ (ck = 0 ∨ ck = 1)) : CF yn_Wr_readParts cd_Wr_readParts 6 (some (.boolean)) 1 E [.ref (eA E 53)] f (fun r f' => ((0 ≤ (numL g e 4 p 0).1 ∧ 0 ≤ (numL g e 4 (numL g e 4 p 0).2 0).1 ∧ 0 ≤ (numL g e 4 (numL g e 4 (numL g e 4 p 0).2 0).2 0).1 ∧ (numL g e 4 p 0).1 + (numL g e 4 (numL g e 4 p 0).2 0).1 + (numL g e 4 (numL g e 4 (numL g e 4 p 0).2 0).2 0).1 + 4 * ck = e - (numL g e 4 (numL g e 4 (numL g e 4 p 0).2 0).2 0).2) ∧ r = some (.int (zI 1)) ∧ isC E f' 55 7 ((numL g e 4 (numL g e 4 (numL g e 4 p 0).2 0).2 0).2 + 4 * ck) ((numL g e 4 (numL g e 4 (numL g e 4 p 0).2 0).2 0).2 + 4 * ck + (numL g e 4 p 0).1) ∧ isC E f' 56 7 ((numL g e 4 (numL g e 4 (numL g e 4 p 0).2 0).2 0).2 + 4 * ck + (numL g e 4 p 0).1) ((numL g e 4 (numL g e 4 (numL g e 4 p 0).2 0).2 0).2 + 4 * ck + (numL g e 4 p 0).1 + (numL g e 4 (numL g e 4 p 0).2 0).1) ∧ isC E f' 57 7 ((numL g e 4 (numL g e 4 (numL g e 4 p 0).2 0).2 0).2 + 4 * ck + (numL g e 4 p 0).1 + (numL g e 4 (numL g e 4 p 0).2 0).1) ((numL g e 4 (numL g e 4 (numL g e 4 p 0).2 0).2 0).2 + 4 * ck + (numL g e 4 p 0).1 + (numL g e 4 (numL g e 4 p 0).2 0).1 + (numL g e 4 (numL g e 4 (numL g e 4 p 0).2 0).2 0).1) ∧ f' 53 = ob 9 [.ref (eA E 54), .ref (eA E 55), .ref (eA E 56), .ref (eA E 57), .ref (eA E 58), v5, v6, .int (zI sf), .int (zI ss), .int (zI st), .int (zI sz), .int (zI ck), .long (zL (cvL g (4 * ck).toNat (numL g e 4 (numL g e 4 (numL g e 4 p 0).2 0).2 0).2 0))] ∧ cuS E f' 54 ∧ Fr [53, 54, 55, 56, 57] f f') ∨ (¬ (0 ≤ (numL g e 4 p 0).1 ∧ 0 ≤ (numL g e 4 (numL g e 4 p 0).2 0).1 ∧ 0 ≤ (numL g e 4 (numL g e 4 (numL g e 4 p 0).2 0).2 0).1 ∧ (numL g e 4 p 0).1 + (numL g e 4 (numL g e 4 p 0).2 0).1 + (numL g e 4 (numL g e 4 (numL g e 4 p 0).2 0).2 0).1 + 4 * ck = e - (numL g e 4 (numL g e 4 (numL g e 4 p 0).2 0).2 0).2) ∧ r = some (.int (zI 0)) ∧ wrS E f' ∧ cuS E f' 54 ∧ cuS E f' 55 ∧ cuS E f' 56 ∧ cuS E f' 57 ∧ Fr [53, 54, 55, 56, 57] f f')) := by
  refine CF.of (by decide +kernel) (Nat.le_of_ble_eq_true rfl) fun X hX hE => ?_
  have hX : Ok E X "DeltaFerry$WindowReader" "readParts" cd_Wr_readParts 6 (some (.boolean)) (rl 1) := hX
  refine G_cast (lv' := [(0, .ref (eA E 53))]) ?_ rfl rfl rfl rfl
  have hn1 := num_b (g := g) (e := e) (p := p) hB (by omega)
  have hn2 := num_b (g := g) (e := e) (p := (numL g e 4 p 0).2) hB (by omega)
  have hn3 := num_b (g := g) (e := e) (p := (numL g e 4 (numL g e 4 p 0).2 0).2) hB (by omega)
  refine G_aload_n hX 0 rfl rfl d_Wr_readParts_0 ?_
  refine F_get hX fg_Wr_12 d_Wr_readParts_1 53 (by decide) hW rfl ?_
  refine F_callV hX (st := []) (c_Cu_number E f 54 7 700 g p e (by decide) (by decide) (by decide) hC hg (by omega) hB) cm_Cu_number im_Cu_number se_Cu_number rfl ml_Wr_65 d_Wr_readParts_4 (by decide) hC rfl rfl (Nat.le_of_ble_eq_true rfl) (by decide) ?_
  rintro _ f1 ⟨rfl, h4, k5⟩
  refine G_cast (st' := [.int (zI ((numL g e 4 p 0).1))]) ?_ rfl rfl rfl rfl
  refine G_istore_n hX (lv' := [(1, .int (zI ((numL g e 4 p 0).1))), (0, .ref (eA E 53))]) rfl (by decide) rfl d_Wr_readParts_7 ?_
  refine G_aload_n hX 1 rfl rfl d_Wr_readParts_8 ?_
  have h6 : f1 53 = ob 9 [.ref (eA E 54), .ref (eA E 55), .ref (eA E 56), .ref (eA E 57), .ref (eA E 58), v5, v6, .int (zI sf), .int (zI ss), .int (zI st), .int (zI sz), .int (zI ck), .long l] := (k5 53 (by decide)).trans hW
  refine F_get hX fg_Wr_12 d_Wr_readParts_9 53 (by decide) h6 rfl ?_
  have h7 : f1 7 = iz E 700 g := (k5 7 (by decide)).trans hg
  refine F_callV hX (st := []) (c_Cu_number E f1 54 7 700 g ((numL g e 4 p 0).2) e (by decide) (by decide) (by decide) h4 h7 (by omega) hB) cm_Cu_number im_Cu_number se_Cu_number rfl ml_Wr_65 d_Wr_readParts_12 (by decide) h4 rfl rfl (Nat.le_of_ble_eq_true rfl) (by decide) ?_
  rintro _ f8 ⟨rfl, h11, k12⟩
  refine G_cast (st' := [.int (zI ((numL g e 4 ((numL g e 4 p 0).2) 0).1))]) ?_ rfl rfl rfl rfl
  refine G_istore_n hX (lv' := [(2, .int (zI ((numL g e 4 ((numL g e 4 p 0).2) 0).1))), (1, .int (zI ((numL g e 4 p 0).1))), (0, .ref (eA E 53))]) rfl (by decide) rfl d_Wr_readParts_15 ?_
  refine G_aload_n hX 2 rfl rfl d_Wr_readParts_16 ?_
  have h13 : f8 53 = ob 9 [.ref (eA E 54), .ref (eA E 55), .ref (eA E 56), .ref (eA E 57), .ref (eA E 58), v5, v6, .int (zI sf), .int (zI ss), .int (zI st), .int (zI sz), .int (zI ck), .long l] := (k12 53 (by decide)).trans h6
  refine F_get hX fg_Wr_12 d_Wr_readParts_17 53 (by decide) h13 rfl ?_
  have h14 : f8 7 = iz E 700 g := (k12 7 (by decide)).trans h7
  refine F_callV hX (st := []) (c_Cu_number E f8 54 7 700 g ((numL g e 4 ((numL g e 4 p 0).2) 0).2) e (by decide) (by decide) (by decide) h11 h14 (by omega) hB) cm_Cu_number im_Cu_number se_Cu_number rfl ml_Wr_65 d_Wr_readParts_20 (by decide) h11 rfl rfl (Nat.le_of_ble_eq_true rfl) (by decide) ?_
  rintro _ f15 ⟨rfl, h18, k19⟩
  refine G_cast (st' := [.int (zI ((numL g e 4 ((numL g e 4 ((numL g e 4 p 0).2) 0).2) 0).1))]) ?_ rfl rfl rfl rfl
  refine G_istore_n hX (lv' := [(3, .int (zI ((numL g e 4 ((numL g e 4 ((numL g e 4 p 0).2) 0).2) 0).1))), (2, .int (zI ((numL g e 4 ((numL g e 4 p 0).2) 0).1))), (1, .int (zI ((numL g e 4 p 0).1))), (0, .ref (eA E 53))]) rfl (by decide) rfl d_Wr_readParts_23 ?_
  refine G_iload_n hX 2 rfl rfl d_Wr_readParts_24 ?_
  refine G_if_lt_z hX (tgt := 36) d_Wr_readParts_25 rfl (by omega) (fun c20 => ?_) (fun c21 => ?_)
  · skip
    refine G_iconst hX d_Wr_readParts_36 ?_
    have h22 : f15 53 = ob 9 [.ref (eA E 54), .ref (eA E 55), .ref (eA E 56), .ref (eA E 57), .ref (eA E 58), v5, v6, .int (zI sf), .int (zI ss), .int (zI st), .int (zI sz), .int (zI ck), .long l] := (k19 53 (by decide)).trans h13
    have h23 : f15 55 = ob 1 [u1, .int a1, .int b1] := (k19 55 (by decide)).trans ((k12 55 (by decide)).trans ((k5 55 (by decide)).trans hS1))
    have h24 : f15 56 = ob 1 [u2, .int a2, .int b2] := (k19 56 (by decide)).trans ((k12 56 (by decide)).trans ((k5 56 (by decide)).trans hS2))
    have h25 : f15 57 = ob 1 [u3, .int a3, .int b3] := (k19 57 (by decide)).trans ((k12 57 (by decide)).trans ((k5 57 (by decide)).trans hS3))
    exact F_zret hX hE (by decide) d_Wr_readParts_37 (Or.inr ⟨by omega, rfl, ⟨_, _, _, _, _, _, _, _, h22⟩, ⟨_, _, _, h18⟩, ⟨_, _, _, h23⟩, ⟨_, _, _, h24⟩, ⟨_, _, _, h25⟩, (Fr.tr (Fr.tr (Fr.tr Fr.rf k5 (by decide)) k12 (by decide)) k19 (by decide))⟩)
  · skip
    refine G_iload_n hX 1 rfl rfl d_Wr_readParts_28 ?_
    refine G_if_lt_z hX (tgt := 36) d_Wr_readParts_29 rfl (by omega) (fun c26 => ?_) (fun c27 => ?_)
    · skip
      refine G_iconst hX d_Wr_readParts_36 ?_
      have h28 : f15 53 = ob 9 [.ref (eA E 54), .ref (eA E 55), .ref (eA E 56), .ref (eA E 57), .ref (eA E 58), v5, v6, .int (zI sf), .int (zI ss), .int (zI st), .int (zI sz), .int (zI ck), .long l] := (k19 53 (by decide)).trans h13
      have h29 : f15 55 = ob 1 [u1, .int a1, .int b1] := (k19 55 (by decide)).trans ((k12 55 (by decide)).trans ((k5 55 (by decide)).trans hS1))
      have h30 : f15 56 = ob 1 [u2, .int a2, .int b2] := (k19 56 (by decide)).trans ((k12 56 (by decide)).trans ((k5 56 (by decide)).trans hS2))
      have h31 : f15 57 = ob 1 [u3, .int a3, .int b3] := (k19 57 (by decide)).trans ((k12 57 (by decide)).trans ((k5 57 (by decide)).trans hS3))
      exact F_zret hX hE (by decide) d_Wr_readParts_37 (Or.inr ⟨by omega, rfl, ⟨_, _, _, _, _, _, _, _, h28⟩, ⟨_, _, _, h18⟩, ⟨_, _, _, h29⟩, ⟨_, _, _, h30⟩, ⟨_, _, _, h31⟩, (Fr.tr (Fr.tr (Fr.tr Fr.rf k5 (by decide)) k12 (by decide)) k19 (by decide))⟩)
    · skip
      refine G_iload_n hX 0 rfl rfl d_Wr_readParts_32 ?_
      refine G_if_ge_z hX (tgt := 38) d_Wr_readParts_33 rfl (by omega) (fun c32 => ?_) (fun c33 => ?_)
      · skip
        refine G_aload_n hX 3 rfl rfl d_Wr_readParts_38 ?_
        have h34 : f15 53 = ob 9 [.ref (eA E 54), .ref (eA E 55), .ref (eA E 56), .ref (eA E 57), .ref (eA E 58), v5, v6, .int (zI sf), .int (zI ss), .int (zI st), .int (zI sz), .int (zI ck), .long l] := (k19 53 (by decide)).trans h13
        refine F_get hX fg_Wr_61 d_Wr_readParts_39 53 (by decide) h34 rfl ?_
        refine G_if_eq_z hX (tgt := 49) d_Wr_readParts_42 rfl (by omega) (fun c35 => ?_) (fun c36 => ?_)
        · skip
          refine G_iconst hX d_Wr_readParts_49 ?_
          refine G_top (show zI 0 = zI (4 * ck) from by rw [show ck = 0 by omega]; rfl) ?_
          refine G_istore hX (lv' := [(4, .int (zI (4 * ck))), (3, .int (zI ((numL g e 4 ((numL g e 4 ((numL g e 4 p 0).2) 0).2) 0).1))), (2, .int (zI ((numL g e 4 ((numL g e 4 p 0).2) 0).1))), (1, .int (zI ((numL g e 4 p 0).1))), (0, .ref (eA E 53))]) (by decide) rfl d_Wr_readParts_50 ?_
          refine G_iload_n hX 3 rfl rfl d_Wr_readParts_52 ?_
          refine G_iload_n hX 2 rfl rfl d_Wr_readParts_53 ?_
          refine G_iadd_z hX d_Wr_readParts_54 ?_
          refine G_iload_n hX 1 rfl rfl d_Wr_readParts_55 ?_
          refine G_iadd_z hX d_Wr_readParts_56 ?_
          refine G_iload hX 0 rfl d_Wr_readParts_57 ?_
          refine G_iadd_z hX d_Wr_readParts_59 ?_
          refine G_aload_n hX 4 rfl rfl d_Wr_readParts_60 ?_
          refine F_get hX fg_Wr_12 d_Wr_readParts_61 53 (by decide) h34 rfl ?_
          have h37 : f15 7 = iz E 700 g := (k19 7 (by decide)).trans h14
          refine F_callV hX (st := [.int (zI (((((numL g e 4 p 0).1) + ((numL g e 4 ((numL g e 4 p 0).2) 0).1)) + ((numL g e 4 ((numL g e 4 ((numL g e 4 p 0).2) 0).2) 0).1)) + (4 * ck)))]) (c_Cu_left E f15 54 7 700 g ((numL g e 4 ((numL g e 4 ((numL g e 4 p 0).2) 0).2) 0).2) e (by decide) (by decide) (by decide) h18 h37 (by omega)) cm_Cu_left im_Cu_left se_Cu_left rfl ml_Wr_68 d_Wr_readParts_64 (by decide) h18 rfl rfl (Nat.le_of_ble_eq_true rfl) (by decide) ?_
          rintro _ f38 ⟨rfl, e41⟩
          obtain rfl := e41.symm
          refine G_cast (st' := [.int (zI (e - ((numL g e 4 ((numL g e 4 ((numL g e 4 p 0).2) 0).2) 0).2))), .int (zI (((((numL g e 4 p 0).1) + ((numL g e 4 ((numL g e 4 p 0).2) 0).1)) + ((numL g e 4 ((numL g e 4 ((numL g e 4 p 0).2) 0).2) 0).1)) + (4 * ck)))]) ?_ rfl rfl rfl rfl
          refine G_icmp_eq_z hX (tgt := 72) d_Wr_readParts_67 rfl (by omega) (fun c42 => ?_) (fun c43 => ?_)
          · skip
            refine G_aload_n hX 4 rfl rfl d_Wr_readParts_72 ?_
            refine G_lconst hX (v := zL 0) (by decide) d_Wr_readParts_73 ?_
            refine F_put hX fg_Wr_96 fp_Wr_12 d_Wr_readParts_74 53 (fs' := [.ref (eA E 54), .ref (eA E 55), .ref (eA E 56), .ref (eA E 57), .ref (eA E 58), v5, v6, .int (zI sf), .int (zI ss), .int (zI st), .int (zI sz), .int (zI ck), .long (zL 0)]) (by decide) h34 rfl rfl (Nat.le_of_ble_eq_true rfl) rfl (fun f44 h45 k46 => ?_)
            refine G_iconst hX d_Wr_readParts_77 ?_
            refine G_istore hX (lv' := [(5, .int (zI 0)), (4, .int (zI (4 * ck))), (3, .int (zI ((numL g e 4 ((numL g e 4 ((numL g e 4 p 0).2) 0).2) 0).1))), (2, .int (zI ((numL g e 4 ((numL g e 4 p 0).2) 0).1))), (1, .int (zI ((numL g e 4 p 0).1))), (0, .ref (eA E 53))]) (by decide) rfl d_Wr_readParts_78 ?_
            have loop47 : ∀ (q : Nat) (i : Int) (v : Int) (f48 : Nat → va_E), (4 * ck - i).toNat < q → (0 ≤ i ∧ i ≤ 4 * ck) → (0 ≤ v ∧ v < 256 ^ i.toNat) → (cvL g (4 * ck).toNat (numL g e 4 (numL g e 4 (numL g e 4 p 0).2 0).2 0).2 0 = cvL g (4 * ck - i).toNat ((numL g e 4 (numL g e 4 (numL g e 4 p 0).2 0).2 0).2 + i) v) → f48 53 = ob 9 [.ref (eA E 54), .ref (eA E 55), .ref (eA E 56), .ref (eA E 57), .ref (eA E 58), v5, v6, .int (zI sf), .int (zI ss), .int (zI st), .int (zI sz), .int (zI ck), .long (zL v)] → f48 54 = ob 1 [.ref (eA E 7), .int (zI ((numL g e 4 (numL g e 4 (numL g e 4 p 0).2 0).2 0).2 + i)), .int (zI e)] → Fr [53, 54] f44 f48 → G E X 0 0 80 [(0, .ref (eA E 53)), (1, .int (zI ((numL g e 4 p 0).1))), (2, .int (zI ((numL g e 4 (numL g e 4 p 0).2 0).1))), (3, .int (zI ((numL g e 4 (numL g e 4 (numL g e 4 p 0).2 0).2 0).1))), (4, .int (zI (4 * ck))), (5, .int (zI i))] [] (wl E f48) := by
              intro q
              induction q with
              | zero => intro i v f48 hms50; exact absurd hms50 (Nat.not_lt_zero _)
              | succ q ih51 =>
                intro i v f48 hms50 hi hv hs h52 h53 k49
                refine G_iload hX 5 rfl d_Wr_readParts_80 ?_
                refine G_iload hX 4 rfl d_Wr_readParts_82 ?_
                refine G_icmp_ge_z hX (tgt := 114) d_Wr_readParts_84 rfl (by omega) (fun c54 => ?_) (fun c55 => ?_)
                · skip
                  refine G_aload_n hX 0 rfl rfl d_Wr_readParts_114 ?_
                  refine F_get hX fg_Wr_18 d_Wr_readParts_115 53 (by decide) h52 rfl ?_
                  refine G_aload_n hX 0 rfl rfl d_Wr_readParts_118 ?_
                  refine F_get hX fg_Wr_12 d_Wr_readParts_119 53 (by decide) h52 rfl ?_
                  refine F_get hX fg_Wr_71 d_Wr_readParts_122 54 (by decide) h53 rfl ?_
                  refine G_aload_n hX 0 rfl rfl d_Wr_readParts_125 ?_
                  refine F_get hX fg_Wr_12 d_Wr_readParts_126 53 (by decide) h52 rfl ?_
                  refine F_get hX fg_Wr_75 d_Wr_readParts_129 54 (by decide) h53 rfl ?_
                  refine G_iload_n hX 1 rfl rfl d_Wr_readParts_132 ?_
                  have h56 : f48 55 = ob 1 [u1, .int a1, .int b1] := (k49 55 (by decide)).trans ((k46 55 (by decide)).trans ((k19 55 (by decide)).trans ((k12 55 (by decide)).trans ((k5 55 (by decide)).trans hS1))))
                  refine F_callV hX (st := []) (c_Cu_open E f48 55 7 u1 a1 b1 ((numL g e 4 (numL g e 4 (numL g e 4 p 0).2 0).2 0).2 + i) ((numL g e 4 p 0).1) (by decide) h56) cm_Cu_open im_Cu_open se_Cu_open rfl ml_Wr_78 d_Wr_readParts_133 (by decide) h56 rfl rfl (Nat.le_of_ble_eq_true rfl) (by decide) ?_
                  rintro _ f57 ⟨rfl, h60, k61⟩
                  refine G_cast (st' := []) ?_ rfl rfl rfl rfl
                  refine G_aload_n hX 0 rfl rfl d_Wr_readParts_136 ?_
                  have h62 : f57 53 = ob 9 [.ref (eA E 54), .ref (eA E 55), .ref (eA E 56), .ref (eA E 57), .ref (eA E 58), v5, v6, .int (zI sf), .int (zI ss), .int (zI st), .int (zI sz), .int (zI ck), .long (zL v)] := (k61 53 (by decide)).trans h52
                  refine F_get hX fg_Wr_21 d_Wr_readParts_137 53 (by decide) h62 rfl ?_
                  refine G_aload_n hX 0 rfl rfl d_Wr_readParts_140 ?_
                  refine F_get hX fg_Wr_12 d_Wr_readParts_141 53 (by decide) h62 rfl ?_
                  have h63 : f57 54 = ob 1 [.ref (eA E 7), .int (zI ((numL g e 4 (numL g e 4 (numL g e 4 p 0).2 0).2 0).2 + i)), .int (zI e)] := (k61 54 (by decide)).trans h53
                  refine F_get hX fg_Wr_71 d_Wr_readParts_144 54 (by decide) h63 rfl ?_
                  refine G_aload_n hX 0 rfl rfl d_Wr_readParts_147 ?_
                  refine F_get hX fg_Wr_18 d_Wr_readParts_148 53 (by decide) h62 rfl ?_
                  refine F_get hX fg_Wr_102 d_Wr_readParts_151 55 (by decide) h60 rfl ?_
                  refine G_iload_n hX 2 rfl rfl d_Wr_readParts_154 ?_
                  have h64 : f57 56 = ob 1 [u2, .int a2, .int b2] := (k61 56 (by decide)).trans ((k49 56 (by decide)).trans ((k46 56 (by decide)).trans ((k19 56 (by decide)).trans ((k12 56 (by decide)).trans ((k5 56 (by decide)).trans hS2)))))
                  refine F_callV hX (st := []) (c_Cu_open E f57 56 7 u2 a2 b2 (((numL g e 4 (numL g e 4 (numL g e 4 p 0).2 0).2 0).2 + i) + ((numL g e 4 p 0).1)) ((numL g e 4 (numL g e 4 p 0).2 0).1) (by decide) h64) cm_Cu_open im_Cu_open se_Cu_open rfl ml_Wr_78 d_Wr_readParts_155 (by decide) h64 rfl rfl (Nat.le_of_ble_eq_true rfl) (by decide) ?_
                  rintro _ f65 ⟨rfl, h68, k69⟩
                  refine G_cast (st' := []) ?_ rfl rfl rfl rfl
                  refine G_aload_n hX 0 rfl rfl d_Wr_readParts_158 ?_
                  have h70 : f65 53 = ob 9 [.ref (eA E 54), .ref (eA E 55), .ref (eA E 56), .ref (eA E 57), .ref (eA E 58), v5, v6, .int (zI sf), .int (zI ss), .int (zI st), .int (zI sz), .int (zI ck), .long (zL v)] := (k69 53 (by decide)).trans h62
                  refine F_get hX fg_Wr_24 d_Wr_readParts_159 53 (by decide) h70 rfl ?_
                  refine G_aload_n hX 0 rfl rfl d_Wr_readParts_162 ?_
                  refine F_get hX fg_Wr_12 d_Wr_readParts_163 53 (by decide) h70 rfl ?_
                  have h71 : f65 54 = ob 1 [.ref (eA E 7), .int (zI ((numL g e 4 (numL g e 4 (numL g e 4 p 0).2 0).2 0).2 + i)), .int (zI e)] := (k69 54 (by decide)).trans h63
                  refine F_get hX fg_Wr_71 d_Wr_readParts_166 54 (by decide) h71 rfl ?_
                  refine G_aload_n hX 0 rfl rfl d_Wr_readParts_169 ?_
                  refine F_get hX fg_Wr_21 d_Wr_readParts_170 53 (by decide) h70 rfl ?_
                  refine F_get hX fg_Wr_102 d_Wr_readParts_173 56 (by decide) h68 rfl ?_
                  refine G_iload_n hX 3 rfl rfl d_Wr_readParts_176 ?_
                  have h72 : f65 57 = ob 1 [u3, .int a3, .int b3] := (k69 57 (by decide)).trans ((k61 57 (by decide)).trans ((k49 57 (by decide)).trans ((k46 57 (by decide)).trans ((k19 57 (by decide)).trans ((k12 57 (by decide)).trans ((k5 57 (by decide)).trans hS3))))))
                  refine F_callV hX (st := []) (c_Cu_open E f65 57 7 u3 a3 b3 ((((numL g e 4 (numL g e 4 (numL g e 4 p 0).2 0).2 0).2 + i) + ((numL g e 4 p 0).1)) + ((numL g e 4 (numL g e 4 p 0).2 0).1)) ((numL g e 4 (numL g e 4 (numL g e 4 p 0).2 0).2 0).1) (by decide) h72) cm_Cu_open im_Cu_open se_Cu_open rfl ml_Wr_78 d_Wr_readParts_177 (by decide) h72 rfl rfl (Nat.le_of_ble_eq_true rfl) (by decide) ?_
                  rintro _ f73 ⟨rfl, h76, k77⟩
                  refine G_cast (st' := []) ?_ rfl rfl rfl rfl
                  refine G_iconst hX d_Wr_readParts_180 ?_
                  have e1 : cvL g (4 * ck).toNat (numL g e 4 (numL g e 4 (numL g e 4 p 0).2 0).2 0).2 0 = v := by rw [hs, cvL_e (by omega)]
                  have e2 : i = 4 * ck := by omega
                  rw [e1] at hE
                  have h78 : f73 55 = ob 1 [.ref (eA E 7), .int (zI ((numL g e 4 (numL g e 4 (numL g e 4 p 0).2 0).2 0).2 + i)), .int (zI (((numL g e 4 (numL g e 4 (numL g e 4 p 0).2 0).2 0).2 + i) + ((numL g e 4 p 0).1)))] := (k77 55 (by decide)).trans ((k69 55 (by decide)).trans h60)
                  have h79 : f73 56 = ob 1 [.ref (eA E 7), .int (zI (((numL g e 4 (numL g e 4 (numL g e 4 p 0).2 0).2 0).2 + i) + ((numL g e 4 p 0).1))), .int (zI ((((numL g e 4 (numL g e 4 (numL g e 4 p 0).2 0).2 0).2 + i) + ((numL g e 4 p 0).1)) + ((numL g e 4 (numL g e 4 p 0).2 0).1)))] := (k77 56 (by decide)).trans h68
                  have h80 : f73 53 = ob 9 [.ref (eA E 54), .ref (eA E 55), .ref (eA E 56), .ref (eA E 57), .ref (eA E 58), v5, v6, .int (zI sf), .int (zI ss), .int (zI st), .int (zI sz), .int (zI ck), .long (zL v)] := (k77 53 (by decide)).trans h70
                  have h81 : f73 54 = ob 1 [.ref (eA E 7), .int (zI ((numL g e 4 (numL g e 4 (numL g e 4 p 0).2 0).2 0).2 + i)), .int (zI e)] := (k77 54 (by decide)).trans h71
                  exact F_zret hX hE (by decide) d_Wr_readParts_181 (Or.inl ⟨by omega, rfl, by rw [← e2]; exact h78, by rw [← e2]; exact h79, by rw [← e2]; exact h76, h80, ⟨_, _, _, h81⟩, (Fr.tr (Fr.tr (Fr.tr (Fr.tr (Fr.tr (Fr.tr (Fr.tr (Fr.tr Fr.rf k5 (by decide)) k12 (by decide)) k19 (by decide)) k46 (by decide)) k49 (by decide)) k61 (by decide)) k69 (by decide)) k77 (by decide))⟩)
                · skip
                  refine G_aload_n hX 0 rfl rfl d_Wr_readParts_87 ?_
                  refine G_ldc2 hX kn_Wr_100 d_Wr_readParts_88 ?_
                  refine G_topl (show (256 : Int64) = zL (256) from by decide) ?_
                  refine G_aload_n hX 0 rfl rfl d_Wr_readParts_91 ?_
                  refine F_get hX fg_Wr_96 d_Wr_readParts_92 53 (by decide) h52 rfl ?_
                  refine G_lmul_z hX d_Wr_readParts_95 ?_
                  refine G_aload_n hX 0 rfl rfl d_Wr_readParts_96 ?_
                  refine F_get hX fg_Wr_12 d_Wr_readParts_97 53 (by decide) h52 rfl ?_
                  have h82 : f48 7 = iz E 700 g := (k49 7 (by decide)).trans ((k46 7 (by decide)).trans h37)
                  refine F_callV hX (st := [.long (zL (256 * v)), .ref (eA E 53)]) (c_Cu_next E f48 54 7 700 g ((numL g e 4 (numL g e 4 (numL g e 4 p 0).2 0).2 0).2 + i) e (by decide) (by decide) (by decide) h53 h82 (by omega)) cm_Cu_next im_Cu_next se_Cu_next rfl ml_Wr_53 d_Wr_readParts_100 (by decide) h53 rfl rfl (Nat.le_of_ble_eq_true rfl) (by decide) ?_
                  rintro _ f83 ⟨rfl, h86, k87⟩
                  refine G_cast (st' := [.int (zI (nxV g ((numL g e 4 (numL g e 4 (numL g e 4 p 0).2 0).2 0).2 + i) e)), .long (zL (256 * v)), .ref (eA E 53)]) ?_ rfl rfl rfl rfl
                  have hlt : (numL g e 4 (numL g e 4 (numL g e 4 p 0).2 0).2 0).2 + i < e := by omega
                  have h9p : isC E f83 54 7 ((numL g e 4 (numL g e 4 (numL g e 4 p 0).2 0).2 0).2 + (i + 1)) e := by have := h86; rw [nxP_lt hlt, Int.add_assoc] at this; exact this
                  refine G_top (show zI (nxV g ((numL g e 4 (numL g e 4 (numL g e 4 p 0).2 0).2 0).2 + i) e) = zI (g ((numL g e 4 (numL g e 4 (numL g e 4 p 0).2 0).2 0).2 + i)) from by rw [nxV_lt hlt]) ?_
                  have hgp := hB ((numL g e 4 (numL g e 4 (numL g e 4 p 0).2 0).2 0).2 + i)
                  refine G_i2l hX (v := zL (g ((numL g e 4 (numL g e 4 (numL g e 4 p 0).2 0).2 0).2 + i))) (zI_l (by omega)) d_Wr_readParts_103 ?_
                  refine G_ladd_z hX d_Wr_readParts_104 ?_
                  have h88 : f83 53 = ob 9 [.ref (eA E 54), .ref (eA E 55), .ref (eA E 56), .ref (eA E 57), .ref (eA E 58), v5, v6, .int (zI sf), .int (zI ss), .int (zI st), .int (zI sz), .int (zI ck), .long (zL v)] := (k87 53 (by decide)).trans h52
                  refine F_put hX fg_Wr_96 fp_Wr_12 d_Wr_readParts_105 53 (fs' := [.ref (eA E 54), .ref (eA E 55), .ref (eA E 56), .ref (eA E 57), .ref (eA E 58), v5, v6, .int (zI sf), .int (zI ss), .int (zI st), .int (zI sz), .int (zI ck), .long (zL ((256 * v) + (g ((numL g e 4 (numL g e 4 (numL g e 4 p 0).2 0).2 0).2 + i))))]) (by decide) h88 rfl rfl (Nat.le_of_ble_eq_true rfl) rfl (fun f89 h90 k91 => ?_)
                  refine G_iinc_z hX (lv' := [(5, .int (zI (i + 1))), (0, .ref (eA E 53)), (1, .int (zI ((numL g e 4 p 0).1))), (2, .int (zI ((numL g e 4 (numL g e 4 p 0).2 0).1))), (3, .int (zI ((numL g e 4 (numL g e 4 (numL g e 4 p 0).2 0).2 0).1))), (4, .int (zI (4 * ck)))]) 5 rfl (by decide) rfl d_Wr_readParts_108 ?_
                  refine G_goto hX (tgt := 80) d_Wr_readParts_111 rfl ?_
                  have h92 : f89 54 = ob 1 [.ref (eA E 7), .int (zI ((numL g e 4 (numL g e 4 (numL g e 4 p 0).2 0).2 0).2 + (i + 1))), .int (zI e)] := (k91 54 (by decide)).trans h9p
                  refine G_loc (lv' := [(0, .ref (eA E 53)), (1, .int (zI ((numL g e 4 p 0).1))), (2, .int (zI ((numL g e 4 (numL g e 4 p 0).2 0).1))), (3, .int (zI ((numL g e 4 (numL g e 4 (numL g e 4 p 0).2 0).2 0).1))), (4, .int (zI (4 * ck))), (5, .int (zI (i + 1)))]) [1, 2, 3, 4, 5, 0] rfl ?_
                  exact ih51 (i + 1) (256 * v + g ((numL g e 4 (numL g e 4 (numL g e 4 p 0).2 0).2 0).2 + i)) f89 (by omega) (by omega) (pw256 hi.1 hv hgp) (hs.trans (by rw [cvL_s (by omega), Int.add_assoc])) h90 h92 (Fr.tr (Fr.tr (Fr.tr Fr.rf k49 (by decide)) k87 (by decide)) k91 (by decide))
            have h93 : f44 54 = ob 1 [.ref (eA E 7), .int (zI ((numL g e 4 ((numL g e 4 ((numL g e 4 p 0).2) 0).2) 0).2)), .int (zI e)] := (k46 54 (by decide)).trans h18
            refine G_loc (lv' := [(0, .ref (eA E 53)), (1, .int (zI ((numL g e 4 p 0).1))), (2, .int (zI ((numL g e 4 ((numL g e 4 p 0).2) 0).1))), (3, .int (zI ((numL g e 4 ((numL g e 4 ((numL g e 4 p 0).2) 0).2) 0).1))), (4, .int (zI (4 * ck))), (5, .int (zI 0))]) [5, 4, 3, 2, 1, 0] rfl ?_
            exact loop47 (_ + 1) 0 0 f44 (Nat.lt_succ_self _) (by omega) ⟨Int.le_refl 0, by decide⟩ (by rw [Int.sub_zero, Int.add_zero]) h45 (by rw [Int.add_zero]; exact h93) Fr.rf
          · skip
            refine G_iconst hX d_Wr_readParts_70 ?_
            have h94 : f15 55 = ob 1 [u1, .int a1, .int b1] := (k19 55 (by decide)).trans ((k12 55 (by decide)).trans ((k5 55 (by decide)).trans hS1))
            have h95 : f15 56 = ob 1 [u2, .int a2, .int b2] := (k19 56 (by decide)).trans ((k12 56 (by decide)).trans ((k5 56 (by decide)).trans hS2))
            have h96 : f15 57 = ob 1 [u3, .int a3, .int b3] := (k19 57 (by decide)).trans ((k12 57 (by decide)).trans ((k5 57 (by decide)).trans hS3))
            exact F_zret hX hE (by decide) d_Wr_readParts_71 (Or.inr ⟨by omega, rfl, ⟨_, _, _, _, _, _, _, _, h34⟩, ⟨_, _, _, h18⟩, ⟨_, _, _, h94⟩, ⟨_, _, _, h95⟩, ⟨_, _, _, h96⟩, (Fr.tr (Fr.tr (Fr.tr Fr.rf k5 (by decide)) k12 (by decide)) k19 (by decide))⟩)
        · skip
          refine G_iconst hX d_Wr_readParts_45 ?_
          refine G_goto hX (tgt := 50) d_Wr_readParts_46 rfl ?_
          refine G_top (show zI 4 = zI (4 * ck) from by rw [show ck = 1 by omega]; rfl) ?_
          refine G_istore hX (lv' := [(4, .int (zI (4 * ck))), (3, .int (zI ((numL g e 4 ((numL g e 4 ((numL g e 4 p 0).2) 0).2) 0).1))), (2, .int (zI ((numL g e 4 ((numL g e 4 p 0).2) 0).1))), (1, .int (zI ((numL g e 4 p 0).1))), (0, .ref (eA E 53))]) (by decide) rfl d_Wr_readParts_50 ?_
          refine G_iload_n hX 3 rfl rfl d_Wr_readParts_52 ?_
          refine G_iload_n hX 2 rfl rfl d_Wr_readParts_53 ?_
          refine G_iadd_z hX d_Wr_readParts_54 ?_
          refine G_iload_n hX 1 rfl rfl d_Wr_readParts_55 ?_
          refine G_iadd_z hX d_Wr_readParts_56 ?_
          refine G_iload hX 0 rfl d_Wr_readParts_57 ?_
          refine G_iadd_z hX d_Wr_readParts_59 ?_
          refine G_aload_n hX 4 rfl rfl d_Wr_readParts_60 ?_
          refine F_get hX fg_Wr_12 d_Wr_readParts_61 53 (by decide) h34 rfl ?_
          have h97 : f15 7 = iz E 700 g := (k19 7 (by decide)).trans h14
          refine F_callV hX (st := [.int (zI (((((numL g e 4 p 0).1) + ((numL g e 4 ((numL g e 4 p 0).2) 0).1)) + ((numL g e 4 ((numL g e 4 ((numL g e 4 p 0).2) 0).2) 0).1)) + (4 * ck)))]) (c_Cu_left E f15 54 7 700 g ((numL g e 4 ((numL g e 4 ((numL g e 4 p 0).2) 0).2) 0).2) e (by decide) (by decide) (by decide) h18 h97 (by omega)) cm_Cu_left im_Cu_left se_Cu_left rfl ml_Wr_68 d_Wr_readParts_64 (by decide) h18 rfl rfl (Nat.le_of_ble_eq_true rfl) (by decide) ?_
          rintro _ f98 ⟨rfl, e101⟩
          obtain rfl := e101.symm
          refine G_cast (st' := [.int (zI (e - ((numL g e 4 ((numL g e 4 ((numL g e 4 p 0).2) 0).2) 0).2))), .int (zI (((((numL g e 4 p 0).1) + ((numL g e 4 ((numL g e 4 p 0).2) 0).1)) + ((numL g e 4 ((numL g e 4 ((numL g e 4 p 0).2) 0).2) 0).1)) + (4 * ck)))]) ?_ rfl rfl rfl rfl
          refine G_icmp_eq_z hX (tgt := 72) d_Wr_readParts_67 rfl (by omega) (fun c102 => ?_) (fun c103 => ?_)
          · skip
            refine G_aload_n hX 4 rfl rfl d_Wr_readParts_72 ?_
            refine G_lconst hX (v := zL 0) (by decide) d_Wr_readParts_73 ?_
            refine F_put hX fg_Wr_96 fp_Wr_12 d_Wr_readParts_74 53 (fs' := [.ref (eA E 54), .ref (eA E 55), .ref (eA E 56), .ref (eA E 57), .ref (eA E 58), v5, v6, .int (zI sf), .int (zI ss), .int (zI st), .int (zI sz), .int (zI ck), .long (zL 0)]) (by decide) h34 rfl rfl (Nat.le_of_ble_eq_true rfl) rfl (fun f104 h105 k106 => ?_)
            refine G_iconst hX d_Wr_readParts_77 ?_
            refine G_istore hX (lv' := [(5, .int (zI 0)), (4, .int (zI (4 * ck))), (3, .int (zI ((numL g e 4 ((numL g e 4 ((numL g e 4 p 0).2) 0).2) 0).1))), (2, .int (zI ((numL g e 4 ((numL g e 4 p 0).2) 0).1))), (1, .int (zI ((numL g e 4 p 0).1))), (0, .ref (eA E 53))]) (by decide) rfl d_Wr_readParts_78 ?_
            have loop107 : ∀ (q : Nat) (i : Int) (v : Int) (f108 : Nat → va_E), (4 * ck - i).toNat < q → (0 ≤ i ∧ i ≤ 4 * ck) → (0 ≤ v ∧ v < 256 ^ i.toNat) → (cvL g (4 * ck).toNat (numL g e 4 (numL g e 4 (numL g e 4 p 0).2 0).2 0).2 0 = cvL g (4 * ck - i).toNat ((numL g e 4 (numL g e 4 (numL g e 4 p 0).2 0).2 0).2 + i) v) → f108 53 = ob 9 [.ref (eA E 54), .ref (eA E 55), .ref (eA E 56), .ref (eA E 57), .ref (eA E 58), v5, v6, .int (zI sf), .int (zI ss), .int (zI st), .int (zI sz), .int (zI ck), .long (zL v)] → f108 54 = ob 1 [.ref (eA E 7), .int (zI ((numL g e 4 (numL g e 4 (numL g e 4 p 0).2 0).2 0).2 + i)), .int (zI e)] → Fr [53, 54] f104 f108 → G E X 0 0 80 [(0, .ref (eA E 53)), (1, .int (zI ((numL g e 4 p 0).1))), (2, .int (zI ((numL g e 4 (numL g e 4 p 0).2 0).1))), (3, .int (zI ((numL g e 4 (numL g e 4 (numL g e 4 p 0).2 0).2 0).1))), (4, .int (zI (4 * ck))), (5, .int (zI i))] [] (wl E f108) := by
              intro q
              induction q with
              | zero => intro i v f108 hms110; exact absurd hms110 (Nat.not_lt_zero _)
              | succ q ih111 =>
                intro i v f108 hms110 hi hv hs h112 h113 k109
                refine G_iload hX 5 rfl d_Wr_readParts_80 ?_
                refine G_iload hX 4 rfl d_Wr_readParts_82 ?_
                refine G_icmp_ge_z hX (tgt := 114) d_Wr_readParts_84 rfl (by omega) (fun c114 => ?_) (fun c115 => ?_)
                · skip
                  refine G_aload_n hX 0 rfl rfl d_Wr_readParts_114 ?_
                  refine F_get hX fg_Wr_18 d_Wr_readParts_115 53 (by decide) h112 rfl ?_
                  refine G_aload_n hX 0 rfl rfl d_Wr_readParts_118 ?_
                  refine F_get hX fg_Wr_12 d_Wr_readParts_119 53 (by decide) h112 rfl ?_
                  refine F_get hX fg_Wr_71 d_Wr_readParts_122 54 (by decide) h113 rfl ?_
                  refine G_aload_n hX 0 rfl rfl d_Wr_readParts_125 ?_
                  refine F_get hX fg_Wr_12 d_Wr_readParts_126 53 (by decide) h112 rfl ?_
                  refine F_get hX fg_Wr_75 d_Wr_readParts_129 54 (by decide) h113 rfl ?_
                  refine G_iload_n hX 1 rfl rfl d_Wr_readParts_132 ?_
                  have h116 : f108 55 = ob 1 [u1, .int a1, .int b1] := (k109 55 (by decide)).trans ((k106 55 (by decide)).trans ((k19 55 (by decide)).trans ((k12 55 (by decide)).trans ((k5 55 (by decide)).trans hS1))))
                  refine F_callV hX (st := []) (c_Cu_open E f108 55 7 u1 a1 b1 ((numL g e 4 (numL g e 4 (numL g e 4 p 0).2 0).2 0).2 + i) ((numL g e 4 p 0).1) (by decide) h116) cm_Cu_open im_Cu_open se_Cu_open rfl ml_Wr_78 d_Wr_readParts_133 (by decide) h116 rfl rfl (Nat.le_of_ble_eq_true rfl) (by decide) ?_
                  rintro _ f117 ⟨rfl, h120, k121⟩
                  refine G_cast (st' := []) ?_ rfl rfl rfl rfl
                  refine G_aload_n hX 0 rfl rfl d_Wr_readParts_136 ?_
                  have h122 : f117 53 = ob 9 [.ref (eA E 54), .ref (eA E 55), .ref (eA E 56), .ref (eA E 57), .ref (eA E 58), v5, v6, .int (zI sf), .int (zI ss), .int (zI st), .int (zI sz), .int (zI ck), .long (zL v)] := (k121 53 (by decide)).trans h112
                  refine F_get hX fg_Wr_21 d_Wr_readParts_137 53 (by decide) h122 rfl ?_
                  refine G_aload_n hX 0 rfl rfl d_Wr_readParts_140 ?_
                  refine F_get hX fg_Wr_12 d_Wr_readParts_141 53 (by decide) h122 rfl ?_
                  have h123 : f117 54 = ob 1 [.ref (eA E 7), .int (zI ((numL g e 4 (numL g e 4 (numL g e 4 p 0).2 0).2 0).2 + i)), .int (zI e)] := (k121 54 (by decide)).trans h113
                  refine F_get hX fg_Wr_71 d_Wr_readParts_144 54 (by decide) h123 rfl ?_
                  refine G_aload_n hX 0 rfl rfl d_Wr_readParts_147 ?_
                  refine F_get hX fg_Wr_18 d_Wr_readParts_148 53 (by decide) h122 rfl ?_
                  refine F_get hX fg_Wr_102 d_Wr_readParts_151 55 (by decide) h120 rfl ?_
                  refine G_iload_n hX 2 rfl rfl d_Wr_readParts_154 ?_
                  have h124 : f117 56 = ob 1 [u2, .int a2, .int b2] := (k121 56 (by decide)).trans ((k109 56 (by decide)).trans ((k106 56 (by decide)).trans ((k19 56 (by decide)).trans ((k12 56 (by decide)).trans ((k5 56 (by decide)).trans hS2)))))
                  refine F_callV hX (st := []) (c_Cu_open E f117 56 7 u2 a2 b2 (((numL g e 4 (numL g e 4 (numL g e 4 p 0).2 0).2 0).2 + i) + ((numL g e 4 p 0).1)) ((numL g e 4 (numL g e 4 p 0).2 0).1) (by decide) h124) cm_Cu_open im_Cu_open se_Cu_open rfl ml_Wr_78 d_Wr_readParts_155 (by decide) h124 rfl rfl (Nat.le_of_ble_eq_true rfl) (by decide) ?_
                  rintro _ f125 ⟨rfl, h128, k129⟩
                  refine G_cast (st' := []) ?_ rfl rfl rfl rfl
                  refine G_aload_n hX 0 rfl rfl d_Wr_readParts_158 ?_
                  have h130 : f125 53 = ob 9 [.ref (eA E 54), .ref (eA E 55), .ref (eA E 56), .ref (eA E 57), .ref (eA E 58), v5, v6, .int (zI sf), .int (zI ss), .int (zI st), .int (zI sz), .int (zI ck), .long (zL v)] := (k129 53 (by decide)).trans h122
                  refine F_get hX fg_Wr_24 d_Wr_readParts_159 53 (by decide) h130 rfl ?_
                  refine G_aload_n hX 0 rfl rfl d_Wr_readParts_162 ?_
                  refine F_get hX fg_Wr_12 d_Wr_readParts_163 53 (by decide) h130 rfl ?_
                  have h131 : f125 54 = ob 1 [.ref (eA E 7), .int (zI ((numL g e 4 (numL g e 4 (numL g e 4 p 0).2 0).2 0).2 + i)), .int (zI e)] := (k129 54 (by decide)).trans h123
                  refine F_get hX fg_Wr_71 d_Wr_readParts_166 54 (by decide) h131 rfl ?_
                  refine G_aload_n hX 0 rfl rfl d_Wr_readParts_169 ?_
                  refine F_get hX fg_Wr_21 d_Wr_readParts_170 53 (by decide) h130 rfl ?_
                  refine F_get hX fg_Wr_102 d_Wr_readParts_173 56 (by decide) h128 rfl ?_
                  refine G_iload_n hX 3 rfl rfl d_Wr_readParts_176 ?_
                  have h132 : f125 57 = ob 1 [u3, .int a3, .int b3] := (k129 57 (by decide)).trans ((k121 57 (by decide)).trans ((k109 57 (by decide)).trans ((k106 57 (by decide)).trans ((k19 57 (by decide)).trans ((k12 57 (by decide)).trans ((k5 57 (by decide)).trans hS3))))))
                  refine F_callV hX (st := []) (c_Cu_open E f125 57 7 u3 a3 b3 ((((numL g e 4 (numL g e 4 (numL g e 4 p 0).2 0).2 0).2 + i) + ((numL g e 4 p 0).1)) + ((numL g e 4 (numL g e 4 p 0).2 0).1)) ((numL g e 4 (numL g e 4 (numL g e 4 p 0).2 0).2 0).1) (by decide) h132) cm_Cu_open im_Cu_open se_Cu_open rfl ml_Wr_78 d_Wr_readParts_177 (by decide) h132 rfl rfl (Nat.le_of_ble_eq_true rfl) (by decide) ?_
                  rintro _ f133 ⟨rfl, h136, k137⟩
                  refine G_cast (st' := []) ?_ rfl rfl rfl rfl
                  refine G_iconst hX d_Wr_readParts_180 ?_
                  have e1 : cvL g (4 * ck).toNat (numL g e 4 (numL g e 4 (numL g e 4 p 0).2 0).2 0).2 0 = v := by rw [hs, cvL_e (by omega)]
                  have e2 : i = 4 * ck := by omega
                  rw [e1] at hE
                  have h138 : f133 55 = ob 1 [.ref (eA E 7), .int (zI ((numL g e 4 (numL g e 4 (numL g e 4 p 0).2 0).2 0).2 + i)), .int (zI (((numL g e 4 (numL g e 4 (numL g e 4 p 0).2 0).2 0).2 + i) + ((numL g e 4 p 0).1)))] := (k137 55 (by decide)).trans ((k129 55 (by decide)).trans h120)
                  have h139 : f133 56 = ob 1 [.ref (eA E 7), .int (zI (((numL g e 4 (numL g e 4 (numL g e 4 p 0).2 0).2 0).2 + i) + ((numL g e 4 p 0).1))), .int (zI ((((numL g e 4 (numL g e 4 (numL g e 4 p 0).2 0).2 0).2 + i) + ((numL g e 4 p 0).1)) + ((numL g e 4 (numL g e 4 p 0).2 0).1)))] := (k137 56 (by decide)).trans h128
                  have h140 : f133 53 = ob 9 [.ref (eA E 54), .ref (eA E 55), .ref (eA E 56), .ref (eA E 57), .ref (eA E 58), v5, v6, .int (zI sf), .int (zI ss), .int (zI st), .int (zI sz), .int (zI ck), .long (zL v)] := (k137 53 (by decide)).trans h130
                  have h141 : f133 54 = ob 1 [.ref (eA E 7), .int (zI ((numL g e 4 (numL g e 4 (numL g e 4 p 0).2 0).2 0).2 + i)), .int (zI e)] := (k137 54 (by decide)).trans h131
                  exact F_zret hX hE (by decide) d_Wr_readParts_181 (Or.inl ⟨by omega, rfl, by rw [← e2]; exact h138, by rw [← e2]; exact h139, by rw [← e2]; exact h136, h140, ⟨_, _, _, h141⟩, (Fr.tr (Fr.tr (Fr.tr (Fr.tr (Fr.tr (Fr.tr (Fr.tr (Fr.tr Fr.rf k5 (by decide)) k12 (by decide)) k19 (by decide)) k106 (by decide)) k109 (by decide)) k121 (by decide)) k129 (by decide)) k137 (by decide))⟩)
                · skip
                  refine G_aload_n hX 0 rfl rfl d_Wr_readParts_87 ?_
                  refine G_ldc2 hX kn_Wr_100 d_Wr_readParts_88 ?_
                  refine G_topl (show (256 : Int64) = zL (256) from by decide) ?_
                  refine G_aload_n hX 0 rfl rfl d_Wr_readParts_91 ?_
                  refine F_get hX fg_Wr_96 d_Wr_readParts_92 53 (by decide) h112 rfl ?_
                  refine G_lmul_z hX d_Wr_readParts_95 ?_
                  refine G_aload_n hX 0 rfl rfl d_Wr_readParts_96 ?_
                  refine F_get hX fg_Wr_12 d_Wr_readParts_97 53 (by decide) h112 rfl ?_
                  have h142 : f108 7 = iz E 700 g := (k109 7 (by decide)).trans ((k106 7 (by decide)).trans h97)
                  refine F_callV hX (st := [.long (zL (256 * v)), .ref (eA E 53)]) (c_Cu_next E f108 54 7 700 g ((numL g e 4 (numL g e 4 (numL g e 4 p 0).2 0).2 0).2 + i) e (by decide) (by decide) (by decide) h113 h142 (by omega)) cm_Cu_next im_Cu_next se_Cu_next rfl ml_Wr_53 d_Wr_readParts_100 (by decide) h113 rfl rfl (Nat.le_of_ble_eq_true rfl) (by decide) ?_
                  rintro _ f143 ⟨rfl, h146, k147⟩
                  refine G_cast (st' := [.int (zI (nxV g ((numL g e 4 (numL g e 4 (numL g e 4 p 0).2 0).2 0).2 + i) e)), .long (zL (256 * v)), .ref (eA E 53)]) ?_ rfl rfl rfl rfl
                  have hlt : (numL g e 4 (numL g e 4 (numL g e 4 p 0).2 0).2 0).2 + i < e := by omega
                  have h9p : isC E f143 54 7 ((numL g e 4 (numL g e 4 (numL g e 4 p 0).2 0).2 0).2 + (i + 1)) e := by have := h146; rw [nxP_lt hlt, Int.add_assoc] at this; exact this
                  refine G_top (show zI (nxV g ((numL g e 4 (numL g e 4 (numL g e 4 p 0).2 0).2 0).2 + i) e) = zI (g ((numL g e 4 (numL g e 4 (numL g e 4 p 0).2 0).2 0).2 + i)) from by rw [nxV_lt hlt]) ?_
                  have hgp := hB ((numL g e 4 (numL g e 4 (numL g e 4 p 0).2 0).2 0).2 + i)
                  refine G_i2l hX (v := zL (g ((numL g e 4 (numL g e 4 (numL g e 4 p 0).2 0).2 0).2 + i))) (zI_l (by omega)) d_Wr_readParts_103 ?_
                  refine G_ladd_z hX d_Wr_readParts_104 ?_
                  have h148 : f143 53 = ob 9 [.ref (eA E 54), .ref (eA E 55), .ref (eA E 56), .ref (eA E 57), .ref (eA E 58), v5, v6, .int (zI sf), .int (zI ss), .int (zI st), .int (zI sz), .int (zI ck), .long (zL v)] := (k147 53 (by decide)).trans h112
                  refine F_put hX fg_Wr_96 fp_Wr_12 d_Wr_readParts_105 53 (fs' := [.ref (eA E 54), .ref (eA E 55), .ref (eA E 56), .ref (eA E 57), .ref (eA E 58), v5, v6, .int (zI sf), .int (zI ss), .int (zI st), .int (zI sz), .int (zI ck), .long (zL ((256 * v) + (g ((numL g e 4 (numL g e 4 (numL g e 4 p 0).2 0).2 0).2 + i))))]) (by decide) h148 rfl rfl (Nat.le_of_ble_eq_true rfl) rfl (fun f149 h150 k151 => ?_)
                  refine G_iinc_z hX (lv' := [(5, .int (zI (i + 1))), (0, .ref (eA E 53)), (1, .int (zI ((numL g e 4 p 0).1))), (2, .int (zI ((numL g e 4 (numL g e 4 p 0).2 0).1))), (3, .int (zI ((numL g e 4 (numL g e 4 (numL g e 4 p 0).2 0).2 0).1))), (4, .int (zI (4 * ck)))]) 5 rfl (by decide) rfl d_Wr_readParts_108 ?_
                  refine G_goto hX (tgt := 80) d_Wr_readParts_111 rfl ?_
                  have h152 : f149 54 = ob 1 [.ref (eA E 7), .int (zI ((numL g e 4 (numL g e 4 (numL g e 4 p 0).2 0).2 0).2 + (i + 1))), .int (zI e)] := (k151 54 (by decide)).trans h9p
                  refine G_loc (lv' := [(0, .ref (eA E 53)), (1, .int (zI ((numL g e 4 p 0).1))), (2, .int (zI ((numL g e 4 (numL g e 4 p 0).2 0).1))), (3, .int (zI ((numL g e 4 (numL g e 4 (numL g e 4 p 0).2 0).2 0).1))), (4, .int (zI (4 * ck))), (5, .int (zI (i + 1)))]) [1, 2, 3, 4, 5, 0] rfl ?_
                  exact ih111 (i + 1) (256 * v + g ((numL g e 4 (numL g e 4 (numL g e 4 p 0).2 0).2 0).2 + i)) f149 (by omega) (by omega) (pw256 hi.1 hv hgp) (hs.trans (by rw [cvL_s (by omega), Int.add_assoc])) h150 h152 (Fr.tr (Fr.tr (Fr.tr Fr.rf k109 (by decide)) k147 (by decide)) k151 (by decide))
            have h153 : f104 54 = ob 1 [.ref (eA E 7), .int (zI ((numL g e 4 ((numL g e 4 ((numL g e 4 p 0).2) 0).2) 0).2)), .int (zI e)] := (k106 54 (by decide)).trans h18
            refine G_loc (lv' := [(0, .ref (eA E 53)), (1, .int (zI ((numL g e 4 p 0).1))), (2, .int (zI ((numL g e 4 ((numL g e 4 p 0).2) 0).1))), (3, .int (zI ((numL g e 4 ((numL g e 4 ((numL g e 4 p 0).2) 0).2) 0).1))), (4, .int (zI (4 * ck))), (5, .int (zI 0))]) [5, 4, 3, 2, 1, 0] rfl ?_
            exact loop107 (_ + 1) 0 0 f104 (Nat.lt_succ_self _) (by omega) ⟨Int.le_refl 0, by decide⟩ (by rw [Int.sub_zero, Int.add_zero]) h105 (by rw [Int.add_zero]; exact h153) Fr.rf
          · skip
            refine G_iconst hX d_Wr_readParts_70 ?_
            have h154 : f15 55 = ob 1 [u1, .int a1, .int b1] := (k19 55 (by decide)).trans ((k12 55 (by decide)).trans ((k5 55 (by decide)).trans hS1))
            have h155 : f15 56 = ob 1 [u2, .int a2, .int b2] := (k19 56 (by decide)).trans ((k12 56 (by decide)).trans ((k5 56 (by decide)).trans hS2))
            have h156 : f15 57 = ob 1 [u3, .int a3, .int b3] := (k19 57 (by decide)).trans ((k12 57 (by decide)).trans ((k5 57 (by decide)).trans hS3))
            exact F_zret hX hE (by decide) d_Wr_readParts_71 (Or.inr ⟨by omega, rfl, ⟨_, _, _, _, _, _, _, _, h34⟩, ⟨_, _, _, h18⟩, ⟨_, _, _, h154⟩, ⟨_, _, _, h155⟩, ⟨_, _, _, h156⟩, (Fr.tr (Fr.tr (Fr.tr Fr.rf k5 (by decide)) k12 (by decide)) k19 (by decide))⟩)
      · skip
        refine G_iconst hX d_Wr_readParts_36 ?_
        have h157 : f15 53 = ob 9 [.ref (eA E 54), .ref (eA E 55), .ref (eA E 56), .ref (eA E 57), .ref (eA E 58), v5, v6, .int (zI sf), .int (zI ss), .int (zI st), .int (zI sz), .int (zI ck), .long l] := (k19 53 (by decide)).trans h13
        have h158 : f15 55 = ob 1 [u1, .int a1, .int b1] := (k19 55 (by decide)).trans ((k12 55 (by decide)).trans ((k5 55 (by decide)).trans hS1))
        have h159 : f15 56 = ob 1 [u2, .int a2, .int b2] := (k19 56 (by decide)).trans ((k12 56 (by decide)).trans ((k5 56 (by decide)).trans hS2))
        have h160 : f15 57 = ob 1 [u3, .int a3, .int b3] := (k19 57 (by decide)).trans ((k12 57 (by decide)).trans ((k5 57 (by decide)).trans hS3))
        exact F_zret hX hE (by decide) d_Wr_readParts_37 (Or.inr ⟨by omega, rfl, ⟨_, _, _, _, _, _, _, _, h157⟩, ⟨_, _, _, h18⟩, ⟨_, _, _, h158⟩, ⟨_, _, _, h159⟩, ⟨_, _, _, h160⟩, (Fr.tr (Fr.tr (Fr.tr Fr.rf k5 (by decide)) k12 (by decide)) k19 (by decide))⟩)
theorem sR_b {g : Int → Int} {e p k : Int} (hB : isB g) (hp : p ≤ e) : p ≤ (sR g e p k).2.2 ∧ (sR g e p k).2.2 ≤ e := by
  have h1 := num_b (g := g) (e := e) (p := p) hB hp
  have h2 := num_b (g := g) (e := e) (p := (numL g e 4 p 0).2) hB h1.2.2.2
  unfold sR
  split
  · dsimp only; omega
  · dsimp only; omega
theorem zI_and4 : ∀ y : Fin 8, zI (y.val : Int) &&& zI 4 = zI (if y.val < 4 then 0 else 4) := by decide +kernel
theorem zI_and4z {x : Int} (h : x < 4) (h0 : 0 ≤ x) : zI x &&& zI 4 = zI 0 := by
  have h1 := zI_and4 ⟨x.toNat, by omega⟩
  rw [if_pos (show x.toNat < 4 by omega)] at h1
  have h3 : ((x.toNat : Nat) : Int) = x := by omega
  simpa [h3] using h1
theorem zI_and4n {x : Int} (h : 4 ≤ x ∧ x ≤ 7) : zI x &&& zI 4 = zI 4 := by
  have h1 := zI_and4 ⟨x.toNat, by omega⟩
  rw [if_neg (show ¬ x.toNat < 4 by omega)] at h1
  have h3 : ((x.toNat : Nat) : Int) = x := by omega
  simpa [h3] using h1
theorem nar01 {x : Int} (h : x = 0 ∨ x = 1) : narrow .boolean (.int (zI x)) = .int (zI x) := by
  rcases h with rfl | rfl <;> decide
theorem fit01 {x : Int} (h : x = 0 ∨ x = 1) : fits .boolean (.int (zI x)) = true := by
  rcases h with rfl | rfl <;> decide
theorem c_Wr_readHeadR (E : EV) (f : Nat → va_E) (g old m : Int → Int) (p e mc oc : Int)  (hW0 : wrS E f) (hg : f 7 = iz E 700 g) (hB : isB g) (hC : isC E f 51 7 p e) (hT0 : cuS E f 54) (hT1 : cuS E f 55) (hT2 : cuS E f 56) (hT3 : cuS E f 57) (hO : isR E f 2 3 300 old oc) (hM : isR E f 45 46 300 m mc) (hb : 0 ≤ p ∧ p ≤ e ∧ e ≤ 700 ∧ 0 ≤ oc ∧ oc ≤ 300 ∧ 0 ≤ mc ∧ mc ≤ 300) : CF yn_Wr_readHead cd_Wr_readHead 7 (some (.int)) 2 E [.ref (eA E 53), .ref (eA E 51), .ref (eA E 2), .ref (eA E 45)] f (fun r f' => (hdA g p e mc oc 300 = 0 ∧ r = some (.int (zI 0)) ∧ isC E f' 51 7 (wE g p e) e ∧ isWrR E f' (hdK g p e mc) ∧ isC E f' 55 7 (kB (hdK g p e mc)) (kD (hdK g p e mc)) ∧ isC E f' 56 7 (kD (hdK g p e mc)) (kC (hdK g p e mc)) ∧ isC E f' 57 7 (kC (hdK g p e mc)) (kA (hdK g p e mc)) ∧ cuS E f' 54 ∧ Fr [53, 54, 55, 56, 57, 51] f f') ∨ (¬ hdA g p e mc oc 300 = 0 ∧ r = some (.int (zI (hdA g p e mc oc 300))) ∧ (∃ p2, isC E f' 51 7 p2 e ∧ 0 ≤ p2 ∧ p2 ≤ e) ∧ wrS E f' ∧ cuS E f' 54 ∧ cuS E f' 55 ∧ cuS E f' 56 ∧ cuS E f' 57 ∧ Fr [53, 54, 55, 56, 57, 51] f f')) := by
  refine CF.of (by decide +kernel) (Nat.le_of_ble_eq_true rfl) fun X hX hE => ?_
  have hX : Ok E X "DeltaFerry$WindowReader" "readHead" cd_Wr_readHead 7 (some (.int)) (rl 2) := hX
  refine G_cast (lv' := [(0, .ref (eA E 53)), (1, .ref (eA E 51)), (2, .ref (eA E 2)), (3, .ref (eA E 45))]) ?_ rfl rfl rfl rfl
  obtain ⟨v5, v6, x1, x2, x3, x4, x5, l, hW⟩ := hW0
  obtain ⟨u0, a0, b0, hS0⟩ := hT0
  obtain ⟨u1, a1, b1, hS1⟩ := hT1
  obtain ⟨u2, a2, b2, hS2⟩ := hT2
  obtain ⟨u3, a3, b3, hS3⟩ := hT3
  have hxb := nxV_b hB p e
  have hxp : p ≤ nxP p e ∧ nxP p e ≤ e := by unfold nxP; split <;> omega
  refine G_aload_n hX 0 rfl rfl d_Wr_readHead_0 ?_
  refine G_aload_n hX 3 rfl rfl d_Wr_readHead_1 ?_
  refine F_put hX fg_Wr_39 fp_Wr_5 d_Wr_readHead_2 53 (fs' := [.ref (eA E 54), .ref (eA E 55), .ref (eA E 56), .ref (eA E 57), .ref (eA E 58), .ref (eA E 45), v6, .int x1, .int x2, .int x3, .int x4, .int x5, .long l]) (by decide) hW rfl rfl (Nat.le_of_ble_eq_true rfl) rfl (fun f1 h2 k3 => ?_)
  refine G_aload_n hX 0 rfl rfl d_Wr_readHead_5 ?_
  refine G_aload_n hX 3 rfl rfl d_Wr_readHead_6 ?_
  have h4 : f1 45 = ob 6 [.ref (eA E 46), .int (zI mc)] := (k3 45 (by decide)).trans hM.1
  refine F_get hX fg_Wr_46 d_Wr_readHead_7 45 (by decide) h4 rfl ?_
  refine F_put hX fg_Wr_50 fp_Wr_9 d_Wr_readHead_10 53 (fs' := [.ref (eA E 54), .ref (eA E 55), .ref (eA E 56), .ref (eA E 57), .ref (eA E 58), .ref (eA E 45), v6, .int x1, .int x2, .int (zI mc), .int x4, .int x5, .long l]) (by decide) h2 rfl rfl (Nat.le_of_ble_eq_true rfl) rfl (fun f5 h6 k7 => ?_)
  refine G_aload_n hX 1 rfl rfl d_Wr_readHead_13 ?_
  have h8 : f5 51 = ob 1 [.ref (eA E 7), .int (zI p), .int (zI e)] := (k7 51 (by decide)).trans ((k3 51 (by decide)).trans hC)
  have h9 : f5 7 = iz E 700 g := (k7 7 (by decide)).trans ((k3 7 (by decide)).trans hg)
  refine F_callV hX (st := []) (c_Cu_next E f5 51 7 700 g p e (by decide) (by decide) (by decide) h8 h9 (by omega)) cm_Cu_next im_Cu_next se_Cu_next rfl ml_Wr_53 d_Wr_readHead_14 (by decide) h8 rfl rfl (Nat.le_of_ble_eq_true rfl) (by decide) ?_
  rintro _ f10 ⟨rfl, h13, k14⟩
  refine G_cast (st' := [.int (zI (nxV g p e))]) ?_ rfl rfl rfl rfl
  refine G_top (show zI (nxV g p e) = zI (wk g p e) from rfl) ?_
  have hwk : -1 ≤ wk g p e ∧ wk g p e < 256 := hxb
  refine G_istore hX (lv' := [(4, .int (zI (wk g p e))), (0, .ref (eA E 53)), (1, .ref (eA E 51)), (2, .ref (eA E 2)), (3, .ref (eA E 45))]) (by decide) rfl d_Wr_readHead_17 ?_
  refine G_iload hX 0 rfl d_Wr_readHead_19 ?_
  refine G_if_lt_z hX (tgt := 52) d_Wr_readHead_21 rfl (by omega) (fun c15 => ?_) (fun c16 => ?_)
  · skip
    refine G_bipush hX (by decide) d_Wr_readHead_52 ?_
    first
      | (exfalso; omega)
      | (have e1 : hdA g p e mc oc 300 = -2 := by unfold hdA; rw [if_pos (by omega)]
         rw [e1] at hE
         have h17 : f10 53 = ob 9 [.ref (eA E 54), .ref (eA E 55), .ref (eA E 56), .ref (eA E 57), .ref (eA E 58), .ref (eA E 45), v6, .int x1, .int x2, .int (zI mc), .int x4, .int x5, .long l] := (k14 53 (by decide)).trans h6
         have h18 : f10 54 = ob 1 [u0, .int a0, .int b0] := (k14 54 (by decide)).trans ((k7 54 (by decide)).trans ((k3 54 (by decide)).trans hS0))
         have h19 : f10 55 = ob 1 [u1, .int a1, .int b1] := (k14 55 (by decide)).trans ((k7 55 (by decide)).trans ((k3 55 (by decide)).trans hS1))
         have h20 : f10 56 = ob 1 [u2, .int a2, .int b2] := (k14 56 (by decide)).trans ((k7 56 (by decide)).trans ((k3 56 (by decide)).trans hS2))
         have h21 : f10 57 = ob 1 [u3, .int a3, .int b3] := (k14 57 (by decide)).trans ((k7 57 (by decide)).trans ((k3 57 (by decide)).trans hS3))
         exact F_iret hX hE d_Wr_readHead_54 (Or.inr ⟨by decide, rfl, ⟨_, h13, by omega, by omega⟩, ⟨_, _, _, _, _, _, _, _, h17⟩, ⟨_, _, _, h18⟩, ⟨_, _, _, h19⟩, ⟨_, _, _, h20⟩, ⟨_, _, _, h21⟩, (Fr.tr (Fr.tr (Fr.tr Fr.rf k3 (by decide)) k7 (by decide)) k14 (by decide))⟩))
  · skip
    refine G_iload hX 0 rfl d_Wr_readHead_24 ?_
    refine G_bipush hX (by decide) d_Wr_readHead_26 ?_
    refine G_icmp_gt_z hX (tgt := 52) d_Wr_readHead_28 rfl (by omega) (fun c22 => ?_) (fun c23 => ?_)
    · skip
      refine G_bipush hX (by decide) d_Wr_readHead_52 ?_
      first
        | (exfalso; omega)
        | (have e1 : hdA g p e mc oc 300 = -2 := by unfold hdA; rw [if_pos (by omega)]
           rw [e1] at hE
           have h24 : f10 53 = ob 9 [.ref (eA E 54), .ref (eA E 55), .ref (eA E 56), .ref (eA E 57), .ref (eA E 58), .ref (eA E 45), v6, .int x1, .int x2, .int (zI mc), .int x4, .int x5, .long l] := (k14 53 (by decide)).trans h6
           have h25 : f10 54 = ob 1 [u0, .int a0, .int b0] := (k14 54 (by decide)).trans ((k7 54 (by decide)).trans ((k3 54 (by decide)).trans hS0))
           have h26 : f10 55 = ob 1 [u1, .int a1, .int b1] := (k14 55 (by decide)).trans ((k7 55 (by decide)).trans ((k3 55 (by decide)).trans hS1))
           have h27 : f10 56 = ob 1 [u2, .int a2, .int b2] := (k14 56 (by decide)).trans ((k7 56 (by decide)).trans ((k3 56 (by decide)).trans hS2))
           have h28 : f10 57 = ob 1 [u3, .int a3, .int b3] := (k14 57 (by decide)).trans ((k7 57 (by decide)).trans ((k3 57 (by decide)).trans hS3))
           exact F_iret hX hE d_Wr_readHead_54 (Or.inr ⟨by decide, rfl, ⟨_, h13, by omega, by omega⟩, ⟨_, _, _, _, _, _, _, _, h24⟩, ⟨_, _, _, h25⟩, ⟨_, _, _, h26⟩, ⟨_, _, _, h27⟩, ⟨_, _, _, h28⟩, (Fr.tr (Fr.tr (Fr.tr Fr.rf k3 (by decide)) k7 (by decide)) k14 (by decide))⟩))
    · skip
      refine G_iload hX 0 rfl d_Wr_readHead_31 ?_
      refine G_iconst hX d_Wr_readHead_33 ?_
      refine G_iand hX d_Wr_readHead_34 ?_
      refine G_top (show (zI (wk g p e) &&& zI 3) = zI (wk g p e % 4) from zI_and3 _) ?_
      refine G_iconst hX d_Wr_readHead_35 ?_
      refine G_icmp_eq_z hX (tgt := 52) d_Wr_readHead_36 rfl (by omega) (fun c29 => ?_) (fun c30 => ?_)
      · skip
        refine G_bipush hX (by decide) d_Wr_readHead_52 ?_
        first
          | (exfalso; omega)
          | (have e1 : hdA g p e mc oc 300 = -2 := by unfold hdA; rw [if_pos (by omega)]
             rw [e1] at hE
             have h31 : f10 53 = ob 9 [.ref (eA E 54), .ref (eA E 55), .ref (eA E 56), .ref (eA E 57), .ref (eA E 58), .ref (eA E 45), v6, .int x1, .int x2, .int (zI mc), .int x4, .int x5, .long l] := (k14 53 (by decide)).trans h6
             have h32 : f10 54 = ob 1 [u0, .int a0, .int b0] := (k14 54 (by decide)).trans ((k7 54 (by decide)).trans ((k3 54 (by decide)).trans hS0))
             have h33 : f10 55 = ob 1 [u1, .int a1, .int b1] := (k14 55 (by decide)).trans ((k7 55 (by decide)).trans ((k3 55 (by decide)).trans hS1))
             have h34 : f10 56 = ob 1 [u2, .int a2, .int b2] := (k14 56 (by decide)).trans ((k7 56 (by decide)).trans ((k3 56 (by decide)).trans hS2))
             have h35 : f10 57 = ob 1 [u3, .int a3, .int b3] := (k14 57 (by decide)).trans ((k7 57 (by decide)).trans ((k3 57 (by decide)).trans hS3))
             exact F_iret hX hE d_Wr_readHead_54 (Or.inr ⟨by decide, rfl, ⟨_, h13, by omega, by omega⟩, ⟨_, _, _, _, _, _, _, _, h31⟩, ⟨_, _, _, h32⟩, ⟨_, _, _, h33⟩, ⟨_, _, _, h34⟩, ⟨_, _, _, h35⟩, (Fr.tr (Fr.tr (Fr.tr Fr.rf k3 (by decide)) k7 (by decide)) k14 (by decide))⟩))
      · skip
        refine G_aload_n hX 1 rfl rfl d_Wr_readHead_39 ?_
        refine G_aload_n hX 2 rfl rfl d_Wr_readHead_40 ?_
        refine G_iload hX 0 rfl d_Wr_readHead_41 ?_
        refine G_iconst hX d_Wr_readHead_43 ?_
        refine G_iand hX d_Wr_readHead_44 ?_
        refine G_top (show (zI (wk g p e) &&& zI 3) = zI (wk g p e % 4) from zI_and3 _) ?_
        refine G_aload_n hX 3 rfl rfl d_Wr_readHead_45 ?_
        have h36 : f10 53 = ob 9 [.ref (eA E 54), .ref (eA E 55), .ref (eA E 56), .ref (eA E 57), .ref (eA E 58), .ref (eA E 45), v6, .int x1, .int x2, .int (zI mc), .int x4, .int x5, .long l] := (k14 53 (by decide)).trans h6
        have h37 : f10 7 = iz E 700 g := (k14 7 (by decide)).trans h9
        have h38 : f10 2 = ob 6 [.ref (eA E 3), .int (zI oc)] := (k14 2 (by decide)).trans ((k7 2 (by decide)).trans ((k3 2 (by decide)).trans hO.1))
        have h39 : f10 3 = iz E 300 old := (k14 3 (by decide)).trans ((k7 3 (by decide)).trans ((k3 3 (by decide)).trans hO.2))
        have h40 : f10 45 = ob 6 [.ref (eA E 46), .int (zI mc)] := (k14 45 (by decide)).trans ((k7 45 (by decide)).trans h4)
        have h41 : f10 46 = iz E 300 m := (k14 46 (by decide)).trans ((k7 46 (by decide)).trans ((k3 46 (by decide)).trans hM.2))
        refine F_callV hX (st := []) (c_Wr_readSourceR E f10 g old m (nxP p e) e (wk g p e % 4) mc oc mc v6 x1 x2 x4 x5 l h36 h37 hB h13 ⟨h38, h39⟩ ⟨h40, h41⟩ (by omega)) cm_Wr_readSource im_Wr_readSource se_Wr_readSource rfl ml_Wr_57 d_Wr_readHead_46 (by decide) h36 rfl rfl (Nat.le_of_ble_eq_true rfl) (by decide) ?_
        rintro _ f42 (⟨hok, rfl, h9a, h9b, k9⟩ | ⟨hok, rfl, h9a0, h9b0, k9⟩)
        · skip
          have h47 : f42 51 = ob 1 [.ref (eA E 7), .int (zI ((wS g p e).2.2)), .int (zI e)] := h9a
          have h48 : f42 53 = ob 9 [.ref (eA E 54), .ref (eA E 55), .ref (eA E 56), .ref (eA E 57), .ref (eA E 58), .ref (eA E 45), .ref (eA E (if wk g p e % 4 = 2 then 45 else 2)), .int (zI ((wS g p e).1)), .int (zI ((wS g p e).2.1)), .int (zI mc), .int x4, .int x5, .long l] := h9b
          unfold sOk at hok
          have hsb : nxP p e ≤ (wS g p e).2.2 ∧ (wS g p e).2.2 ≤ e := sR_b hB hxp.2
          have hyb : -1 ≤ (wY g p e).1 ∧ (wY g p e).1 < 268435456 ∧ (wS g p e).2.2 ≤ (wY g p e).2 ∧ (wY g p e).2 ≤ e := num_b hB hsb.2
          refine G_cast (st' := [.int (zI 1)]) ?_ rfl rfl rfl rfl
          refine G_if_ne_z hX (tgt := 55) d_Wr_readHead_49 rfl (by omega) (fun c49 => ?_) (fun c50 => by exfalso; omega)
          refine G_aload_n hX 1 rfl rfl d_Wr_readHead_55 ?_
          refine G_iload hX 0 rfl d_Wr_readHead_56 ?_
          refine G_iconst hX d_Wr_readHead_58 ?_
          refine G_iand hX d_Wr_readHead_59 ?_
          by_cases h4 : wk g p e < 4
          · skip
            refine G_top (show (zI (wk g p e) &&& zI 4) = zI 0 from by rw [show wk g p e = wk g p e from rfl]; exact zI_and4z h4 (by omega)) ?_
            refine G_if_eq_z hX (tgt := 67) d_Wr_readHead_60 rfl (by omega) (fun c51 => ?_) (fun c52 => by exfalso; omega)
            refine G_iconst hX d_Wr_readHead_67 ?_
            refine G_top (show zI 0 = zI (wc g p e) from by unfold wc; rw [show wk g p e / 4 = 0 by omega]) ?_
            refine F_put hX fg_Wr_61 fp_Wr_11 d_Wr_readHead_68 53 (fs' := [.ref (eA E 54), .ref (eA E 55), .ref (eA E 56), .ref (eA E 57), .ref (eA E 58), .ref (eA E 45), .ref (eA E (if wk g p e % 4 = 2 then 45 else 2)), .int (zI ((wS g p e).1)), .int (zI ((wS g p e).2.1)), .int (zI mc), .int x4, .int (zI (wc g p e)), .long l]) (by decide) h48 (nar01 (by unfold wc; omega)) (fit01 (by unfold wc; omega)) (Nat.le_of_ble_eq_true rfl) rfl (fun f53 h54 k55 => ?_)
            refine G_aload_n hX 2 rfl rfl d_Wr_readHead_71 ?_
            have h56 : f53 51 = ob 1 [.ref (eA E 7), .int (zI ((wS g p e).2.2)), .int (zI e)] := (k55 51 (by decide)).trans h47
            have h57 : f53 7 = iz E 700 g := (k55 7 (by decide)).trans ((k9 7 (by decide)).trans h37)
            refine F_callV hX (st := []) (c_Cu_number E f53 51 7 700 g ((wS g p e).2.2) e (by decide) (by decide) (by decide) h56 h57 (by omega) hB) cm_Cu_number im_Cu_number se_Cu_number rfl ml_Wr_65 d_Wr_readHead_72 (by decide) h56 rfl rfl (Nat.le_of_ble_eq_true rfl) (by decide) ?_
            rintro _ f58 ⟨rfl, h61, k62⟩
            refine G_cast (st' := [.int (zI ((numL g e 4 ((wS g p e).2.2) 0).1))]) ?_ rfl rfl rfl rfl
            have h63 : f58 51 = ob 1 [.ref (eA E 7), .int (zI ((wY g p e).2)), .int (zI e)] := h61
            have hwc : wc g p e = wk g p e / 4 := rfl
            refine G_top (show zI ((numL g e 4 ((wS g p e).2.2) 0).1) = zI ((wY g p e).1) from rfl) ?_
            refine G_istore hX (lv' := [(5, .int (zI ((wY g p e).1))), (4, .int (zI (wk g p e))), (0, .ref (eA E 53)), (1, .ref (eA E 51)), (2, .ref (eA E 2)), (3, .ref (eA E 45))]) (by decide) rfl d_Wr_readHead_75 ?_
            refine G_iload hX 0 rfl d_Wr_readHead_77 ?_
            refine G_if_lt_z hX (tgt := 91) d_Wr_readHead_79 rfl (by omega) (fun c64 => ?_) (fun c65 => ?_)
            · skip
              refine G_bipush hX (by decide) d_Wr_readHead_91 ?_
              first
                | (exfalso; omega)
                | (have e1 : hdA g p e mc oc 300 = -2 := by unfold hdA; rw [if_neg (by omega), if_neg (fun q => q hok), if_pos (by omega)]
                   rw [e1] at hE
                   have h66 : f58 53 = ob 9 [.ref (eA E 54), .ref (eA E 55), .ref (eA E 56), .ref (eA E 57), .ref (eA E 58), .ref (eA E 45), .ref (eA E (if wk g p e % 4 = 2 then 45 else 2)), .int (zI ((wS g p e).1)), .int (zI ((wS g p e).2.1)), .int (zI mc), .int x4, .int (zI (wc g p e)), .long l] := (k62 53 (by decide)).trans h54
                   have h67 : f58 54 = ob 1 [u0, .int a0, .int b0] := (k62 54 (by decide)).trans ((k55 54 (by decide)).trans ((k9 54 (by decide)).trans ((k14 54 (by decide)).trans ((k7 54 (by decide)).trans ((k3 54 (by decide)).trans hS0)))))
                   have h68 : f58 55 = ob 1 [u1, .int a1, .int b1] := (k62 55 (by decide)).trans ((k55 55 (by decide)).trans ((k9 55 (by decide)).trans ((k14 55 (by decide)).trans ((k7 55 (by decide)).trans ((k3 55 (by decide)).trans hS1)))))
                   have h69 : f58 56 = ob 1 [u2, .int a2, .int b2] := (k62 56 (by decide)).trans ((k55 56 (by decide)).trans ((k9 56 (by decide)).trans ((k14 56 (by decide)).trans ((k7 56 (by decide)).trans ((k3 56 (by decide)).trans hS2)))))
                   have h70 : f58 57 = ob 1 [u3, .int a3, .int b3] := (k62 57 (by decide)).trans ((k55 57 (by decide)).trans ((k9 57 (by decide)).trans ((k14 57 (by decide)).trans ((k7 57 (by decide)).trans ((k3 57 (by decide)).trans hS3)))))
                   exact F_iret hX hE d_Wr_readHead_93 (Or.inr ⟨by decide, rfl, ⟨_, h63, by omega, by omega⟩, ⟨_, _, _, _, _, _, _, _, h66⟩, ⟨_, _, _, h67⟩, ⟨_, _, _, h68⟩, ⟨_, _, _, h69⟩, ⟨_, _, _, h70⟩, (Fr.tr (Fr.tr (Fr.tr (Fr.tr (Fr.tr (Fr.tr Fr.rf k3 (by decide)) k7 (by decide)) k14 (by decide)) k9 (by decide)) k55 (by decide)) k62 (by decide))⟩))
            · skip
              refine G_iload hX 0 rfl d_Wr_readHead_82 ?_
              refine G_aload_n hX 3 rfl rfl d_Wr_readHead_84 ?_
              have h71 : f58 7 = iz E 700 g := (k62 7 (by decide)).trans h57
              refine F_callV hX (st := [.int (zI ((wY g p e).1))]) (c_Cu_left E f58 51 7 700 g ((wY g p e).2) e (by decide) (by decide) (by decide) h63 h71 (by omega)) cm_Cu_left im_Cu_left se_Cu_left rfl ml_Wr_68 d_Wr_readHead_85 (by decide) h63 rfl rfl (Nat.le_of_ble_eq_true rfl) (by decide) ?_
              rintro _ f72 ⟨rfl, e75⟩
              obtain rfl := e75.symm
              refine G_cast (st' := [.int (zI (e - ((wY g p e).2))), .int (zI ((wY g p e).1))]) ?_ rfl rfl rfl rfl
              refine G_icmp_le_z hX (tgt := 94) d_Wr_readHead_88 rfl (by omega) (fun c76 => ?_) (fun c77 => ?_)
              · skip
                refine G_aload_n hX 2 rfl rfl d_Wr_readHead_94 ?_
                have h78 : f58 53 = ob 9 [.ref (eA E 54), .ref (eA E 55), .ref (eA E 56), .ref (eA E 57), .ref (eA E 58), .ref (eA E 45), .ref (eA E (if wk g p e % 4 = 2 then 45 else 2)), .int (zI ((wS g p e).1)), .int (zI ((wS g p e).2.1)), .int (zI mc), .int x4, .int (zI (wc g p e)), .long l] := (k62 53 (by decide)).trans h54
                refine F_get hX fg_Wr_12 d_Wr_readHead_95 53 (by decide) h78 rfl ?_
                refine G_aload_n hX 3 rfl rfl d_Wr_readHead_98 ?_
                refine F_get hX fg_Wr_71 d_Wr_readHead_99 51 (by decide) h63 rfl ?_
                refine G_aload_n hX 3 rfl rfl d_Wr_readHead_102 ?_
                refine F_get hX fg_Wr_75 d_Wr_readHead_103 51 (by decide) h63 rfl ?_
                refine G_iload hX 0 rfl d_Wr_readHead_106 ?_
                have h79 : f58 54 = ob 1 [u0, .int a0, .int b0] := (k62 54 (by decide)).trans ((k55 54 (by decide)).trans ((k9 54 (by decide)).trans ((k14 54 (by decide)).trans ((k7 54 (by decide)).trans ((k3 54 (by decide)).trans hS0)))))
                refine F_callV hX (st := []) (c_Cu_open E f58 54 7 u0 a0 b0 ((wY g p e).2) ((wY g p e).1) (by decide) h79) cm_Cu_open im_Cu_open se_Cu_open rfl ml_Wr_78 d_Wr_readHead_108 (by decide) h79 rfl rfl (Nat.le_of_ble_eq_true rfl) (by decide) ?_
                rintro _ f80 ⟨rfl, h83, k84⟩
                refine G_cast (st' := []) ?_ rfl rfl rfl rfl
                have h85 : f80 54 = ob 1 [.ref (eA E 7), .int (zI ((wY g p e).2)), .int (zI (wE g p e))] := h83
                have hwE : wE g p e = (wY g p e).2 + (wY g p e).1 := rfl
                refine G_aload_n hX 3 rfl rfl d_Wr_readHead_111 ?_
                refine G_dup hX rfl d_Wr_readHead_112 ?_
                have h86 : f80 51 = ob 1 [.ref (eA E 7), .int (zI ((wY g p e).2)), .int (zI e)] := (k84 51 (by decide)).trans h63
                refine F_get hX fg_Wr_75 d_Wr_readHead_113 51 (by decide) h86 rfl ?_
                refine G_iload hX 0 rfl d_Wr_readHead_116 ?_
                refine G_iadd_z hX d_Wr_readHead_118 ?_
                refine F_put hX fg_Wr_75 fp_Cu_1 d_Wr_readHead_119 51 (fs' := [.ref (eA E 7), .int (zI (((wY g p e).2) + ((wY g p e).1))), .int (zI e)]) (by decide) h86 rfl rfl (Nat.le_of_ble_eq_true rfl) rfl (fun f87 h88 k89 => ?_)
                refine G_aload_n hX 2 rfl rfl d_Wr_readHead_122 ?_
                refine G_aload_n hX 2 rfl rfl d_Wr_readHead_123 ?_
                have h90 : f87 53 = ob 9 [.ref (eA E 54), .ref (eA E 55), .ref (eA E 56), .ref (eA E 57), .ref (eA E 58), .ref (eA E 45), .ref (eA E (if wk g p e % 4 = 2 then 45 else 2)), .int (zI ((wS g p e).1)), .int (zI ((wS g p e).2.1)), .int (zI mc), .int x4, .int (zI (wc g p e)), .long l] := (k89 53 (by decide)).trans ((k84 53 (by decide)).trans h78)
                refine F_get hX fg_Wr_12 d_Wr_readHead_124 53 (by decide) h90 rfl ?_
                have h91 : f87 54 = ob 1 [.ref (eA E 7), .int (zI ((wY g p e).2)), .int (zI (wE g p e))] := (k89 54 (by decide)).trans h85
                have h92 : f87 7 = iz E 700 g := (k89 7 (by decide)).trans ((k84 7 (by decide)).trans h71)
                refine F_callV hX (st := [.ref (eA E 53)]) (c_Cu_number E f87 54 7 700 g ((wY g p e).2) (wE g p e) (by decide) (by decide) (by decide) h91 h92 (by omega) hB) cm_Cu_number im_Cu_number se_Cu_number rfl ml_Wr_65 d_Wr_readHead_127 (by decide) h91 rfl rfl (Nat.le_of_ble_eq_true rfl) (by decide) ?_
                rintro _ f93 ⟨rfl, h96, k97⟩
                refine G_cast (st' := [.int (zI ((numL g (wE g p e) 4 ((wY g p e).2) 0).1)), .ref (eA E 53)]) ?_ rfl rfl rfl rfl
                have h98 : f93 51 = ob 1 [.ref (eA E 7), .int (zI (((wY g p e).2) + ((wY g p e).1))), .int (zI e)] := (k97 51 (by decide)).trans h88
                have h99 : f93 51 = ob 1 [.ref (eA E 7), .int (zI (wE g p e)), .int (zI e)] := h98
                have h100 : f93 54 = ob 1 [.ref (eA E 7), .int (zI ((wZ g p e).2)), .int (zI (wE g p e))] := h96
                refine G_top (show zI ((numL g (wE g p e) 4 ((wY g p e).2) 0).1) = zI ((wZ g p e).1) from rfl) ?_
                have hzb : -1 ≤ (wZ g p e).1 ∧ (wZ g p e).1 < 268435456 ∧ (wY g p e).2 ≤ (wZ g p e).2 ∧ (wZ g p e).2 ≤ wE g p e := num_b hB (by omega)
                have h101 : f93 53 = ob 9 [.ref (eA E 54), .ref (eA E 55), .ref (eA E 56), .ref (eA E 57), .ref (eA E 58), .ref (eA E 45), .ref (eA E (if wk g p e % 4 = 2 then 45 else 2)), .int (zI ((wS g p e).1)), .int (zI ((wS g p e).2.1)), .int (zI mc), .int x4, .int (zI (wc g p e)), .long l] := (k97 53 (by decide)).trans h90
                refine F_put hX fg_Wr_82 fp_Wr_10 d_Wr_readHead_130 53 (fs' := [.ref (eA E 54), .ref (eA E 55), .ref (eA E 56), .ref (eA E 57), .ref (eA E 58), .ref (eA E 45), .ref (eA E (if wk g p e % 4 = 2 then 45 else 2)), .int (zI ((wS g p e).1)), .int (zI ((wS g p e).2.1)), .int (zI mc), .int (zI ((wZ g p e).1)), .int (zI (wc g p e)), .long l]) (by decide) h101 rfl rfl (Nat.le_of_ble_eq_true rfl) rfl (fun f102 h103 k104 => ?_)
                refine G_aload_n hX 2 rfl rfl d_Wr_readHead_133 ?_
                refine F_get hX fg_Wr_82 d_Wr_readHead_134 53 (by decide) h103 rfl ?_
                refine G_if_ge_z hX (tgt := 143) d_Wr_readHead_137 rfl (by omega) (fun c105 => ?_) (fun c106 => ?_)
                · skip
                  refine G_aload_n hX 2 rfl rfl d_Wr_readHead_143 ?_
                  refine F_get hX fg_Wr_82 d_Wr_readHead_144 53 (by decide) h103 rfl ?_
                  refine G_aload_n hX 5 rfl rfl d_Wr_readHead_147 ?_
                  have h107 : f102 45 = ob 6 [.ref (eA E 46), .int (zI mc)] := (k104 45 (by decide)).trans ((k97 45 (by decide)).trans ((k89 45 (by decide)).trans ((k84 45 (by decide)).trans ((k62 45 (by decide)).trans ((k55 45 (by decide)).trans ((k9 45 (by decide)).trans h40))))))
                  have h108 : f102 46 = iz E 300 m := (k104 46 (by decide)).trans ((k97 46 (by decide)).trans ((k89 46 (by decide)).trans ((k84 46 (by decide)).trans ((k62 46 (by decide)).trans ((k55 46 (by decide)).trans ((k9 46 (by decide)).trans h41))))))
                  refine F_callV hX (st := [.int (zI ((wZ g p e).1))]) (c_Ro_left E f102 45 46 300 m mc (by decide) (by decide) (by decide) ⟨h107, h108⟩ (by omega)) cm_Ro_left im_Ro_left se_Ro_left rfl ml_Wr_85 d_Wr_readHead_148 (by decide) h107 rfl rfl (Nat.le_of_ble_eq_true rfl) (by decide) ?_
                  rintro _ f109 ⟨rfl, e112⟩
                  obtain rfl := e112.symm
                  refine G_cast (st' := [.int (zI (((300 : Nat) : Int) - mc)), .int (zI ((wZ g p e).1))]) ?_ rfl rfl rfl rfl
                  refine G_icmp_le_z hX (tgt := 157) d_Wr_readHead_151 rfl (by omega) (fun c113 => ?_) (fun c114 => ?_)
                  · skip
                    refine G_aload_n hX 2 rfl rfl d_Wr_readHead_157 ?_
                    refine F_get hX fg_Wr_12 d_Wr_readHead_158 53 (by decide) h103 rfl ?_
                    have h115 : f102 54 = ob 1 [.ref (eA E 7), .int (zI ((wZ g p e).2)), .int (zI (wE g p e))] := (k104 54 (by decide)).trans h100
                    have h116 : f102 7 = iz E 700 g := (k104 7 (by decide)).trans ((k97 7 (by decide)).trans h92)
                    refine F_callV hX (st := []) (c_Cu_next E f102 54 7 700 g ((wZ g p e).2) (wE g p e) (by decide) (by decide) (by decide) h115 h116 (by omega)) cm_Cu_next im_Cu_next se_Cu_next rfl ml_Wr_53 d_Wr_readHead_161 (by decide) h115 rfl rfl (Nat.le_of_ble_eq_true rfl) (by decide) ?_
                    rintro _ f117 ⟨rfl, h120, k121⟩
                    refine G_cast (st' := [.int (zI (nxV g ((wZ g p e).2) (wE g p e)))]) ?_ rfl rfl rfl rfl
                    have h122 : f117 54 = ob 1 [.ref (eA E 7), .int (zI (nxP (wZ g p e).2 (wE g p e))), .int (zI (wE g p e))] := h120
                    refine G_top (show zI (nxV g ((wZ g p e).2) (wE g p e)) = zI (wQ g p e) from rfl) ?_
                    have hqb : -1 ≤ wQ g p e ∧ wQ g p e < 256 := nxV_b hB _ _
                    have hqp : (wZ g p e).2 ≤ nxP (wZ g p e).2 (wE g p e) ∧ nxP (wZ g p e).2 (wE g p e) ≤ wE g p e := by unfold nxP; split <;> omega
                    refine G_istore hX (lv' := [(6, .int (zI (wQ g p e))), (5, .int (zI ((wY g p e).1))), (4, .int (zI (wk g p e))), (0, .ref (eA E 53)), (1, .ref (eA E 51)), (2, .ref (eA E 2)), (3, .ref (eA E 45))]) (by decide) rfl d_Wr_readHead_164 ?_
                    refine G_iload hX 0 rfl d_Wr_readHead_166 ?_
                    refine G_if_le_z hX (tgt := 182) d_Wr_readHead_168 rfl (by omega) (fun c123 => ?_) (fun c124 => ?_)
                    · skip
                      refine G_iload hX 0 rfl d_Wr_readHead_182 ?_
                      refine G_if_ne_z hX (tgt := 198) d_Wr_readHead_184 rfl (by omega) (fun c125 => ?_) (fun c126 => ?_)
                      · skip
                        refine G_bipush hX (by decide) d_Wr_readHead_198 ?_
                        first
                          | (exfalso; omega)
                          | (have e1 : hdA g p e mc oc 300 = -2 := by unfold hdA; rw [if_neg (by omega), if_neg (fun q => q hok), if_neg (by omega), if_neg (by omega), if_neg (by omega), if_neg (by omega), if_pos (by omega)]
                             rw [e1] at hE
                             have h127 : f117 53 = ob 9 [.ref (eA E 54), .ref (eA E 55), .ref (eA E 56), .ref (eA E 57), .ref (eA E 58), .ref (eA E 45), .ref (eA E (if wk g p e % 4 = 2 then 45 else 2)), .int (zI ((wS g p e).1)), .int (zI ((wS g p e).2.1)), .int (zI mc), .int (zI ((wZ g p e).1)), .int (zI (wc g p e)), .long l] := (k121 53 (by decide)).trans h103
                             have h128 : f117 55 = ob 1 [u1, .int a1, .int b1] := (k121 55 (by decide)).trans ((k104 55 (by decide)).trans ((k97 55 (by decide)).trans ((k89 55 (by decide)).trans ((k84 55 (by decide)).trans ((k62 55 (by decide)).trans ((k55 55 (by decide)).trans ((k9 55 (by decide)).trans ((k14 55 (by decide)).trans ((k7 55 (by decide)).trans ((k3 55 (by decide)).trans hS1))))))))))
                             have h129 : f117 56 = ob 1 [u2, .int a2, .int b2] := (k121 56 (by decide)).trans ((k104 56 (by decide)).trans ((k97 56 (by decide)).trans ((k89 56 (by decide)).trans ((k84 56 (by decide)).trans ((k62 56 (by decide)).trans ((k55 56 (by decide)).trans ((k9 56 (by decide)).trans ((k14 56 (by decide)).trans ((k7 56 (by decide)).trans ((k3 56 (by decide)).trans hS2))))))))))
                             have h130 : f117 57 = ob 1 [u3, .int a3, .int b3] := (k121 57 (by decide)).trans ((k104 57 (by decide)).trans ((k97 57 (by decide)).trans ((k89 57 (by decide)).trans ((k84 57 (by decide)).trans ((k62 57 (by decide)).trans ((k55 57 (by decide)).trans ((k9 57 (by decide)).trans ((k14 57 (by decide)).trans ((k7 57 (by decide)).trans ((k3 57 (by decide)).trans hS3))))))))))
                             have h131 : f117 51 = ob 1 [.ref (eA E 7), .int (zI (wE g p e)), .int (zI e)] := (k121 51 (by decide)).trans ((k104 51 (by decide)).trans h99)
                             exact F_iret hX hE d_Wr_readHead_200 (Or.inr ⟨by decide, rfl, ⟨_, h131, by omega, by omega⟩, ⟨_, _, _, _, _, _, _, _, h127⟩, ⟨_, _, _, h122⟩, ⟨_, _, _, h128⟩, ⟨_, _, _, h129⟩, ⟨_, _, _, h130⟩, (Fr.tr (Fr.tr (Fr.tr (Fr.tr (Fr.tr (Fr.tr (Fr.tr (Fr.tr (Fr.tr (Fr.tr (Fr.tr Fr.rf k3 (by decide)) k7 (by decide)) k14 (by decide)) k9 (by decide)) k55 (by decide)) k62 (by decide)) k84 (by decide)) k89 (by decide)) k97 (by decide)) k104 (by decide)) k121 (by decide))⟩))
                      · skip
                        refine G_aload_n hX 3 rfl rfl d_Wr_readHead_187 ?_
                        have h132 : f117 53 = ob 9 [.ref (eA E 54), .ref (eA E 55), .ref (eA E 56), .ref (eA E 57), .ref (eA E 58), .ref (eA E 45), .ref (eA E (if wk g p e % 4 = 2 then 45 else 2)), .int (zI ((wS g p e).1)), .int (zI ((wS g p e).2.1)), .int (zI mc), .int (zI ((wZ g p e).1)), .int (zI (wc g p e)), .long l] := (k121 53 (by decide)).trans h103
                        have h133 : f117 7 = iz E 700 g := (k121 7 (by decide)).trans h116
                        have h134 : f117 55 = ob 1 [u1, .int a1, .int b1] := (k121 55 (by decide)).trans ((k104 55 (by decide)).trans ((k97 55 (by decide)).trans ((k89 55 (by decide)).trans ((k84 55 (by decide)).trans ((k62 55 (by decide)).trans ((k55 55 (by decide)).trans ((k9 55 (by decide)).trans ((k14 55 (by decide)).trans ((k7 55 (by decide)).trans ((k3 55 (by decide)).trans hS1))))))))))
                        have h135 : f117 56 = ob 1 [u2, .int a2, .int b2] := (k121 56 (by decide)).trans ((k104 56 (by decide)).trans ((k97 56 (by decide)).trans ((k89 56 (by decide)).trans ((k84 56 (by decide)).trans ((k62 56 (by decide)).trans ((k55 56 (by decide)).trans ((k9 56 (by decide)).trans ((k14 56 (by decide)).trans ((k7 56 (by decide)).trans ((k3 56 (by decide)).trans hS2))))))))))
                        have h136 : f117 57 = ob 1 [u3, .int a3, .int b3] := (k121 57 (by decide)).trans ((k104 57 (by decide)).trans ((k97 57 (by decide)).trans ((k89 57 (by decide)).trans ((k84 57 (by decide)).trans ((k62 57 (by decide)).trans ((k55 57 (by decide)).trans ((k9 57 (by decide)).trans ((k14 57 (by decide)).trans ((k7 57 (by decide)).trans ((k3 57 (by decide)).trans hS3))))))))))
                        refine F_callV hX (st := []) (c_Wr_readParts E f117 g (nxP (wZ g p e).2 (wE g p e)) (wE g p e) ((wS g p e).1) ((wS g p e).2.1) mc ((wZ g p e).1) (wc g p e) (.ref (eA E 45)) (.ref (eA E (if wk g p e % 4 = 2 then 45 else 2))) u1 u2 u3 a1 b1 a2 b2 a3 b3 l h132 h133 hB h122 h134 h135 h136 (by omega)) cm_Wr_readParts im_Wr_readParts se_Wr_readParts rfl ml_Wr_86 d_Wr_readHead_188 (by decide) h132 rfl rfl (Nat.le_of_ble_eq_true rfl) (by decide) ?_
                        rintro _ f137 (⟨h9, rfl, h8a, h8b, h8c, h8d, h8e, k8⟩ | ⟨h9, rfl, h9s, h9t, h9u, h9v, h9w, k8⟩)
                        · skip
                          have hok2 : 0 ≤ (w1 g p e).1 ∧ 0 ≤ (w2 g p e).1 ∧ 0 ≤ (w3 g p e).1 ∧ (w1 g p e).1 + (w2 g p e).1 + (w3 g p e).1 + 4 * wc g p e = wE g p e - (w3 g p e).2 := h9
                          refine G_cast (st' := [.int (zI 1)]) ?_ rfl rfl rfl rfl
                          refine G_if_eq_z hX (tgt := 198) d_Wr_readHead_191 rfl (by omega) (fun c142 => by exfalso; omega) (fun c143 => ?_)
                          refine G_iconst hX d_Wr_readHead_194 ?_
                          refine G_goto hX (tgt := 200) d_Wr_readHead_195 rfl ?_
                          first
                            | (exfalso; omega)
                            | (have e1 : hdA g p e mc oc 300 = 0 := by unfold hdA; rw [if_neg (by omega), if_neg (fun q => q hok), if_neg (by omega), if_neg (by omega), if_neg (by omega), if_neg (by omega), if_neg (by omega), if_neg (by omega), if_neg (by omega)]
                               have h144 : f137 51 = ob 1 [.ref (eA E 7), .int (zI (wE g p e)), .int (zI e)] := (k8 51 (by decide)).trans ((k121 51 (by decide)).trans ((k104 51 (by decide)).trans h99))
                               exact F_iret hX hE d_Wr_readHead_200 (Or.inl ⟨e1, rfl, h144, h8d, h8a, h8b, h8c, h8e, (Fr.tr (Fr.tr (Fr.tr (Fr.tr (Fr.tr (Fr.tr (Fr.tr (Fr.tr (Fr.tr (Fr.tr (Fr.tr (Fr.tr Fr.rf k3 (by decide)) k7 (by decide)) k14 (by decide)) k9 (by decide)) k55 (by decide)) k62 (by decide)) k84 (by decide)) k89 (by decide)) k97 (by decide)) k104 (by decide)) k121 (by decide)) k8 (by decide))⟩))
                        · skip
                          have hok2 : ¬ (0 ≤ (w1 g p e).1 ∧ 0 ≤ (w2 g p e).1 ∧ 0 ≤ (w3 g p e).1 ∧ (w1 g p e).1 + (w2 g p e).1 + (w3 g p e).1 + 4 * wc g p e = wE g p e - (w3 g p e).2) := h9
                          refine G_cast (st' := [.int (zI 0)]) ?_ rfl rfl rfl rfl
                          refine G_if_eq_z hX (tgt := 198) d_Wr_readHead_191 rfl (by omega) (fun c145 => ?_) (fun c146 => by exfalso; omega)
                          refine G_bipush hX (by decide) d_Wr_readHead_198 ?_
                          first
                            | (exfalso; omega)
                            | (have e1 : hdA g p e mc oc 300 = -2 := by unfold hdA; rw [if_neg (by omega), if_neg (fun q => q hok), if_neg (by omega), if_neg (by omega), if_neg (by omega), if_neg (by omega), if_neg (by omega)]; split; rfl; rw [if_pos (by omega)]
                               rw [e1] at hE
                               have h147 : f137 51 = ob 1 [.ref (eA E 7), .int (zI (wE g p e)), .int (zI e)] := (k8 51 (by decide)).trans ((k121 51 (by decide)).trans ((k104 51 (by decide)).trans h99))
                               exact F_iret hX hE d_Wr_readHead_200 (Or.inr ⟨by decide, rfl, ⟨_, h147, by omega, by omega⟩, h9s, h9t, h9u, h9v, h9w, (Fr.tr (Fr.tr (Fr.tr (Fr.tr (Fr.tr (Fr.tr (Fr.tr (Fr.tr (Fr.tr (Fr.tr (Fr.tr (Fr.tr Fr.rf k3 (by decide)) k7 (by decide)) k14 (by decide)) k9 (by decide)) k55 (by decide)) k62 (by decide)) k84 (by decide)) k89 (by decide)) k97 (by decide)) k104 (by decide)) k121 (by decide)) k8 (by decide))⟩))
                    · skip
                      refine G_iload hX 0 rfl d_Wr_readHead_171 ?_
                      refine G_bipush hX (by decide) d_Wr_readHead_173 ?_
                      refine G_iand hX d_Wr_readHead_175 ?_
                      refine G_top (show (zI (wQ g p e) &&& zI 7) = zI (wQ g p e % 8) from zI_and7 _) ?_
                      refine G_if_eq_z hX (tgt := 182) d_Wr_readHead_176 rfl (by omega) (fun c148 => ?_) (fun c149 => ?_)
                      · skip
                        refine G_iload hX 0 rfl d_Wr_readHead_182 ?_
                        refine G_if_ne_z hX (tgt := 198) d_Wr_readHead_184 rfl (by omega) (fun c150 => ?_) (fun c151 => ?_)
                        · skip
                          refine G_bipush hX (by decide) d_Wr_readHead_198 ?_
                          first
                            | (exfalso; omega)
                            | (have e1 : hdA g p e mc oc 300 = -2 := by unfold hdA; rw [if_neg (by omega), if_neg (fun q => q hok), if_neg (by omega), if_neg (by omega), if_neg (by omega), if_neg (by omega), if_pos (by omega)]
                               rw [e1] at hE
                               have h152 : f117 53 = ob 9 [.ref (eA E 54), .ref (eA E 55), .ref (eA E 56), .ref (eA E 57), .ref (eA E 58), .ref (eA E 45), .ref (eA E (if wk g p e % 4 = 2 then 45 else 2)), .int (zI ((wS g p e).1)), .int (zI ((wS g p e).2.1)), .int (zI mc), .int (zI ((wZ g p e).1)), .int (zI (wc g p e)), .long l] := (k121 53 (by decide)).trans h103
                               have h153 : f117 55 = ob 1 [u1, .int a1, .int b1] := (k121 55 (by decide)).trans ((k104 55 (by decide)).trans ((k97 55 (by decide)).trans ((k89 55 (by decide)).trans ((k84 55 (by decide)).trans ((k62 55 (by decide)).trans ((k55 55 (by decide)).trans ((k9 55 (by decide)).trans ((k14 55 (by decide)).trans ((k7 55 (by decide)).trans ((k3 55 (by decide)).trans hS1))))))))))
                               have h154 : f117 56 = ob 1 [u2, .int a2, .int b2] := (k121 56 (by decide)).trans ((k104 56 (by decide)).trans ((k97 56 (by decide)).trans ((k89 56 (by decide)).trans ((k84 56 (by decide)).trans ((k62 56 (by decide)).trans ((k55 56 (by decide)).trans ((k9 56 (by decide)).trans ((k14 56 (by decide)).trans ((k7 56 (by decide)).trans ((k3 56 (by decide)).trans hS2))))))))))
                               have h155 : f117 57 = ob 1 [u3, .int a3, .int b3] := (k121 57 (by decide)).trans ((k104 57 (by decide)).trans ((k97 57 (by decide)).trans ((k89 57 (by decide)).trans ((k84 57 (by decide)).trans ((k62 57 (by decide)).trans ((k55 57 (by decide)).trans ((k9 57 (by decide)).trans ((k14 57 (by decide)).trans ((k7 57 (by decide)).trans ((k3 57 (by decide)).trans hS3))))))))))
                               have h156 : f117 51 = ob 1 [.ref (eA E 7), .int (zI (wE g p e)), .int (zI e)] := (k121 51 (by decide)).trans ((k104 51 (by decide)).trans h99)
                               exact F_iret hX hE d_Wr_readHead_200 (Or.inr ⟨by decide, rfl, ⟨_, h156, by omega, by omega⟩, ⟨_, _, _, _, _, _, _, _, h152⟩, ⟨_, _, _, h122⟩, ⟨_, _, _, h153⟩, ⟨_, _, _, h154⟩, ⟨_, _, _, h155⟩, (Fr.tr (Fr.tr (Fr.tr (Fr.tr (Fr.tr (Fr.tr (Fr.tr (Fr.tr (Fr.tr (Fr.tr (Fr.tr Fr.rf k3 (by decide)) k7 (by decide)) k14 (by decide)) k9 (by decide)) k55 (by decide)) k62 (by decide)) k84 (by decide)) k89 (by decide)) k97 (by decide)) k104 (by decide)) k121 (by decide))⟩))
                        · skip
                          refine G_aload_n hX 3 rfl rfl d_Wr_readHead_187 ?_
                          have h157 : f117 53 = ob 9 [.ref (eA E 54), .ref (eA E 55), .ref (eA E 56), .ref (eA E 57), .ref (eA E 58), .ref (eA E 45), .ref (eA E (if wk g p e % 4 = 2 then 45 else 2)), .int (zI ((wS g p e).1)), .int (zI ((wS g p e).2.1)), .int (zI mc), .int (zI ((wZ g p e).1)), .int (zI (wc g p e)), .long l] := (k121 53 (by decide)).trans h103
                          have h158 : f117 7 = iz E 700 g := (k121 7 (by decide)).trans h116
                          have h159 : f117 55 = ob 1 [u1, .int a1, .int b1] := (k121 55 (by decide)).trans ((k104 55 (by decide)).trans ((k97 55 (by decide)).trans ((k89 55 (by decide)).trans ((k84 55 (by decide)).trans ((k62 55 (by decide)).trans ((k55 55 (by decide)).trans ((k9 55 (by decide)).trans ((k14 55 (by decide)).trans ((k7 55 (by decide)).trans ((k3 55 (by decide)).trans hS1))))))))))
                          have h160 : f117 56 = ob 1 [u2, .int a2, .int b2] := (k121 56 (by decide)).trans ((k104 56 (by decide)).trans ((k97 56 (by decide)).trans ((k89 56 (by decide)).trans ((k84 56 (by decide)).trans ((k62 56 (by decide)).trans ((k55 56 (by decide)).trans ((k9 56 (by decide)).trans ((k14 56 (by decide)).trans ((k7 56 (by decide)).trans ((k3 56 (by decide)).trans hS2))))))))))
                          have h161 : f117 57 = ob 1 [u3, .int a3, .int b3] := (k121 57 (by decide)).trans ((k104 57 (by decide)).trans ((k97 57 (by decide)).trans ((k89 57 (by decide)).trans ((k84 57 (by decide)).trans ((k62 57 (by decide)).trans ((k55 57 (by decide)).trans ((k9 57 (by decide)).trans ((k14 57 (by decide)).trans ((k7 57 (by decide)).trans ((k3 57 (by decide)).trans hS3))))))))))
                          refine F_callV hX (st := []) (c_Wr_readParts E f117 g (nxP (wZ g p e).2 (wE g p e)) (wE g p e) ((wS g p e).1) ((wS g p e).2.1) mc ((wZ g p e).1) (wc g p e) (.ref (eA E 45)) (.ref (eA E (if wk g p e % 4 = 2 then 45 else 2))) u1 u2 u3 a1 b1 a2 b2 a3 b3 l h157 h158 hB h122 h159 h160 h161 (by omega)) cm_Wr_readParts im_Wr_readParts se_Wr_readParts rfl ml_Wr_86 d_Wr_readHead_188 (by decide) h157 rfl rfl (Nat.le_of_ble_eq_true rfl) (by decide) ?_
                          rintro _ f162 (⟨h9, rfl, h8a, h8b, h8c, h8d, h8e, k8⟩ | ⟨h9, rfl, h9s, h9t, h9u, h9v, h9w, k8⟩)
                          · skip
                            have hok2 : 0 ≤ (w1 g p e).1 ∧ 0 ≤ (w2 g p e).1 ∧ 0 ≤ (w3 g p e).1 ∧ (w1 g p e).1 + (w2 g p e).1 + (w3 g p e).1 + 4 * wc g p e = wE g p e - (w3 g p e).2 := h9
                            refine G_cast (st' := [.int (zI 1)]) ?_ rfl rfl rfl rfl
                            refine G_if_eq_z hX (tgt := 198) d_Wr_readHead_191 rfl (by omega) (fun c167 => by exfalso; omega) (fun c168 => ?_)
                            refine G_iconst hX d_Wr_readHead_194 ?_
                            refine G_goto hX (tgt := 200) d_Wr_readHead_195 rfl ?_
                            first
                              | (exfalso; omega)
                              | (have e1 : hdA g p e mc oc 300 = 0 := by unfold hdA; rw [if_neg (by omega), if_neg (fun q => q hok), if_neg (by omega), if_neg (by omega), if_neg (by omega), if_neg (by omega), if_neg (by omega), if_neg (by omega), if_neg (by omega)]
                                 have h169 : f162 51 = ob 1 [.ref (eA E 7), .int (zI (wE g p e)), .int (zI e)] := (k8 51 (by decide)).trans ((k121 51 (by decide)).trans ((k104 51 (by decide)).trans h99))
                                 exact F_iret hX hE d_Wr_readHead_200 (Or.inl ⟨e1, rfl, h169, h8d, h8a, h8b, h8c, h8e, (Fr.tr (Fr.tr (Fr.tr (Fr.tr (Fr.tr (Fr.tr (Fr.tr (Fr.tr (Fr.tr (Fr.tr (Fr.tr (Fr.tr Fr.rf k3 (by decide)) k7 (by decide)) k14 (by decide)) k9 (by decide)) k55 (by decide)) k62 (by decide)) k84 (by decide)) k89 (by decide)) k97 (by decide)) k104 (by decide)) k121 (by decide)) k8 (by decide))⟩))
                          · skip
                            have hok2 : ¬ (0 ≤ (w1 g p e).1 ∧ 0 ≤ (w2 g p e).1 ∧ 0 ≤ (w3 g p e).1 ∧ (w1 g p e).1 + (w2 g p e).1 + (w3 g p e).1 + 4 * wc g p e = wE g p e - (w3 g p e).2) := h9
                            refine G_cast (st' := [.int (zI 0)]) ?_ rfl rfl rfl rfl
                            refine G_if_eq_z hX (tgt := 198) d_Wr_readHead_191 rfl (by omega) (fun c170 => ?_) (fun c171 => by exfalso; omega)
                            refine G_bipush hX (by decide) d_Wr_readHead_198 ?_
                            first
                              | (exfalso; omega)
                              | (have e1 : hdA g p e mc oc 300 = -2 := by unfold hdA; rw [if_neg (by omega), if_neg (fun q => q hok), if_neg (by omega), if_neg (by omega), if_neg (by omega), if_neg (by omega), if_neg (by omega)]; split; rfl; rw [if_pos (by omega)]
                                 rw [e1] at hE
                                 have h172 : f162 51 = ob 1 [.ref (eA E 7), .int (zI (wE g p e)), .int (zI e)] := (k8 51 (by decide)).trans ((k121 51 (by decide)).trans ((k104 51 (by decide)).trans h99))
                                 exact F_iret hX hE d_Wr_readHead_200 (Or.inr ⟨by decide, rfl, ⟨_, h172, by omega, by omega⟩, h9s, h9t, h9u, h9v, h9w, (Fr.tr (Fr.tr (Fr.tr (Fr.tr (Fr.tr (Fr.tr (Fr.tr (Fr.tr (Fr.tr (Fr.tr (Fr.tr (Fr.tr Fr.rf k3 (by decide)) k7 (by decide)) k14 (by decide)) k9 (by decide)) k55 (by decide)) k62 (by decide)) k84 (by decide)) k89 (by decide)) k97 (by decide)) k104 (by decide)) k121 (by decide)) k8 (by decide))⟩))
                      · skip
                        refine G_bipush hX (by decide) d_Wr_readHead_179 ?_
                        first
                          | (exfalso; omega)
                          | (have e1 : hdA g p e mc oc 300 = -3 := by unfold hdA; rw [if_neg (by omega), if_neg (fun q => q hok), if_neg (by omega), if_neg (by omega), if_neg (by omega), if_pos (by omega)]
                             rw [e1] at hE
                             have h173 : f117 53 = ob 9 [.ref (eA E 54), .ref (eA E 55), .ref (eA E 56), .ref (eA E 57), .ref (eA E 58), .ref (eA E 45), .ref (eA E (if wk g p e % 4 = 2 then 45 else 2)), .int (zI ((wS g p e).1)), .int (zI ((wS g p e).2.1)), .int (zI mc), .int (zI ((wZ g p e).1)), .int (zI (wc g p e)), .long l] := (k121 53 (by decide)).trans h103
                             have h174 : f117 55 = ob 1 [u1, .int a1, .int b1] := (k121 55 (by decide)).trans ((k104 55 (by decide)).trans ((k97 55 (by decide)).trans ((k89 55 (by decide)).trans ((k84 55 (by decide)).trans ((k62 55 (by decide)).trans ((k55 55 (by decide)).trans ((k9 55 (by decide)).trans ((k14 55 (by decide)).trans ((k7 55 (by decide)).trans ((k3 55 (by decide)).trans hS1))))))))))
                             have h175 : f117 56 = ob 1 [u2, .int a2, .int b2] := (k121 56 (by decide)).trans ((k104 56 (by decide)).trans ((k97 56 (by decide)).trans ((k89 56 (by decide)).trans ((k84 56 (by decide)).trans ((k62 56 (by decide)).trans ((k55 56 (by decide)).trans ((k9 56 (by decide)).trans ((k14 56 (by decide)).trans ((k7 56 (by decide)).trans ((k3 56 (by decide)).trans hS2))))))))))
                             have h176 : f117 57 = ob 1 [u3, .int a3, .int b3] := (k121 57 (by decide)).trans ((k104 57 (by decide)).trans ((k97 57 (by decide)).trans ((k89 57 (by decide)).trans ((k84 57 (by decide)).trans ((k62 57 (by decide)).trans ((k55 57 (by decide)).trans ((k9 57 (by decide)).trans ((k14 57 (by decide)).trans ((k7 57 (by decide)).trans ((k3 57 (by decide)).trans hS3))))))))))
                             have h177 : f117 51 = ob 1 [.ref (eA E 7), .int (zI (wE g p e)), .int (zI e)] := (k121 51 (by decide)).trans ((k104 51 (by decide)).trans h99)
                             exact F_iret hX hE d_Wr_readHead_181 (Or.inr ⟨by decide, rfl, ⟨_, h177, by omega, by omega⟩, ⟨_, _, _, _, _, _, _, _, h173⟩, ⟨_, _, _, h122⟩, ⟨_, _, _, h174⟩, ⟨_, _, _, h175⟩, ⟨_, _, _, h176⟩, (Fr.tr (Fr.tr (Fr.tr (Fr.tr (Fr.tr (Fr.tr (Fr.tr (Fr.tr (Fr.tr (Fr.tr (Fr.tr Fr.rf k3 (by decide)) k7 (by decide)) k14 (by decide)) k9 (by decide)) k55 (by decide)) k62 (by decide)) k84 (by decide)) k89 (by decide)) k97 (by decide)) k104 (by decide)) k121 (by decide))⟩))
                  · skip
                    refine G_bipush hX (by decide) d_Wr_readHead_154 ?_
                    first
                      | (exfalso; omega)
                      | (have e1 : hdA g p e mc oc 300 = -4 := by unfold hdA; rw [if_neg (by omega), if_neg (fun q => q hok), if_neg (by omega), if_neg (by omega), if_pos (by omega)]
                         rw [e1] at hE
                         have h178 : f102 54 = ob 1 [.ref (eA E 7), .int (zI ((wZ g p e).2)), .int (zI (wE g p e))] := (k104 54 (by decide)).trans h100
                         have h179 : f102 55 = ob 1 [u1, .int a1, .int b1] := (k104 55 (by decide)).trans ((k97 55 (by decide)).trans ((k89 55 (by decide)).trans ((k84 55 (by decide)).trans ((k62 55 (by decide)).trans ((k55 55 (by decide)).trans ((k9 55 (by decide)).trans ((k14 55 (by decide)).trans ((k7 55 (by decide)).trans ((k3 55 (by decide)).trans hS1)))))))))
                         have h180 : f102 56 = ob 1 [u2, .int a2, .int b2] := (k104 56 (by decide)).trans ((k97 56 (by decide)).trans ((k89 56 (by decide)).trans ((k84 56 (by decide)).trans ((k62 56 (by decide)).trans ((k55 56 (by decide)).trans ((k9 56 (by decide)).trans ((k14 56 (by decide)).trans ((k7 56 (by decide)).trans ((k3 56 (by decide)).trans hS2)))))))))
                         have h181 : f102 57 = ob 1 [u3, .int a3, .int b3] := (k104 57 (by decide)).trans ((k97 57 (by decide)).trans ((k89 57 (by decide)).trans ((k84 57 (by decide)).trans ((k62 57 (by decide)).trans ((k55 57 (by decide)).trans ((k9 57 (by decide)).trans ((k14 57 (by decide)).trans ((k7 57 (by decide)).trans ((k3 57 (by decide)).trans hS3)))))))))
                         have h182 : f102 51 = ob 1 [.ref (eA E 7), .int (zI (wE g p e)), .int (zI e)] := (k104 51 (by decide)).trans h99
                         exact F_iret hX hE d_Wr_readHead_156 (Or.inr ⟨by decide, rfl, ⟨_, h182, by omega, by omega⟩, ⟨_, _, _, _, _, _, _, _, h103⟩, ⟨_, _, _, h178⟩, ⟨_, _, _, h179⟩, ⟨_, _, _, h180⟩, ⟨_, _, _, h181⟩, (Fr.tr (Fr.tr (Fr.tr (Fr.tr (Fr.tr (Fr.tr (Fr.tr (Fr.tr (Fr.tr (Fr.tr Fr.rf k3 (by decide)) k7 (by decide)) k14 (by decide)) k9 (by decide)) k55 (by decide)) k62 (by decide)) k84 (by decide)) k89 (by decide)) k97 (by decide)) k104 (by decide))⟩))
                · skip
                  refine G_bipush hX (by decide) d_Wr_readHead_140 ?_
                  first
                    | (exfalso; omega)
                    | (have e1 : hdA g p e mc oc 300 = -2 := by unfold hdA; rw [if_neg (by omega), if_neg (fun q => q hok), if_neg (by omega), if_pos (by omega)]
                       rw [e1] at hE
                       have h183 : f102 54 = ob 1 [.ref (eA E 7), .int (zI ((wZ g p e).2)), .int (zI (wE g p e))] := (k104 54 (by decide)).trans h100
                       have h184 : f102 55 = ob 1 [u1, .int a1, .int b1] := (k104 55 (by decide)).trans ((k97 55 (by decide)).trans ((k89 55 (by decide)).trans ((k84 55 (by decide)).trans ((k62 55 (by decide)).trans ((k55 55 (by decide)).trans ((k9 55 (by decide)).trans ((k14 55 (by decide)).trans ((k7 55 (by decide)).trans ((k3 55 (by decide)).trans hS1)))))))))
                       have h185 : f102 56 = ob 1 [u2, .int a2, .int b2] := (k104 56 (by decide)).trans ((k97 56 (by decide)).trans ((k89 56 (by decide)).trans ((k84 56 (by decide)).trans ((k62 56 (by decide)).trans ((k55 56 (by decide)).trans ((k9 56 (by decide)).trans ((k14 56 (by decide)).trans ((k7 56 (by decide)).trans ((k3 56 (by decide)).trans hS2)))))))))
                       have h186 : f102 57 = ob 1 [u3, .int a3, .int b3] := (k104 57 (by decide)).trans ((k97 57 (by decide)).trans ((k89 57 (by decide)).trans ((k84 57 (by decide)).trans ((k62 57 (by decide)).trans ((k55 57 (by decide)).trans ((k9 57 (by decide)).trans ((k14 57 (by decide)).trans ((k7 57 (by decide)).trans ((k3 57 (by decide)).trans hS3)))))))))
                       have h187 : f102 51 = ob 1 [.ref (eA E 7), .int (zI (wE g p e)), .int (zI e)] := (k104 51 (by decide)).trans h99
                       exact F_iret hX hE d_Wr_readHead_142 (Or.inr ⟨by decide, rfl, ⟨_, h187, by omega, by omega⟩, ⟨_, _, _, _, _, _, _, _, h103⟩, ⟨_, _, _, h183⟩, ⟨_, _, _, h184⟩, ⟨_, _, _, h185⟩, ⟨_, _, _, h186⟩, (Fr.tr (Fr.tr (Fr.tr (Fr.tr (Fr.tr (Fr.tr (Fr.tr (Fr.tr (Fr.tr (Fr.tr Fr.rf k3 (by decide)) k7 (by decide)) k14 (by decide)) k9 (by decide)) k55 (by decide)) k62 (by decide)) k84 (by decide)) k89 (by decide)) k97 (by decide)) k104 (by decide))⟩))
              · skip
                refine G_bipush hX (by decide) d_Wr_readHead_91 ?_
                first
                  | (exfalso; omega)
                  | (have e1 : hdA g p e mc oc 300 = -2 := by unfold hdA; rw [if_neg (by omega), if_neg (fun q => q hok), if_pos (by omega)]
                     rw [e1] at hE
                     have h188 : f58 53 = ob 9 [.ref (eA E 54), .ref (eA E 55), .ref (eA E 56), .ref (eA E 57), .ref (eA E 58), .ref (eA E 45), .ref (eA E (if wk g p e % 4 = 2 then 45 else 2)), .int (zI ((wS g p e).1)), .int (zI ((wS g p e).2.1)), .int (zI mc), .int x4, .int (zI (wc g p e)), .long l] := (k62 53 (by decide)).trans h54
                     have h189 : f58 54 = ob 1 [u0, .int a0, .int b0] := (k62 54 (by decide)).trans ((k55 54 (by decide)).trans ((k9 54 (by decide)).trans ((k14 54 (by decide)).trans ((k7 54 (by decide)).trans ((k3 54 (by decide)).trans hS0)))))
                     have h190 : f58 55 = ob 1 [u1, .int a1, .int b1] := (k62 55 (by decide)).trans ((k55 55 (by decide)).trans ((k9 55 (by decide)).trans ((k14 55 (by decide)).trans ((k7 55 (by decide)).trans ((k3 55 (by decide)).trans hS1)))))
                     have h191 : f58 56 = ob 1 [u2, .int a2, .int b2] := (k62 56 (by decide)).trans ((k55 56 (by decide)).trans ((k9 56 (by decide)).trans ((k14 56 (by decide)).trans ((k7 56 (by decide)).trans ((k3 56 (by decide)).trans hS2)))))
                     have h192 : f58 57 = ob 1 [u3, .int a3, .int b3] := (k62 57 (by decide)).trans ((k55 57 (by decide)).trans ((k9 57 (by decide)).trans ((k14 57 (by decide)).trans ((k7 57 (by decide)).trans ((k3 57 (by decide)).trans hS3)))))
                     exact F_iret hX hE d_Wr_readHead_93 (Or.inr ⟨by decide, rfl, ⟨_, h63, by omega, by omega⟩, ⟨_, _, _, _, _, _, _, _, h188⟩, ⟨_, _, _, h189⟩, ⟨_, _, _, h190⟩, ⟨_, _, _, h191⟩, ⟨_, _, _, h192⟩, (Fr.tr (Fr.tr (Fr.tr (Fr.tr (Fr.tr (Fr.tr Fr.rf k3 (by decide)) k7 (by decide)) k14 (by decide)) k9 (by decide)) k55 (by decide)) k62 (by decide))⟩))
          · skip
            refine G_top (show (zI (wk g p e) &&& zI 4) = zI 4 from zI_and4n (by omega)) ?_
            refine G_if_eq_z hX (tgt := 67) d_Wr_readHead_60 rfl (by omega) (fun c193 => by exfalso; omega) (fun c194 => ?_)
            refine G_iconst hX d_Wr_readHead_63 ?_
            refine G_goto hX (tgt := 68) d_Wr_readHead_64 rfl ?_
            refine G_top (show zI 1 = zI (wc g p e) from by unfold wc; rw [show wk g p e / 4 = 1 by omega]) ?_
            refine F_put hX fg_Wr_61 fp_Wr_11 d_Wr_readHead_68 53 (fs' := [.ref (eA E 54), .ref (eA E 55), .ref (eA E 56), .ref (eA E 57), .ref (eA E 58), .ref (eA E 45), .ref (eA E (if wk g p e % 4 = 2 then 45 else 2)), .int (zI ((wS g p e).1)), .int (zI ((wS g p e).2.1)), .int (zI mc), .int x4, .int (zI (wc g p e)), .long l]) (by decide) h48 (nar01 (by unfold wc; omega)) (fit01 (by unfold wc; omega)) (Nat.le_of_ble_eq_true rfl) rfl (fun f195 h196 k197 => ?_)
            refine G_aload_n hX 2 rfl rfl d_Wr_readHead_71 ?_
            have h198 : f195 51 = ob 1 [.ref (eA E 7), .int (zI ((wS g p e).2.2)), .int (zI e)] := (k197 51 (by decide)).trans h47
            have h199 : f195 7 = iz E 700 g := (k197 7 (by decide)).trans ((k9 7 (by decide)).trans h37)
            refine F_callV hX (st := []) (c_Cu_number E f195 51 7 700 g ((wS g p e).2.2) e (by decide) (by decide) (by decide) h198 h199 (by omega) hB) cm_Cu_number im_Cu_number se_Cu_number rfl ml_Wr_65 d_Wr_readHead_72 (by decide) h198 rfl rfl (Nat.le_of_ble_eq_true rfl) (by decide) ?_
            rintro _ f200 ⟨rfl, h203, k204⟩
            refine G_cast (st' := [.int (zI ((numL g e 4 ((wS g p e).2.2) 0).1))]) ?_ rfl rfl rfl rfl
            have h205 : f200 51 = ob 1 [.ref (eA E 7), .int (zI ((wY g p e).2)), .int (zI e)] := h203
            have hwc : wc g p e = wk g p e / 4 := rfl
            refine G_top (show zI ((numL g e 4 ((wS g p e).2.2) 0).1) = zI ((wY g p e).1) from rfl) ?_
            refine G_istore hX (lv' := [(5, .int (zI ((wY g p e).1))), (4, .int (zI (wk g p e))), (0, .ref (eA E 53)), (1, .ref (eA E 51)), (2, .ref (eA E 2)), (3, .ref (eA E 45))]) (by decide) rfl d_Wr_readHead_75 ?_
            refine G_iload hX 0 rfl d_Wr_readHead_77 ?_
            refine G_if_lt_z hX (tgt := 91) d_Wr_readHead_79 rfl (by omega) (fun c206 => ?_) (fun c207 => ?_)
            · skip
              refine G_bipush hX (by decide) d_Wr_readHead_91 ?_
              first
                | (exfalso; omega)
                | (have e1 : hdA g p e mc oc 300 = -2 := by unfold hdA; rw [if_neg (by omega), if_neg (fun q => q hok), if_pos (by omega)]
                   rw [e1] at hE
                   have h208 : f200 53 = ob 9 [.ref (eA E 54), .ref (eA E 55), .ref (eA E 56), .ref (eA E 57), .ref (eA E 58), .ref (eA E 45), .ref (eA E (if wk g p e % 4 = 2 then 45 else 2)), .int (zI ((wS g p e).1)), .int (zI ((wS g p e).2.1)), .int (zI mc), .int x4, .int (zI (wc g p e)), .long l] := (k204 53 (by decide)).trans h196
                   have h209 : f200 54 = ob 1 [u0, .int a0, .int b0] := (k204 54 (by decide)).trans ((k197 54 (by decide)).trans ((k9 54 (by decide)).trans ((k14 54 (by decide)).trans ((k7 54 (by decide)).trans ((k3 54 (by decide)).trans hS0)))))
                   have h210 : f200 55 = ob 1 [u1, .int a1, .int b1] := (k204 55 (by decide)).trans ((k197 55 (by decide)).trans ((k9 55 (by decide)).trans ((k14 55 (by decide)).trans ((k7 55 (by decide)).trans ((k3 55 (by decide)).trans hS1)))))
                   have h211 : f200 56 = ob 1 [u2, .int a2, .int b2] := (k204 56 (by decide)).trans ((k197 56 (by decide)).trans ((k9 56 (by decide)).trans ((k14 56 (by decide)).trans ((k7 56 (by decide)).trans ((k3 56 (by decide)).trans hS2)))))
                   have h212 : f200 57 = ob 1 [u3, .int a3, .int b3] := (k204 57 (by decide)).trans ((k197 57 (by decide)).trans ((k9 57 (by decide)).trans ((k14 57 (by decide)).trans ((k7 57 (by decide)).trans ((k3 57 (by decide)).trans hS3)))))
                   exact F_iret hX hE d_Wr_readHead_93 (Or.inr ⟨by decide, rfl, ⟨_, h205, by omega, by omega⟩, ⟨_, _, _, _, _, _, _, _, h208⟩, ⟨_, _, _, h209⟩, ⟨_, _, _, h210⟩, ⟨_, _, _, h211⟩, ⟨_, _, _, h212⟩, (Fr.tr (Fr.tr (Fr.tr (Fr.tr (Fr.tr (Fr.tr Fr.rf k3 (by decide)) k7 (by decide)) k14 (by decide)) k9 (by decide)) k197 (by decide)) k204 (by decide))⟩))
            · skip
              refine G_iload hX 0 rfl d_Wr_readHead_82 ?_
              refine G_aload_n hX 3 rfl rfl d_Wr_readHead_84 ?_
              have h213 : f200 7 = iz E 700 g := (k204 7 (by decide)).trans h199
              refine F_callV hX (st := [.int (zI ((wY g p e).1))]) (c_Cu_left E f200 51 7 700 g ((wY g p e).2) e (by decide) (by decide) (by decide) h205 h213 (by omega)) cm_Cu_left im_Cu_left se_Cu_left rfl ml_Wr_68 d_Wr_readHead_85 (by decide) h205 rfl rfl (Nat.le_of_ble_eq_true rfl) (by decide) ?_
              rintro _ f214 ⟨rfl, e217⟩
              obtain rfl := e217.symm
              refine G_cast (st' := [.int (zI (e - ((wY g p e).2))), .int (zI ((wY g p e).1))]) ?_ rfl rfl rfl rfl
              refine G_icmp_le_z hX (tgt := 94) d_Wr_readHead_88 rfl (by omega) (fun c218 => ?_) (fun c219 => ?_)
              · skip
                refine G_aload_n hX 2 rfl rfl d_Wr_readHead_94 ?_
                have h220 : f200 53 = ob 9 [.ref (eA E 54), .ref (eA E 55), .ref (eA E 56), .ref (eA E 57), .ref (eA E 58), .ref (eA E 45), .ref (eA E (if wk g p e % 4 = 2 then 45 else 2)), .int (zI ((wS g p e).1)), .int (zI ((wS g p e).2.1)), .int (zI mc), .int x4, .int (zI (wc g p e)), .long l] := (k204 53 (by decide)).trans h196
                refine F_get hX fg_Wr_12 d_Wr_readHead_95 53 (by decide) h220 rfl ?_
                refine G_aload_n hX 3 rfl rfl d_Wr_readHead_98 ?_
                refine F_get hX fg_Wr_71 d_Wr_readHead_99 51 (by decide) h205 rfl ?_
                refine G_aload_n hX 3 rfl rfl d_Wr_readHead_102 ?_
                refine F_get hX fg_Wr_75 d_Wr_readHead_103 51 (by decide) h205 rfl ?_
                refine G_iload hX 0 rfl d_Wr_readHead_106 ?_
                have h221 : f200 54 = ob 1 [u0, .int a0, .int b0] := (k204 54 (by decide)).trans ((k197 54 (by decide)).trans ((k9 54 (by decide)).trans ((k14 54 (by decide)).trans ((k7 54 (by decide)).trans ((k3 54 (by decide)).trans hS0)))))
                refine F_callV hX (st := []) (c_Cu_open E f200 54 7 u0 a0 b0 ((wY g p e).2) ((wY g p e).1) (by decide) h221) cm_Cu_open im_Cu_open se_Cu_open rfl ml_Wr_78 d_Wr_readHead_108 (by decide) h221 rfl rfl (Nat.le_of_ble_eq_true rfl) (by decide) ?_
                rintro _ f222 ⟨rfl, h225, k226⟩
                refine G_cast (st' := []) ?_ rfl rfl rfl rfl
                have h227 : f222 54 = ob 1 [.ref (eA E 7), .int (zI ((wY g p e).2)), .int (zI (wE g p e))] := h225
                have hwE : wE g p e = (wY g p e).2 + (wY g p e).1 := rfl
                refine G_aload_n hX 3 rfl rfl d_Wr_readHead_111 ?_
                refine G_dup hX rfl d_Wr_readHead_112 ?_
                have h228 : f222 51 = ob 1 [.ref (eA E 7), .int (zI ((wY g p e).2)), .int (zI e)] := (k226 51 (by decide)).trans h205
                refine F_get hX fg_Wr_75 d_Wr_readHead_113 51 (by decide) h228 rfl ?_
                refine G_iload hX 0 rfl d_Wr_readHead_116 ?_
                refine G_iadd_z hX d_Wr_readHead_118 ?_
                refine F_put hX fg_Wr_75 fp_Cu_1 d_Wr_readHead_119 51 (fs' := [.ref (eA E 7), .int (zI (((wY g p e).2) + ((wY g p e).1))), .int (zI e)]) (by decide) h228 rfl rfl (Nat.le_of_ble_eq_true rfl) rfl (fun f229 h230 k231 => ?_)
                refine G_aload_n hX 2 rfl rfl d_Wr_readHead_122 ?_
                refine G_aload_n hX 2 rfl rfl d_Wr_readHead_123 ?_
                have h232 : f229 53 = ob 9 [.ref (eA E 54), .ref (eA E 55), .ref (eA E 56), .ref (eA E 57), .ref (eA E 58), .ref (eA E 45), .ref (eA E (if wk g p e % 4 = 2 then 45 else 2)), .int (zI ((wS g p e).1)), .int (zI ((wS g p e).2.1)), .int (zI mc), .int x4, .int (zI (wc g p e)), .long l] := (k231 53 (by decide)).trans ((k226 53 (by decide)).trans h220)
                refine F_get hX fg_Wr_12 d_Wr_readHead_124 53 (by decide) h232 rfl ?_
                have h233 : f229 54 = ob 1 [.ref (eA E 7), .int (zI ((wY g p e).2)), .int (zI (wE g p e))] := (k231 54 (by decide)).trans h227
                have h234 : f229 7 = iz E 700 g := (k231 7 (by decide)).trans ((k226 7 (by decide)).trans h213)
                refine F_callV hX (st := [.ref (eA E 53)]) (c_Cu_number E f229 54 7 700 g ((wY g p e).2) (wE g p e) (by decide) (by decide) (by decide) h233 h234 (by omega) hB) cm_Cu_number im_Cu_number se_Cu_number rfl ml_Wr_65 d_Wr_readHead_127 (by decide) h233 rfl rfl (Nat.le_of_ble_eq_true rfl) (by decide) ?_
                rintro _ f235 ⟨rfl, h238, k239⟩
                refine G_cast (st' := [.int (zI ((numL g (wE g p e) 4 ((wY g p e).2) 0).1)), .ref (eA E 53)]) ?_ rfl rfl rfl rfl
                have h240 : f235 51 = ob 1 [.ref (eA E 7), .int (zI (((wY g p e).2) + ((wY g p e).1))), .int (zI e)] := (k239 51 (by decide)).trans h230
                have h241 : f235 51 = ob 1 [.ref (eA E 7), .int (zI (wE g p e)), .int (zI e)] := h240
                have h242 : f235 54 = ob 1 [.ref (eA E 7), .int (zI ((wZ g p e).2)), .int (zI (wE g p e))] := h238
                refine G_top (show zI ((numL g (wE g p e) 4 ((wY g p e).2) 0).1) = zI ((wZ g p e).1) from rfl) ?_
                have hzb : -1 ≤ (wZ g p e).1 ∧ (wZ g p e).1 < 268435456 ∧ (wY g p e).2 ≤ (wZ g p e).2 ∧ (wZ g p e).2 ≤ wE g p e := num_b hB (by omega)
                have h243 : f235 53 = ob 9 [.ref (eA E 54), .ref (eA E 55), .ref (eA E 56), .ref (eA E 57), .ref (eA E 58), .ref (eA E 45), .ref (eA E (if wk g p e % 4 = 2 then 45 else 2)), .int (zI ((wS g p e).1)), .int (zI ((wS g p e).2.1)), .int (zI mc), .int x4, .int (zI (wc g p e)), .long l] := (k239 53 (by decide)).trans h232
                refine F_put hX fg_Wr_82 fp_Wr_10 d_Wr_readHead_130 53 (fs' := [.ref (eA E 54), .ref (eA E 55), .ref (eA E 56), .ref (eA E 57), .ref (eA E 58), .ref (eA E 45), .ref (eA E (if wk g p e % 4 = 2 then 45 else 2)), .int (zI ((wS g p e).1)), .int (zI ((wS g p e).2.1)), .int (zI mc), .int (zI ((wZ g p e).1)), .int (zI (wc g p e)), .long l]) (by decide) h243 rfl rfl (Nat.le_of_ble_eq_true rfl) rfl (fun f244 h245 k246 => ?_)
                refine G_aload_n hX 2 rfl rfl d_Wr_readHead_133 ?_
                refine F_get hX fg_Wr_82 d_Wr_readHead_134 53 (by decide) h245 rfl ?_
                refine G_if_ge_z hX (tgt := 143) d_Wr_readHead_137 rfl (by omega) (fun c247 => ?_) (fun c248 => ?_)
                · skip
                  refine G_aload_n hX 2 rfl rfl d_Wr_readHead_143 ?_
                  refine F_get hX fg_Wr_82 d_Wr_readHead_144 53 (by decide) h245 rfl ?_
                  refine G_aload_n hX 5 rfl rfl d_Wr_readHead_147 ?_
                  have h249 : f244 45 = ob 6 [.ref (eA E 46), .int (zI mc)] := (k246 45 (by decide)).trans ((k239 45 (by decide)).trans ((k231 45 (by decide)).trans ((k226 45 (by decide)).trans ((k204 45 (by decide)).trans ((k197 45 (by decide)).trans ((k9 45 (by decide)).trans h40))))))
                  have h250 : f244 46 = iz E 300 m := (k246 46 (by decide)).trans ((k239 46 (by decide)).trans ((k231 46 (by decide)).trans ((k226 46 (by decide)).trans ((k204 46 (by decide)).trans ((k197 46 (by decide)).trans ((k9 46 (by decide)).trans h41))))))
                  refine F_callV hX (st := [.int (zI ((wZ g p e).1))]) (c_Ro_left E f244 45 46 300 m mc (by decide) (by decide) (by decide) ⟨h249, h250⟩ (by omega)) cm_Ro_left im_Ro_left se_Ro_left rfl ml_Wr_85 d_Wr_readHead_148 (by decide) h249 rfl rfl (Nat.le_of_ble_eq_true rfl) (by decide) ?_
                  rintro _ f251 ⟨rfl, e254⟩
                  obtain rfl := e254.symm
                  refine G_cast (st' := [.int (zI (((300 : Nat) : Int) - mc)), .int (zI ((wZ g p e).1))]) ?_ rfl rfl rfl rfl
                  refine G_icmp_le_z hX (tgt := 157) d_Wr_readHead_151 rfl (by omega) (fun c255 => ?_) (fun c256 => ?_)
                  · skip
                    refine G_aload_n hX 2 rfl rfl d_Wr_readHead_157 ?_
                    refine F_get hX fg_Wr_12 d_Wr_readHead_158 53 (by decide) h245 rfl ?_
                    have h257 : f244 54 = ob 1 [.ref (eA E 7), .int (zI ((wZ g p e).2)), .int (zI (wE g p e))] := (k246 54 (by decide)).trans h242
                    have h258 : f244 7 = iz E 700 g := (k246 7 (by decide)).trans ((k239 7 (by decide)).trans h234)
                    refine F_callV hX (st := []) (c_Cu_next E f244 54 7 700 g ((wZ g p e).2) (wE g p e) (by decide) (by decide) (by decide) h257 h258 (by omega)) cm_Cu_next im_Cu_next se_Cu_next rfl ml_Wr_53 d_Wr_readHead_161 (by decide) h257 rfl rfl (Nat.le_of_ble_eq_true rfl) (by decide) ?_
                    rintro _ f259 ⟨rfl, h262, k263⟩
                    refine G_cast (st' := [.int (zI (nxV g ((wZ g p e).2) (wE g p e)))]) ?_ rfl rfl rfl rfl
                    have h264 : f259 54 = ob 1 [.ref (eA E 7), .int (zI (nxP (wZ g p e).2 (wE g p e))), .int (zI (wE g p e))] := h262
                    refine G_top (show zI (nxV g ((wZ g p e).2) (wE g p e)) = zI (wQ g p e) from rfl) ?_
                    have hqb : -1 ≤ wQ g p e ∧ wQ g p e < 256 := nxV_b hB _ _
                    have hqp : (wZ g p e).2 ≤ nxP (wZ g p e).2 (wE g p e) ∧ nxP (wZ g p e).2 (wE g p e) ≤ wE g p e := by unfold nxP; split <;> omega
                    refine G_istore hX (lv' := [(6, .int (zI (wQ g p e))), (5, .int (zI ((wY g p e).1))), (4, .int (zI (wk g p e))), (0, .ref (eA E 53)), (1, .ref (eA E 51)), (2, .ref (eA E 2)), (3, .ref (eA E 45))]) (by decide) rfl d_Wr_readHead_164 ?_
                    refine G_iload hX 0 rfl d_Wr_readHead_166 ?_
                    refine G_if_le_z hX (tgt := 182) d_Wr_readHead_168 rfl (by omega) (fun c265 => ?_) (fun c266 => ?_)
                    · skip
                      refine G_iload hX 0 rfl d_Wr_readHead_182 ?_
                      refine G_if_ne_z hX (tgt := 198) d_Wr_readHead_184 rfl (by omega) (fun c267 => ?_) (fun c268 => ?_)
                      · skip
                        refine G_bipush hX (by decide) d_Wr_readHead_198 ?_
                        first
                          | (exfalso; omega)
                          | (have e1 : hdA g p e mc oc 300 = -2 := by unfold hdA; rw [if_neg (by omega), if_neg (fun q => q hok), if_neg (by omega), if_neg (by omega), if_neg (by omega), if_neg (by omega), if_pos (by omega)]
                             rw [e1] at hE
                             have h269 : f259 53 = ob 9 [.ref (eA E 54), .ref (eA E 55), .ref (eA E 56), .ref (eA E 57), .ref (eA E 58), .ref (eA E 45), .ref (eA E (if wk g p e % 4 = 2 then 45 else 2)), .int (zI ((wS g p e).1)), .int (zI ((wS g p e).2.1)), .int (zI mc), .int (zI ((wZ g p e).1)), .int (zI (wc g p e)), .long l] := (k263 53 (by decide)).trans h245
                             have h270 : f259 55 = ob 1 [u1, .int a1, .int b1] := (k263 55 (by decide)).trans ((k246 55 (by decide)).trans ((k239 55 (by decide)).trans ((k231 55 (by decide)).trans ((k226 55 (by decide)).trans ((k204 55 (by decide)).trans ((k197 55 (by decide)).trans ((k9 55 (by decide)).trans ((k14 55 (by decide)).trans ((k7 55 (by decide)).trans ((k3 55 (by decide)).trans hS1))))))))))
                             have h271 : f259 56 = ob 1 [u2, .int a2, .int b2] := (k263 56 (by decide)).trans ((k246 56 (by decide)).trans ((k239 56 (by decide)).trans ((k231 56 (by decide)).trans ((k226 56 (by decide)).trans ((k204 56 (by decide)).trans ((k197 56 (by decide)).trans ((k9 56 (by decide)).trans ((k14 56 (by decide)).trans ((k7 56 (by decide)).trans ((k3 56 (by decide)).trans hS2))))))))))
                             have h272 : f259 57 = ob 1 [u3, .int a3, .int b3] := (k263 57 (by decide)).trans ((k246 57 (by decide)).trans ((k239 57 (by decide)).trans ((k231 57 (by decide)).trans ((k226 57 (by decide)).trans ((k204 57 (by decide)).trans ((k197 57 (by decide)).trans ((k9 57 (by decide)).trans ((k14 57 (by decide)).trans ((k7 57 (by decide)).trans ((k3 57 (by decide)).trans hS3))))))))))
                             have h273 : f259 51 = ob 1 [.ref (eA E 7), .int (zI (wE g p e)), .int (zI e)] := (k263 51 (by decide)).trans ((k246 51 (by decide)).trans h241)
                             exact F_iret hX hE d_Wr_readHead_200 (Or.inr ⟨by decide, rfl, ⟨_, h273, by omega, by omega⟩, ⟨_, _, _, _, _, _, _, _, h269⟩, ⟨_, _, _, h264⟩, ⟨_, _, _, h270⟩, ⟨_, _, _, h271⟩, ⟨_, _, _, h272⟩, (Fr.tr (Fr.tr (Fr.tr (Fr.tr (Fr.tr (Fr.tr (Fr.tr (Fr.tr (Fr.tr (Fr.tr (Fr.tr Fr.rf k3 (by decide)) k7 (by decide)) k14 (by decide)) k9 (by decide)) k197 (by decide)) k204 (by decide)) k226 (by decide)) k231 (by decide)) k239 (by decide)) k246 (by decide)) k263 (by decide))⟩))
                      · skip
                        refine G_aload_n hX 3 rfl rfl d_Wr_readHead_187 ?_
                        have h274 : f259 53 = ob 9 [.ref (eA E 54), .ref (eA E 55), .ref (eA E 56), .ref (eA E 57), .ref (eA E 58), .ref (eA E 45), .ref (eA E (if wk g p e % 4 = 2 then 45 else 2)), .int (zI ((wS g p e).1)), .int (zI ((wS g p e).2.1)), .int (zI mc), .int (zI ((wZ g p e).1)), .int (zI (wc g p e)), .long l] := (k263 53 (by decide)).trans h245
                        have h275 : f259 7 = iz E 700 g := (k263 7 (by decide)).trans h258
                        have h276 : f259 55 = ob 1 [u1, .int a1, .int b1] := (k263 55 (by decide)).trans ((k246 55 (by decide)).trans ((k239 55 (by decide)).trans ((k231 55 (by decide)).trans ((k226 55 (by decide)).trans ((k204 55 (by decide)).trans ((k197 55 (by decide)).trans ((k9 55 (by decide)).trans ((k14 55 (by decide)).trans ((k7 55 (by decide)).trans ((k3 55 (by decide)).trans hS1))))))))))
                        have h277 : f259 56 = ob 1 [u2, .int a2, .int b2] := (k263 56 (by decide)).trans ((k246 56 (by decide)).trans ((k239 56 (by decide)).trans ((k231 56 (by decide)).trans ((k226 56 (by decide)).trans ((k204 56 (by decide)).trans ((k197 56 (by decide)).trans ((k9 56 (by decide)).trans ((k14 56 (by decide)).trans ((k7 56 (by decide)).trans ((k3 56 (by decide)).trans hS2))))))))))
                        have h278 : f259 57 = ob 1 [u3, .int a3, .int b3] := (k263 57 (by decide)).trans ((k246 57 (by decide)).trans ((k239 57 (by decide)).trans ((k231 57 (by decide)).trans ((k226 57 (by decide)).trans ((k204 57 (by decide)).trans ((k197 57 (by decide)).trans ((k9 57 (by decide)).trans ((k14 57 (by decide)).trans ((k7 57 (by decide)).trans ((k3 57 (by decide)).trans hS3))))))))))
                        refine F_callV hX (st := []) (c_Wr_readParts E f259 g (nxP (wZ g p e).2 (wE g p e)) (wE g p e) ((wS g p e).1) ((wS g p e).2.1) mc ((wZ g p e).1) (wc g p e) (.ref (eA E 45)) (.ref (eA E (if wk g p e % 4 = 2 then 45 else 2))) u1 u2 u3 a1 b1 a2 b2 a3 b3 l h274 h275 hB h264 h276 h277 h278 (by omega)) cm_Wr_readParts im_Wr_readParts se_Wr_readParts rfl ml_Wr_86 d_Wr_readHead_188 (by decide) h274 rfl rfl (Nat.le_of_ble_eq_true rfl) (by decide) ?_
                        rintro _ f279 (⟨h9, rfl, h8a, h8b, h8c, h8d, h8e, k8⟩ | ⟨h9, rfl, h9s, h9t, h9u, h9v, h9w, k8⟩)
                        · skip
                          have hok2 : 0 ≤ (w1 g p e).1 ∧ 0 ≤ (w2 g p e).1 ∧ 0 ≤ (w3 g p e).1 ∧ (w1 g p e).1 + (w2 g p e).1 + (w3 g p e).1 + 4 * wc g p e = wE g p e - (w3 g p e).2 := h9
                          refine G_cast (st' := [.int (zI 1)]) ?_ rfl rfl rfl rfl
                          refine G_if_eq_z hX (tgt := 198) d_Wr_readHead_191 rfl (by omega) (fun c284 => by exfalso; omega) (fun c285 => ?_)
                          refine G_iconst hX d_Wr_readHead_194 ?_
                          refine G_goto hX (tgt := 200) d_Wr_readHead_195 rfl ?_
                          first
                            | (exfalso; omega)
                            | (have e1 : hdA g p e mc oc 300 = 0 := by unfold hdA; rw [if_neg (by omega), if_neg (fun q => q hok), if_neg (by omega), if_neg (by omega), if_neg (by omega), if_neg (by omega), if_neg (by omega), if_neg (by omega), if_neg (by omega)]
                               have h286 : f279 51 = ob 1 [.ref (eA E 7), .int (zI (wE g p e)), .int (zI e)] := (k8 51 (by decide)).trans ((k263 51 (by decide)).trans ((k246 51 (by decide)).trans h241))
                               exact F_iret hX hE d_Wr_readHead_200 (Or.inl ⟨e1, rfl, h286, h8d, h8a, h8b, h8c, h8e, (Fr.tr (Fr.tr (Fr.tr (Fr.tr (Fr.tr (Fr.tr (Fr.tr (Fr.tr (Fr.tr (Fr.tr (Fr.tr (Fr.tr Fr.rf k3 (by decide)) k7 (by decide)) k14 (by decide)) k9 (by decide)) k197 (by decide)) k204 (by decide)) k226 (by decide)) k231 (by decide)) k239 (by decide)) k246 (by decide)) k263 (by decide)) k8 (by decide))⟩))
                        · skip
                          have hok2 : ¬ (0 ≤ (w1 g p e).1 ∧ 0 ≤ (w2 g p e).1 ∧ 0 ≤ (w3 g p e).1 ∧ (w1 g p e).1 + (w2 g p e).1 + (w3 g p e).1 + 4 * wc g p e = wE g p e - (w3 g p e).2) := h9
                          refine G_cast (st' := [.int (zI 0)]) ?_ rfl rfl rfl rfl
                          refine G_if_eq_z hX (tgt := 198) d_Wr_readHead_191 rfl (by omega) (fun c287 => ?_) (fun c288 => by exfalso; omega)
                          refine G_bipush hX (by decide) d_Wr_readHead_198 ?_
                          first
                            | (exfalso; omega)
                            | (have e1 : hdA g p e mc oc 300 = -2 := by unfold hdA; rw [if_neg (by omega), if_neg (fun q => q hok), if_neg (by omega), if_neg (by omega), if_neg (by omega), if_neg (by omega), if_neg (by omega)]; split; rfl; rw [if_pos (by omega)]
                               rw [e1] at hE
                               have h289 : f279 51 = ob 1 [.ref (eA E 7), .int (zI (wE g p e)), .int (zI e)] := (k8 51 (by decide)).trans ((k263 51 (by decide)).trans ((k246 51 (by decide)).trans h241))
                               exact F_iret hX hE d_Wr_readHead_200 (Or.inr ⟨by decide, rfl, ⟨_, h289, by omega, by omega⟩, h9s, h9t, h9u, h9v, h9w, (Fr.tr (Fr.tr (Fr.tr (Fr.tr (Fr.tr (Fr.tr (Fr.tr (Fr.tr (Fr.tr (Fr.tr (Fr.tr (Fr.tr Fr.rf k3 (by decide)) k7 (by decide)) k14 (by decide)) k9 (by decide)) k197 (by decide)) k204 (by decide)) k226 (by decide)) k231 (by decide)) k239 (by decide)) k246 (by decide)) k263 (by decide)) k8 (by decide))⟩))
                    · skip
                      refine G_iload hX 0 rfl d_Wr_readHead_171 ?_
                      refine G_bipush hX (by decide) d_Wr_readHead_173 ?_
                      refine G_iand hX d_Wr_readHead_175 ?_
                      refine G_top (show (zI (wQ g p e) &&& zI 7) = zI (wQ g p e % 8) from zI_and7 _) ?_
                      refine G_if_eq_z hX (tgt := 182) d_Wr_readHead_176 rfl (by omega) (fun c290 => ?_) (fun c291 => ?_)
                      · skip
                        refine G_iload hX 0 rfl d_Wr_readHead_182 ?_
                        refine G_if_ne_z hX (tgt := 198) d_Wr_readHead_184 rfl (by omega) (fun c292 => ?_) (fun c293 => ?_)
                        · skip
                          refine G_bipush hX (by decide) d_Wr_readHead_198 ?_
                          first
                            | (exfalso; omega)
                            | (have e1 : hdA g p e mc oc 300 = -2 := by unfold hdA; rw [if_neg (by omega), if_neg (fun q => q hok), if_neg (by omega), if_neg (by omega), if_neg (by omega), if_neg (by omega), if_pos (by omega)]
                               rw [e1] at hE
                               have h294 : f259 53 = ob 9 [.ref (eA E 54), .ref (eA E 55), .ref (eA E 56), .ref (eA E 57), .ref (eA E 58), .ref (eA E 45), .ref (eA E (if wk g p e % 4 = 2 then 45 else 2)), .int (zI ((wS g p e).1)), .int (zI ((wS g p e).2.1)), .int (zI mc), .int (zI ((wZ g p e).1)), .int (zI (wc g p e)), .long l] := (k263 53 (by decide)).trans h245
                               have h295 : f259 55 = ob 1 [u1, .int a1, .int b1] := (k263 55 (by decide)).trans ((k246 55 (by decide)).trans ((k239 55 (by decide)).trans ((k231 55 (by decide)).trans ((k226 55 (by decide)).trans ((k204 55 (by decide)).trans ((k197 55 (by decide)).trans ((k9 55 (by decide)).trans ((k14 55 (by decide)).trans ((k7 55 (by decide)).trans ((k3 55 (by decide)).trans hS1))))))))))
                               have h296 : f259 56 = ob 1 [u2, .int a2, .int b2] := (k263 56 (by decide)).trans ((k246 56 (by decide)).trans ((k239 56 (by decide)).trans ((k231 56 (by decide)).trans ((k226 56 (by decide)).trans ((k204 56 (by decide)).trans ((k197 56 (by decide)).trans ((k9 56 (by decide)).trans ((k14 56 (by decide)).trans ((k7 56 (by decide)).trans ((k3 56 (by decide)).trans hS2))))))))))
                               have h297 : f259 57 = ob 1 [u3, .int a3, .int b3] := (k263 57 (by decide)).trans ((k246 57 (by decide)).trans ((k239 57 (by decide)).trans ((k231 57 (by decide)).trans ((k226 57 (by decide)).trans ((k204 57 (by decide)).trans ((k197 57 (by decide)).trans ((k9 57 (by decide)).trans ((k14 57 (by decide)).trans ((k7 57 (by decide)).trans ((k3 57 (by decide)).trans hS3))))))))))
                               have h298 : f259 51 = ob 1 [.ref (eA E 7), .int (zI (wE g p e)), .int (zI e)] := (k263 51 (by decide)).trans ((k246 51 (by decide)).trans h241)
                               exact F_iret hX hE d_Wr_readHead_200 (Or.inr ⟨by decide, rfl, ⟨_, h298, by omega, by omega⟩, ⟨_, _, _, _, _, _, _, _, h294⟩, ⟨_, _, _, h264⟩, ⟨_, _, _, h295⟩, ⟨_, _, _, h296⟩, ⟨_, _, _, h297⟩, (Fr.tr (Fr.tr (Fr.tr (Fr.tr (Fr.tr (Fr.tr (Fr.tr (Fr.tr (Fr.tr (Fr.tr (Fr.tr Fr.rf k3 (by decide)) k7 (by decide)) k14 (by decide)) k9 (by decide)) k197 (by decide)) k204 (by decide)) k226 (by decide)) k231 (by decide)) k239 (by decide)) k246 (by decide)) k263 (by decide))⟩))
                        · skip
                          refine G_aload_n hX 3 rfl rfl d_Wr_readHead_187 ?_
                          have h299 : f259 53 = ob 9 [.ref (eA E 54), .ref (eA E 55), .ref (eA E 56), .ref (eA E 57), .ref (eA E 58), .ref (eA E 45), .ref (eA E (if wk g p e % 4 = 2 then 45 else 2)), .int (zI ((wS g p e).1)), .int (zI ((wS g p e).2.1)), .int (zI mc), .int (zI ((wZ g p e).1)), .int (zI (wc g p e)), .long l] := (k263 53 (by decide)).trans h245
                          have h300 : f259 7 = iz E 700 g := (k263 7 (by decide)).trans h258
                          have h301 : f259 55 = ob 1 [u1, .int a1, .int b1] := (k263 55 (by decide)).trans ((k246 55 (by decide)).trans ((k239 55 (by decide)).trans ((k231 55 (by decide)).trans ((k226 55 (by decide)).trans ((k204 55 (by decide)).trans ((k197 55 (by decide)).trans ((k9 55 (by decide)).trans ((k14 55 (by decide)).trans ((k7 55 (by decide)).trans ((k3 55 (by decide)).trans hS1))))))))))
                          have h302 : f259 56 = ob 1 [u2, .int a2, .int b2] := (k263 56 (by decide)).trans ((k246 56 (by decide)).trans ((k239 56 (by decide)).trans ((k231 56 (by decide)).trans ((k226 56 (by decide)).trans ((k204 56 (by decide)).trans ((k197 56 (by decide)).trans ((k9 56 (by decide)).trans ((k14 56 (by decide)).trans ((k7 56 (by decide)).trans ((k3 56 (by decide)).trans hS2))))))))))
                          have h303 : f259 57 = ob 1 [u3, .int a3, .int b3] := (k263 57 (by decide)).trans ((k246 57 (by decide)).trans ((k239 57 (by decide)).trans ((k231 57 (by decide)).trans ((k226 57 (by decide)).trans ((k204 57 (by decide)).trans ((k197 57 (by decide)).trans ((k9 57 (by decide)).trans ((k14 57 (by decide)).trans ((k7 57 (by decide)).trans ((k3 57 (by decide)).trans hS3))))))))))
                          refine F_callV hX (st := []) (c_Wr_readParts E f259 g (nxP (wZ g p e).2 (wE g p e)) (wE g p e) ((wS g p e).1) ((wS g p e).2.1) mc ((wZ g p e).1) (wc g p e) (.ref (eA E 45)) (.ref (eA E (if wk g p e % 4 = 2 then 45 else 2))) u1 u2 u3 a1 b1 a2 b2 a3 b3 l h299 h300 hB h264 h301 h302 h303 (by omega)) cm_Wr_readParts im_Wr_readParts se_Wr_readParts rfl ml_Wr_86 d_Wr_readHead_188 (by decide) h299 rfl rfl (Nat.le_of_ble_eq_true rfl) (by decide) ?_
                          rintro _ f304 (⟨h9, rfl, h8a, h8b, h8c, h8d, h8e, k8⟩ | ⟨h9, rfl, h9s, h9t, h9u, h9v, h9w, k8⟩)
                          · skip
                            have hok2 : 0 ≤ (w1 g p e).1 ∧ 0 ≤ (w2 g p e).1 ∧ 0 ≤ (w3 g p e).1 ∧ (w1 g p e).1 + (w2 g p e).1 + (w3 g p e).1 + 4 * wc g p e = wE g p e - (w3 g p e).2 := h9
                            refine G_cast (st' := [.int (zI 1)]) ?_ rfl rfl rfl rfl
                            refine G_if_eq_z hX (tgt := 198) d_Wr_readHead_191 rfl (by omega) (fun c309 => by exfalso; omega) (fun c310 => ?_)
                            refine G_iconst hX d_Wr_readHead_194 ?_
                            refine G_goto hX (tgt := 200) d_Wr_readHead_195 rfl ?_
                            first
                              | (exfalso; omega)
                              | (have e1 : hdA g p e mc oc 300 = 0 := by unfold hdA; rw [if_neg (by omega), if_neg (fun q => q hok), if_neg (by omega), if_neg (by omega), if_neg (by omega), if_neg (by omega), if_neg (by omega), if_neg (by omega), if_neg (by omega)]
                                 have h311 : f304 51 = ob 1 [.ref (eA E 7), .int (zI (wE g p e)), .int (zI e)] := (k8 51 (by decide)).trans ((k263 51 (by decide)).trans ((k246 51 (by decide)).trans h241))
                                 exact F_iret hX hE d_Wr_readHead_200 (Or.inl ⟨e1, rfl, h311, h8d, h8a, h8b, h8c, h8e, (Fr.tr (Fr.tr (Fr.tr (Fr.tr (Fr.tr (Fr.tr (Fr.tr (Fr.tr (Fr.tr (Fr.tr (Fr.tr (Fr.tr Fr.rf k3 (by decide)) k7 (by decide)) k14 (by decide)) k9 (by decide)) k197 (by decide)) k204 (by decide)) k226 (by decide)) k231 (by decide)) k239 (by decide)) k246 (by decide)) k263 (by decide)) k8 (by decide))⟩))
                          · skip
                            have hok2 : ¬ (0 ≤ (w1 g p e).1 ∧ 0 ≤ (w2 g p e).1 ∧ 0 ≤ (w3 g p e).1 ∧ (w1 g p e).1 + (w2 g p e).1 + (w3 g p e).1 + 4 * wc g p e = wE g p e - (w3 g p e).2) := h9
                            refine G_cast (st' := [.int (zI 0)]) ?_ rfl rfl rfl rfl
                            refine G_if_eq_z hX (tgt := 198) d_Wr_readHead_191 rfl (by omega) (fun c312 => ?_) (fun c313 => by exfalso; omega)
                            refine G_bipush hX (by decide) d_Wr_readHead_198 ?_
                            first
                              | (exfalso; omega)
                              | (have e1 : hdA g p e mc oc 300 = -2 := by unfold hdA; rw [if_neg (by omega), if_neg (fun q => q hok), if_neg (by omega), if_neg (by omega), if_neg (by omega), if_neg (by omega), if_neg (by omega)]; split; rfl; rw [if_pos (by omega)]
                                 rw [e1] at hE
                                 have h314 : f304 51 = ob 1 [.ref (eA E 7), .int (zI (wE g p e)), .int (zI e)] := (k8 51 (by decide)).trans ((k263 51 (by decide)).trans ((k246 51 (by decide)).trans h241))
                                 exact F_iret hX hE d_Wr_readHead_200 (Or.inr ⟨by decide, rfl, ⟨_, h314, by omega, by omega⟩, h9s, h9t, h9u, h9v, h9w, (Fr.tr (Fr.tr (Fr.tr (Fr.tr (Fr.tr (Fr.tr (Fr.tr (Fr.tr (Fr.tr (Fr.tr (Fr.tr (Fr.tr Fr.rf k3 (by decide)) k7 (by decide)) k14 (by decide)) k9 (by decide)) k197 (by decide)) k204 (by decide)) k226 (by decide)) k231 (by decide)) k239 (by decide)) k246 (by decide)) k263 (by decide)) k8 (by decide))⟩))
                      · skip
                        refine G_bipush hX (by decide) d_Wr_readHead_179 ?_
                        first
                          | (exfalso; omega)
                          | (have e1 : hdA g p e mc oc 300 = -3 := by unfold hdA; rw [if_neg (by omega), if_neg (fun q => q hok), if_neg (by omega), if_neg (by omega), if_neg (by omega), if_pos (by omega)]
                             rw [e1] at hE
                             have h315 : f259 53 = ob 9 [.ref (eA E 54), .ref (eA E 55), .ref (eA E 56), .ref (eA E 57), .ref (eA E 58), .ref (eA E 45), .ref (eA E (if wk g p e % 4 = 2 then 45 else 2)), .int (zI ((wS g p e).1)), .int (zI ((wS g p e).2.1)), .int (zI mc), .int (zI ((wZ g p e).1)), .int (zI (wc g p e)), .long l] := (k263 53 (by decide)).trans h245
                             have h316 : f259 55 = ob 1 [u1, .int a1, .int b1] := (k263 55 (by decide)).trans ((k246 55 (by decide)).trans ((k239 55 (by decide)).trans ((k231 55 (by decide)).trans ((k226 55 (by decide)).trans ((k204 55 (by decide)).trans ((k197 55 (by decide)).trans ((k9 55 (by decide)).trans ((k14 55 (by decide)).trans ((k7 55 (by decide)).trans ((k3 55 (by decide)).trans hS1))))))))))
                             have h317 : f259 56 = ob 1 [u2, .int a2, .int b2] := (k263 56 (by decide)).trans ((k246 56 (by decide)).trans ((k239 56 (by decide)).trans ((k231 56 (by decide)).trans ((k226 56 (by decide)).trans ((k204 56 (by decide)).trans ((k197 56 (by decide)).trans ((k9 56 (by decide)).trans ((k14 56 (by decide)).trans ((k7 56 (by decide)).trans ((k3 56 (by decide)).trans hS2))))))))))
                             have h318 : f259 57 = ob 1 [u3, .int a3, .int b3] := (k263 57 (by decide)).trans ((k246 57 (by decide)).trans ((k239 57 (by decide)).trans ((k231 57 (by decide)).trans ((k226 57 (by decide)).trans ((k204 57 (by decide)).trans ((k197 57 (by decide)).trans ((k9 57 (by decide)).trans ((k14 57 (by decide)).trans ((k7 57 (by decide)).trans ((k3 57 (by decide)).trans hS3))))))))))
                             have h319 : f259 51 = ob 1 [.ref (eA E 7), .int (zI (wE g p e)), .int (zI e)] := (k263 51 (by decide)).trans ((k246 51 (by decide)).trans h241)
                             exact F_iret hX hE d_Wr_readHead_181 (Or.inr ⟨by decide, rfl, ⟨_, h319, by omega, by omega⟩, ⟨_, _, _, _, _, _, _, _, h315⟩, ⟨_, _, _, h264⟩, ⟨_, _, _, h316⟩, ⟨_, _, _, h317⟩, ⟨_, _, _, h318⟩, (Fr.tr (Fr.tr (Fr.tr (Fr.tr (Fr.tr (Fr.tr (Fr.tr (Fr.tr (Fr.tr (Fr.tr (Fr.tr Fr.rf k3 (by decide)) k7 (by decide)) k14 (by decide)) k9 (by decide)) k197 (by decide)) k204 (by decide)) k226 (by decide)) k231 (by decide)) k239 (by decide)) k246 (by decide)) k263 (by decide))⟩))
                  · skip
                    refine G_bipush hX (by decide) d_Wr_readHead_154 ?_
                    first
                      | (exfalso; omega)
                      | (have e1 : hdA g p e mc oc 300 = -4 := by unfold hdA; rw [if_neg (by omega), if_neg (fun q => q hok), if_neg (by omega), if_neg (by omega), if_pos (by omega)]
                         rw [e1] at hE
                         have h320 : f244 54 = ob 1 [.ref (eA E 7), .int (zI ((wZ g p e).2)), .int (zI (wE g p e))] := (k246 54 (by decide)).trans h242
                         have h321 : f244 55 = ob 1 [u1, .int a1, .int b1] := (k246 55 (by decide)).trans ((k239 55 (by decide)).trans ((k231 55 (by decide)).trans ((k226 55 (by decide)).trans ((k204 55 (by decide)).trans ((k197 55 (by decide)).trans ((k9 55 (by decide)).trans ((k14 55 (by decide)).trans ((k7 55 (by decide)).trans ((k3 55 (by decide)).trans hS1)))))))))
                         have h322 : f244 56 = ob 1 [u2, .int a2, .int b2] := (k246 56 (by decide)).trans ((k239 56 (by decide)).trans ((k231 56 (by decide)).trans ((k226 56 (by decide)).trans ((k204 56 (by decide)).trans ((k197 56 (by decide)).trans ((k9 56 (by decide)).trans ((k14 56 (by decide)).trans ((k7 56 (by decide)).trans ((k3 56 (by decide)).trans hS2)))))))))
                         have h323 : f244 57 = ob 1 [u3, .int a3, .int b3] := (k246 57 (by decide)).trans ((k239 57 (by decide)).trans ((k231 57 (by decide)).trans ((k226 57 (by decide)).trans ((k204 57 (by decide)).trans ((k197 57 (by decide)).trans ((k9 57 (by decide)).trans ((k14 57 (by decide)).trans ((k7 57 (by decide)).trans ((k3 57 (by decide)).trans hS3)))))))))
                         have h324 : f244 51 = ob 1 [.ref (eA E 7), .int (zI (wE g p e)), .int (zI e)] := (k246 51 (by decide)).trans h241
                         exact F_iret hX hE d_Wr_readHead_156 (Or.inr ⟨by decide, rfl, ⟨_, h324, by omega, by omega⟩, ⟨_, _, _, _, _, _, _, _, h245⟩, ⟨_, _, _, h320⟩, ⟨_, _, _, h321⟩, ⟨_, _, _, h322⟩, ⟨_, _, _, h323⟩, (Fr.tr (Fr.tr (Fr.tr (Fr.tr (Fr.tr (Fr.tr (Fr.tr (Fr.tr (Fr.tr (Fr.tr Fr.rf k3 (by decide)) k7 (by decide)) k14 (by decide)) k9 (by decide)) k197 (by decide)) k204 (by decide)) k226 (by decide)) k231 (by decide)) k239 (by decide)) k246 (by decide))⟩))
                · skip
                  refine G_bipush hX (by decide) d_Wr_readHead_140 ?_
                  first
                    | (exfalso; omega)
                    | (have e1 : hdA g p e mc oc 300 = -2 := by unfold hdA; rw [if_neg (by omega), if_neg (fun q => q hok), if_neg (by omega), if_pos (by omega)]
                       rw [e1] at hE
                       have h325 : f244 54 = ob 1 [.ref (eA E 7), .int (zI ((wZ g p e).2)), .int (zI (wE g p e))] := (k246 54 (by decide)).trans h242
                       have h326 : f244 55 = ob 1 [u1, .int a1, .int b1] := (k246 55 (by decide)).trans ((k239 55 (by decide)).trans ((k231 55 (by decide)).trans ((k226 55 (by decide)).trans ((k204 55 (by decide)).trans ((k197 55 (by decide)).trans ((k9 55 (by decide)).trans ((k14 55 (by decide)).trans ((k7 55 (by decide)).trans ((k3 55 (by decide)).trans hS1)))))))))
                       have h327 : f244 56 = ob 1 [u2, .int a2, .int b2] := (k246 56 (by decide)).trans ((k239 56 (by decide)).trans ((k231 56 (by decide)).trans ((k226 56 (by decide)).trans ((k204 56 (by decide)).trans ((k197 56 (by decide)).trans ((k9 56 (by decide)).trans ((k14 56 (by decide)).trans ((k7 56 (by decide)).trans ((k3 56 (by decide)).trans hS2)))))))))
                       have h328 : f244 57 = ob 1 [u3, .int a3, .int b3] := (k246 57 (by decide)).trans ((k239 57 (by decide)).trans ((k231 57 (by decide)).trans ((k226 57 (by decide)).trans ((k204 57 (by decide)).trans ((k197 57 (by decide)).trans ((k9 57 (by decide)).trans ((k14 57 (by decide)).trans ((k7 57 (by decide)).trans ((k3 57 (by decide)).trans hS3)))))))))
                       have h329 : f244 51 = ob 1 [.ref (eA E 7), .int (zI (wE g p e)), .int (zI e)] := (k246 51 (by decide)).trans h241
                       exact F_iret hX hE d_Wr_readHead_142 (Or.inr ⟨by decide, rfl, ⟨_, h329, by omega, by omega⟩, ⟨_, _, _, _, _, _, _, _, h245⟩, ⟨_, _, _, h325⟩, ⟨_, _, _, h326⟩, ⟨_, _, _, h327⟩, ⟨_, _, _, h328⟩, (Fr.tr (Fr.tr (Fr.tr (Fr.tr (Fr.tr (Fr.tr (Fr.tr (Fr.tr (Fr.tr (Fr.tr Fr.rf k3 (by decide)) k7 (by decide)) k14 (by decide)) k9 (by decide)) k197 (by decide)) k204 (by decide)) k226 (by decide)) k231 (by decide)) k239 (by decide)) k246 (by decide))⟩))
              · skip
                refine G_bipush hX (by decide) d_Wr_readHead_91 ?_
                first
                  | (exfalso; omega)
                  | (have e1 : hdA g p e mc oc 300 = -2 := by unfold hdA; rw [if_neg (by omega), if_neg (fun q => q hok), if_pos (by omega)]
                     rw [e1] at hE
                     have h330 : f200 53 = ob 9 [.ref (eA E 54), .ref (eA E 55), .ref (eA E 56), .ref (eA E 57), .ref (eA E 58), .ref (eA E 45), .ref (eA E (if wk g p e % 4 = 2 then 45 else 2)), .int (zI ((wS g p e).1)), .int (zI ((wS g p e).2.1)), .int (zI mc), .int x4, .int (zI (wc g p e)), .long l] := (k204 53 (by decide)).trans h196
                     have h331 : f200 54 = ob 1 [u0, .int a0, .int b0] := (k204 54 (by decide)).trans ((k197 54 (by decide)).trans ((k9 54 (by decide)).trans ((k14 54 (by decide)).trans ((k7 54 (by decide)).trans ((k3 54 (by decide)).trans hS0)))))
                     have h332 : f200 55 = ob 1 [u1, .int a1, .int b1] := (k204 55 (by decide)).trans ((k197 55 (by decide)).trans ((k9 55 (by decide)).trans ((k14 55 (by decide)).trans ((k7 55 (by decide)).trans ((k3 55 (by decide)).trans hS1)))))
                     have h333 : f200 56 = ob 1 [u2, .int a2, .int b2] := (k204 56 (by decide)).trans ((k197 56 (by decide)).trans ((k9 56 (by decide)).trans ((k14 56 (by decide)).trans ((k7 56 (by decide)).trans ((k3 56 (by decide)).trans hS2)))))
                     have h334 : f200 57 = ob 1 [u3, .int a3, .int b3] := (k204 57 (by decide)).trans ((k197 57 (by decide)).trans ((k9 57 (by decide)).trans ((k14 57 (by decide)).trans ((k7 57 (by decide)).trans ((k3 57 (by decide)).trans hS3)))))
                     exact F_iret hX hE d_Wr_readHead_93 (Or.inr ⟨by decide, rfl, ⟨_, h205, by omega, by omega⟩, ⟨_, _, _, _, _, _, _, _, h330⟩, ⟨_, _, _, h331⟩, ⟨_, _, _, h332⟩, ⟨_, _, _, h333⟩, ⟨_, _, _, h334⟩, (Fr.tr (Fr.tr (Fr.tr (Fr.tr (Fr.tr (Fr.tr Fr.rf k3 (by decide)) k7 (by decide)) k14 (by decide)) k9 (by decide)) k197 (by decide)) k204 (by decide))⟩))
        · skip
          unfold sOk at hok
          obtain ⟨y1, y2, h9b⟩ := h9b0
          obtain ⟨p9, h9a, h9p⟩ := h9a0
          refine G_cast (st' := [.int (zI 0)]) ?_ rfl rfl rfl rfl
          refine G_if_ne_z hX (tgt := 55) d_Wr_readHead_49 rfl (by omega) (fun c335 => by exfalso; omega) (fun c336 => ?_)
          refine G_bipush hX (by decide) d_Wr_readHead_52 ?_
          first
            | (exfalso; omega)
            | (have e1 : hdA g p e mc oc 300 = -2 := by unfold hdA; rw [if_neg (by omega), if_pos hok]
               rw [e1] at hE
               have h337 : f42 54 = ob 1 [u0, .int a0, .int b0] := (k9 54 (by decide)).trans ((k14 54 (by decide)).trans ((k7 54 (by decide)).trans ((k3 54 (by decide)).trans hS0)))
               have h338 : f42 55 = ob 1 [u1, .int a1, .int b1] := (k9 55 (by decide)).trans ((k14 55 (by decide)).trans ((k7 55 (by decide)).trans ((k3 55 (by decide)).trans hS1)))
               have h339 : f42 56 = ob 1 [u2, .int a2, .int b2] := (k9 56 (by decide)).trans ((k14 56 (by decide)).trans ((k7 56 (by decide)).trans ((k3 56 (by decide)).trans hS2)))
               have h340 : f42 57 = ob 1 [u3, .int a3, .int b3] := (k9 57 (by decide)).trans ((k14 57 (by decide)).trans ((k7 57 (by decide)).trans ((k3 57 (by decide)).trans hS3)))
               exact F_iret hX hE d_Wr_readHead_54 (Or.inr ⟨by decide, rfl, ⟨_, h9a, by omega, by omega⟩, ⟨_, _, _, _, _, _, _, _, h9b⟩, ⟨_, _, _, h337⟩, ⟨_, _, _, h338⟩, ⟨_, _, _, h339⟩, ⟨_, _, _, h340⟩, (Fr.tr (Fr.tr (Fr.tr (Fr.tr Fr.rf k3 (by decide)) k7 (by decide)) k14 (by decide)) k9 (by decide))⟩))
theorem c_Wr_readSourceT (E : EV) (f : Nat → va_E) (g old m : Int → Int) (p e k mc oc st : Int) (v6 : Value) (x1 x2 x4 x5 : Int32) (l : Int64) (hW : f 53 = ob 9 [.ref (eA E 54), .ref (eA E 55), .ref (eA E 56), .ref (eA E 57), .ref (eA E 58), .ref (eA E 47), v6, .int x1, .int x2, .int (zI st), .int x4, .int x5, .long l]) (hg : f 7 = iz E 700 g) (hB : isB g) (hC : isC E f 52 7 p e) (hO : isR E f 49 50 1536 old oc) (hM : isR E f 47 48 1536 m mc) (hb : 0 ≤ p ∧ p ≤ e ∧ e ≤ 700 ∧ 0 ≤ k ∧ k ≤ 2 ∧ 0 ≤ oc ∧ oc ≤ 2000 ∧ 0 ≤ mc ∧ mc ≤ 2000) : CF yn_Wr_readSource cd_Wr_readSource 4 (some (.boolean)) 1 E [.ref (eA E 53), .ref (eA E 52), .int (zI k), .ref (eA E 49)] f (fun r f' => (sOk g e p k mc oc ∧ r = some (.int (zI 1)) ∧ isC E f' 52 7 (sR g e p k).2.2 e ∧ f' 53 = ob 9 [.ref (eA E 54), .ref (eA E 55), .ref (eA E 56), .ref (eA E 57), .ref (eA E 58), .ref (eA E 47), .ref (eA E (if k = 2 then 47 else 49)), .int (zI ((sR g e p k).1)), .int (zI ((sR g e p k).2.1)), .int (zI st), .int x4, .int x5, .long l] ∧ Fr [53, 52] f f') ∨ (¬ sOk g e p k mc oc ∧ r = some (.int (zI 0)) ∧ (∃ p2, isC E f' 52 7 p2 e ∧ 0 ≤ p2 ∧ p2 ≤ e) ∧ (∃ y1 y2 : Int32, f' 53 = ob 9 [.ref (eA E 54), .ref (eA E 55), .ref (eA E 56), .ref (eA E 57), .ref (eA E 58), .ref (eA E 47), .ref (eA E (if k = 2 then 47 else 49)), .int y1, .int y2, .int (zI st), .int x4, .int x5, .long l]) ∧ Fr [53, 52] f f')) := by
  refine CF.of (by decide +kernel) (Nat.le_of_ble_eq_true rfl) fun X hX hE => ?_
  have hX : Ok E X "DeltaFerry$WindowReader" "readSource" cd_Wr_readSource 4 (some (.boolean)) (rl 1) := hX
  refine G_cast (lv' := [(0, .ref (eA E 53)), (1, .ref (eA E 52)), (2, .int (zI k)), (3, .ref (eA E 49))]) ?_ rfl rfl rfl rfl
  have hn1 := num_b (g := g) (e := e) (p := p) hB (by omega)
  have hn2 := num_b (g := g) (e := e) (p := (numL g e 4 p 0).2) hB (by omega)
  refine G_aload_n hX 0 rfl rfl d_Wr_readSource_0 ?_
  refine G_iconst hX d_Wr_readSource_1 ?_
  refine F_put hX fg_Wr_90 fp_Wr_7 d_Wr_readSource_2 53 (fs' := [.ref (eA E 54), .ref (eA E 55), .ref (eA E 56), .ref (eA E 57), .ref (eA E 58), .ref (eA E 47), v6, .int (zI 0), .int x2, .int (zI st), .int x4, .int x5, .long l]) (by decide) hW rfl rfl (Nat.le_of_ble_eq_true rfl) rfl (fun f1 h2 k3 => ?_)
  refine G_aload_n hX 0 rfl rfl d_Wr_readSource_5 ?_
  refine G_iconst hX d_Wr_readSource_6 ?_
  refine F_put hX fg_Wr_93 fp_Wr_8 d_Wr_readSource_7 53 (fs' := [.ref (eA E 54), .ref (eA E 55), .ref (eA E 56), .ref (eA E 57), .ref (eA E 58), .ref (eA E 47), v6, .int (zI 0), .int (zI 0), .int (zI st), .int x4, .int x5, .long l]) (by decide) h2 rfl rfl (Nat.le_of_ble_eq_true rfl) rfl (fun f4 h5 k6 => ?_)
  refine G_aload_n hX 0 rfl rfl d_Wr_readSource_10 ?_
  refine G_iload_n hX 2 rfl rfl d_Wr_readSource_11 ?_
  refine G_iconst hX d_Wr_readSource_12 ?_
  refine G_icmp_ne_z hX (tgt := 23) d_Wr_readSource_13 rfl (by omega) (fun c7 => ?_) (fun c8 => ?_)
  · skip
    refine G_aload_n hX 3 rfl rfl d_Wr_readSource_23 ?_
    refine F_put hX fg_Wr_43 fp_Wr_6 d_Wr_readSource_24 53 (fs' := [.ref (eA E 54), .ref (eA E 55), .ref (eA E 56), .ref (eA E 57), .ref (eA E 58), .ref (eA E 47), .ref (eA E 49), .int (zI 0), .int (zI 0), .int (zI st), .int x4, .int x5, .long l]) (by decide) h5 rfl rfl (Nat.le_of_ble_eq_true rfl) rfl (fun f9 h10 k11 => ?_)
    refine G_iload_n hX 2 rfl rfl d_Wr_readSource_27 ?_
    refine G_if_ne_z hX (tgt := 33) d_Wr_readSource_28 rfl (by omega) (fun c12 => ?_) (fun c13 => ?_)
    · skip
      refine G_aload_n hX 0 rfl rfl d_Wr_readSource_33 ?_
      refine G_aload_n hX 1 rfl rfl d_Wr_readSource_34 ?_
      have h14 : f9 52 = ob 1 [.ref (eA E 7), .int (zI p), .int (zI e)] := (k11 52 (by decide)).trans ((k6 52 (by decide)).trans ((k3 52 (by decide)).trans hC))
      have h15 : f9 7 = iz E 700 g := (k11 7 (by decide)).trans ((k6 7 (by decide)).trans ((k3 7 (by decide)).trans hg))
      refine F_callV hX (st := [.ref (eA E 53)]) (c_Cu_number E f9 52 7 700 g p e (by decide) (by decide) (by decide) h14 h15 (by omega) hB) cm_Cu_number im_Cu_number se_Cu_number rfl ml_Wr_65 d_Wr_readSource_35 (by decide) h14 rfl rfl (Nat.le_of_ble_eq_true rfl) (by decide) ?_
      rintro _ f16 ⟨rfl, h19, k20⟩
      refine G_cast (st' := [.int (zI ((numL g e 4 p 0).1)), .ref (eA E 53)]) ?_ rfl rfl rfl rfl
      have h21 : f16 53 = ob 9 [.ref (eA E 54), .ref (eA E 55), .ref (eA E 56), .ref (eA E 57), .ref (eA E 58), .ref (eA E 47), .ref (eA E 49), .int (zI 0), .int (zI 0), .int (zI st), .int x4, .int x5, .long l] := (k20 53 (by decide)).trans h10
      refine F_put hX fg_Wr_93 fp_Wr_8 d_Wr_readSource_38 53 (fs' := [.ref (eA E 54), .ref (eA E 55), .ref (eA E 56), .ref (eA E 57), .ref (eA E 58), .ref (eA E 47), .ref (eA E 49), .int (zI 0), .int (zI ((numL g e 4 p 0).1)), .int (zI st), .int x4, .int x5, .long l]) (by decide) h21 rfl rfl (Nat.le_of_ble_eq_true rfl) rfl (fun f22 h23 k24 => ?_)
      refine G_aload_n hX 0 rfl rfl d_Wr_readSource_41 ?_
      refine F_get hX fg_Wr_93 d_Wr_readSource_42 53 (by decide) h23 rfl ?_
      refine G_if_ge_z hX (tgt := 50) d_Wr_readSource_45 rfl (by omega) (fun c25 => ?_) (fun c26 => ?_)
      · skip
        refine G_aload_n hX 0 rfl rfl d_Wr_readSource_50 ?_
        refine G_aload_n hX 1 rfl rfl d_Wr_readSource_51 ?_
        have h27 : f22 52 = ob 1 [.ref (eA E 7), .int (zI ((numL g e 4 p 0).2)), .int (zI e)] := (k24 52 (by decide)).trans h19
        have h28 : f22 7 = iz E 700 g := (k24 7 (by decide)).trans ((k20 7 (by decide)).trans h15)
        refine F_callV hX (st := [.ref (eA E 53)]) (c_Cu_number E f22 52 7 700 g ((numL g e 4 p 0).2) e (by decide) (by decide) (by decide) h27 h28 (by omega) hB) cm_Cu_number im_Cu_number se_Cu_number rfl ml_Wr_65 d_Wr_readSource_52 (by decide) h27 rfl rfl (Nat.le_of_ble_eq_true rfl) (by decide) ?_
        rintro _ f29 ⟨rfl, h32, k33⟩
        refine G_cast (st' := [.int (zI ((numL g e 4 ((numL g e 4 p 0).2) 0).1)), .ref (eA E 53)]) ?_ rfl rfl rfl rfl
        have h34 : f29 53 = ob 9 [.ref (eA E 54), .ref (eA E 55), .ref (eA E 56), .ref (eA E 57), .ref (eA E 58), .ref (eA E 47), .ref (eA E 49), .int (zI 0), .int (zI ((numL g e 4 p 0).1)), .int (zI st), .int x4, .int x5, .long l] := (k33 53 (by decide)).trans h23
        refine F_put hX fg_Wr_90 fp_Wr_7 d_Wr_readSource_55 53 (fs' := [.ref (eA E 54), .ref (eA E 55), .ref (eA E 56), .ref (eA E 57), .ref (eA E 58), .ref (eA E 47), .ref (eA E 49), .int (zI ((numL g e 4 ((numL g e 4 p 0).2) 0).1)), .int (zI ((numL g e 4 p 0).1)), .int (zI st), .int x4, .int x5, .long l]) (by decide) h34 rfl rfl (Nat.le_of_ble_eq_true rfl) rfl (fun f35 h36 k37 => ?_)
        refine G_aload_n hX 0 rfl rfl d_Wr_readSource_58 ?_
        refine F_get hX fg_Wr_90 d_Wr_readSource_59 53 (by decide) h36 rfl ?_
        refine G_if_lt_z hX (tgt := 88) d_Wr_readSource_62 rfl (by omega) (fun c38 => ?_) (fun c39 => ?_)
        · skip
          refine G_iconst hX d_Wr_readSource_88 ?_
          first
            | (exfalso; omega)
            | (have h40 : f35 52 = ob 1 [.ref (eA E 7), .int (zI ((numL g e 4 ((numL g e 4 p 0).2) 0).2)), .int (zI e)] := (k37 52 (by decide)).trans h32
               have e2 : ¬ sOk g e p k mc oc := by unfold sOk; rw [if_neg (by omega)]; omega
               exact F_zret hX hE (by decide) d_Wr_readSource_89 (Or.inr ⟨e2, rfl, ⟨_, h40, by omega, by omega⟩, ⟨_, _, (by rw [if_neg (by omega)]; exact h36)⟩, (Fr.tr (Fr.tr (Fr.tr (Fr.tr (Fr.tr (Fr.tr (Fr.tr Fr.rf k3 (by decide)) k6 (by decide)) k11 (by decide)) k20 (by decide)) k24 (by decide)) k33 (by decide)) k37 (by decide))⟩))
        · skip
          refine G_aload_n hX 0 rfl rfl d_Wr_readSource_65 ?_
          refine F_get hX fg_Wr_90 d_Wr_readSource_66 53 (by decide) h36 rfl ?_
          refine G_aload_n hX 0 rfl rfl d_Wr_readSource_69 ?_
          refine F_get hX fg_Wr_93 d_Wr_readSource_70 53 (by decide) h36 rfl ?_
          refine G_iadd_z hX d_Wr_readSource_73 ?_
          refine G_aload_n hX 0 rfl rfl d_Wr_readSource_74 ?_
          refine F_get hX fg_Wr_43 d_Wr_readSource_75 53 (by decide) h36 rfl ?_
          have h41 : f35 49 = ob 6 [.ref (eA E 50), .int (zI oc)] := (k37 49 (by decide)).trans ((k33 49 (by decide)).trans ((k24 49 (by decide)).trans ((k20 49 (by decide)).trans ((k11 49 (by decide)).trans ((k6 49 (by decide)).trans ((k3 49 (by decide)).trans hO.1))))))
          refine F_get hX fg_Wr_46 d_Wr_readSource_78 49 (by decide) h41 rfl ?_
          refine G_icmp_gt_z hX (tgt := 88) d_Wr_readSource_81 rfl (by omega) (fun c42 => ?_) (fun c43 => ?_)
          · skip
            refine G_iconst hX d_Wr_readSource_88 ?_
            first
              | (exfalso; omega)
              | (have h44 : f35 52 = ob 1 [.ref (eA E 7), .int (zI ((numL g e 4 ((numL g e 4 p 0).2) 0).2)), .int (zI e)] := (k37 52 (by decide)).trans h32
                 have e2 : ¬ sOk g e p k mc oc := by unfold sOk; rw [if_neg (by omega)]; omega
                 exact F_zret hX hE (by decide) d_Wr_readSource_89 (Or.inr ⟨e2, rfl, ⟨_, h44, by omega, by omega⟩, ⟨_, _, (by rw [if_neg (by omega)]; exact h36)⟩, (Fr.tr (Fr.tr (Fr.tr (Fr.tr (Fr.tr (Fr.tr (Fr.tr Fr.rf k3 (by decide)) k6 (by decide)) k11 (by decide)) k20 (by decide)) k24 (by decide)) k33 (by decide)) k37 (by decide))⟩))
          · skip
            refine G_iconst hX d_Wr_readSource_84 ?_
            refine G_goto hX (tgt := 89) d_Wr_readSource_85 rfl ?_
            first
              | (exfalso; omega)
              | (have h45 : f35 52 = ob 1 [.ref (eA E 7), .int (zI ((numL g e 4 ((numL g e 4 p 0).2) 0).2)), .int (zI e)] := (k37 52 (by decide)).trans h32
                 have e1 : sR g e p k = ((numL g e 4 (numL g e 4 p 0).2 0).1, (numL g e 4 p 0).1, (numL g e 4 (numL g e 4 p 0).2 0).2) := by unfold sR; rw [if_neg (by omega)]
                 have e2 : sOk g e p k mc oc := by unfold sOk; exact Or.inr ⟨by omega, by omega, by rw [if_neg (by omega)]; omega⟩
                 rw [e1] at hE
                 exact F_zret hX hE (by decide) d_Wr_readSource_89 (Or.inl ⟨e2, rfl, h45, (by rw [if_neg (by omega)]; exact h36), (Fr.tr (Fr.tr (Fr.tr (Fr.tr (Fr.tr (Fr.tr (Fr.tr Fr.rf k3 (by decide)) k6 (by decide)) k11 (by decide)) k20 (by decide)) k24 (by decide)) k33 (by decide)) k37 (by decide))⟩))
      · skip
        refine G_iconst hX d_Wr_readSource_48 ?_
        first
          | (exfalso; omega)
          | (have h46 : f22 52 = ob 1 [.ref (eA E 7), .int (zI ((numL g e 4 p 0).2)), .int (zI e)] := (k24 52 (by decide)).trans h19
             have e2 : ¬ sOk g e p k mc oc := by unfold sOk; rw [if_neg (by omega)]; omega
             exact F_zret hX hE (by decide) d_Wr_readSource_49 (Or.inr ⟨e2, rfl, ⟨_, h46, by omega, by omega⟩, ⟨_, _, (by rw [if_neg (by omega)]; exact h23)⟩, (Fr.tr (Fr.tr (Fr.tr (Fr.tr (Fr.tr Fr.rf k3 (by decide)) k6 (by decide)) k11 (by decide)) k20 (by decide)) k24 (by decide))⟩))
    · skip
      refine G_iconst hX d_Wr_readSource_31 ?_
      first
        | (exfalso; omega)
        | (have h47 : f9 52 = ob 1 [.ref (eA E 7), .int (zI p), .int (zI e)] := (k11 52 (by decide)).trans ((k6 52 (by decide)).trans ((k3 52 (by decide)).trans hC))
           have e1 : sR g e p k = (0, 0, p) := by unfold sR; rw [if_pos (by omega)]
           have e2 : sOk g e p k mc oc := by unfold sOk; exact Or.inl (by omega)
           rw [e1] at hE
           exact F_zret hX hE (by decide) d_Wr_readSource_32 (Or.inl ⟨e2, rfl, h47, (by rw [if_neg (by omega)]; exact h10), (Fr.tr (Fr.tr (Fr.tr Fr.rf k3 (by decide)) k6 (by decide)) k11 (by decide))⟩))
  · skip
    refine G_aload_n hX 0 rfl rfl d_Wr_readSource_16 ?_
    refine F_get hX fg_Wr_39 d_Wr_readSource_17 53 (by decide) h5 rfl ?_
    refine G_goto hX (tgt := 24) d_Wr_readSource_20 rfl ?_
    refine F_put hX fg_Wr_43 fp_Wr_6 d_Wr_readSource_24 53 (fs' := [.ref (eA E 54), .ref (eA E 55), .ref (eA E 56), .ref (eA E 57), .ref (eA E 58), .ref (eA E 47), .ref (eA E 47), .int (zI 0), .int (zI 0), .int (zI st), .int x4, .int x5, .long l]) (by decide) h5 rfl rfl (Nat.le_of_ble_eq_true rfl) rfl (fun f48 h49 k50 => ?_)
    refine G_iload_n hX 2 rfl rfl d_Wr_readSource_27 ?_
    refine G_if_ne_z hX (tgt := 33) d_Wr_readSource_28 rfl (by omega) (fun c51 => ?_) (fun c52 => ?_)
    · skip
      refine G_aload_n hX 0 rfl rfl d_Wr_readSource_33 ?_
      refine G_aload_n hX 1 rfl rfl d_Wr_readSource_34 ?_
      have h53 : f48 52 = ob 1 [.ref (eA E 7), .int (zI p), .int (zI e)] := (k50 52 (by decide)).trans ((k6 52 (by decide)).trans ((k3 52 (by decide)).trans hC))
      have h54 : f48 7 = iz E 700 g := (k50 7 (by decide)).trans ((k6 7 (by decide)).trans ((k3 7 (by decide)).trans hg))
      refine F_callV hX (st := [.ref (eA E 53)]) (c_Cu_number E f48 52 7 700 g p e (by decide) (by decide) (by decide) h53 h54 (by omega) hB) cm_Cu_number im_Cu_number se_Cu_number rfl ml_Wr_65 d_Wr_readSource_35 (by decide) h53 rfl rfl (Nat.le_of_ble_eq_true rfl) (by decide) ?_
      rintro _ f55 ⟨rfl, h58, k59⟩
      refine G_cast (st' := [.int (zI ((numL g e 4 p 0).1)), .ref (eA E 53)]) ?_ rfl rfl rfl rfl
      have h60 : f55 53 = ob 9 [.ref (eA E 54), .ref (eA E 55), .ref (eA E 56), .ref (eA E 57), .ref (eA E 58), .ref (eA E 47), .ref (eA E 47), .int (zI 0), .int (zI 0), .int (zI st), .int x4, .int x5, .long l] := (k59 53 (by decide)).trans h49
      refine F_put hX fg_Wr_93 fp_Wr_8 d_Wr_readSource_38 53 (fs' := [.ref (eA E 54), .ref (eA E 55), .ref (eA E 56), .ref (eA E 57), .ref (eA E 58), .ref (eA E 47), .ref (eA E 47), .int (zI 0), .int (zI ((numL g e 4 p 0).1)), .int (zI st), .int x4, .int x5, .long l]) (by decide) h60 rfl rfl (Nat.le_of_ble_eq_true rfl) rfl (fun f61 h62 k63 => ?_)
      refine G_aload_n hX 0 rfl rfl d_Wr_readSource_41 ?_
      refine F_get hX fg_Wr_93 d_Wr_readSource_42 53 (by decide) h62 rfl ?_
      refine G_if_ge_z hX (tgt := 50) d_Wr_readSource_45 rfl (by omega) (fun c64 => ?_) (fun c65 => ?_)
      · skip
        refine G_aload_n hX 0 rfl rfl d_Wr_readSource_50 ?_
        refine G_aload_n hX 1 rfl rfl d_Wr_readSource_51 ?_
        have h66 : f61 52 = ob 1 [.ref (eA E 7), .int (zI ((numL g e 4 p 0).2)), .int (zI e)] := (k63 52 (by decide)).trans h58
        have h67 : f61 7 = iz E 700 g := (k63 7 (by decide)).trans ((k59 7 (by decide)).trans h54)
        refine F_callV hX (st := [.ref (eA E 53)]) (c_Cu_number E f61 52 7 700 g ((numL g e 4 p 0).2) e (by decide) (by decide) (by decide) h66 h67 (by omega) hB) cm_Cu_number im_Cu_number se_Cu_number rfl ml_Wr_65 d_Wr_readSource_52 (by decide) h66 rfl rfl (Nat.le_of_ble_eq_true rfl) (by decide) ?_
        rintro _ f68 ⟨rfl, h71, k72⟩
        refine G_cast (st' := [.int (zI ((numL g e 4 ((numL g e 4 p 0).2) 0).1)), .ref (eA E 53)]) ?_ rfl rfl rfl rfl
        have h73 : f68 53 = ob 9 [.ref (eA E 54), .ref (eA E 55), .ref (eA E 56), .ref (eA E 57), .ref (eA E 58), .ref (eA E 47), .ref (eA E 47), .int (zI 0), .int (zI ((numL g e 4 p 0).1)), .int (zI st), .int x4, .int x5, .long l] := (k72 53 (by decide)).trans h62
        refine F_put hX fg_Wr_90 fp_Wr_7 d_Wr_readSource_55 53 (fs' := [.ref (eA E 54), .ref (eA E 55), .ref (eA E 56), .ref (eA E 57), .ref (eA E 58), .ref (eA E 47), .ref (eA E 47), .int (zI ((numL g e 4 ((numL g e 4 p 0).2) 0).1)), .int (zI ((numL g e 4 p 0).1)), .int (zI st), .int x4, .int x5, .long l]) (by decide) h73 rfl rfl (Nat.le_of_ble_eq_true rfl) rfl (fun f74 h75 k76 => ?_)
        refine G_aload_n hX 0 rfl rfl d_Wr_readSource_58 ?_
        refine F_get hX fg_Wr_90 d_Wr_readSource_59 53 (by decide) h75 rfl ?_
        refine G_if_lt_z hX (tgt := 88) d_Wr_readSource_62 rfl (by omega) (fun c77 => ?_) (fun c78 => ?_)
        · skip
          refine G_iconst hX d_Wr_readSource_88 ?_
          first
            | (exfalso; omega)
            | (have h79 : f74 52 = ob 1 [.ref (eA E 7), .int (zI ((numL g e 4 ((numL g e 4 p 0).2) 0).2)), .int (zI e)] := (k76 52 (by decide)).trans h71
               have e2 : ¬ sOk g e p k mc oc := by unfold sOk; rw [if_pos (by omega)]; omega
               exact F_zret hX hE (by decide) d_Wr_readSource_89 (Or.inr ⟨e2, rfl, ⟨_, h79, by omega, by omega⟩, ⟨_, _, (by rw [if_pos (by omega)]; exact h75)⟩, (Fr.tr (Fr.tr (Fr.tr (Fr.tr (Fr.tr (Fr.tr (Fr.tr Fr.rf k3 (by decide)) k6 (by decide)) k50 (by decide)) k59 (by decide)) k63 (by decide)) k72 (by decide)) k76 (by decide))⟩))
        · skip
          refine G_aload_n hX 0 rfl rfl d_Wr_readSource_65 ?_
          refine F_get hX fg_Wr_90 d_Wr_readSource_66 53 (by decide) h75 rfl ?_
          refine G_aload_n hX 0 rfl rfl d_Wr_readSource_69 ?_
          refine F_get hX fg_Wr_93 d_Wr_readSource_70 53 (by decide) h75 rfl ?_
          refine G_iadd_z hX d_Wr_readSource_73 ?_
          refine G_aload_n hX 0 rfl rfl d_Wr_readSource_74 ?_
          refine F_get hX fg_Wr_43 d_Wr_readSource_75 53 (by decide) h75 rfl ?_
          have h80 : f74 47 = ob 6 [.ref (eA E 48), .int (zI mc)] := (k76 47 (by decide)).trans ((k72 47 (by decide)).trans ((k63 47 (by decide)).trans ((k59 47 (by decide)).trans ((k50 47 (by decide)).trans ((k6 47 (by decide)).trans ((k3 47 (by decide)).trans hM.1))))))
          refine F_get hX fg_Wr_46 d_Wr_readSource_78 47 (by decide) h80 rfl ?_
          refine G_icmp_gt_z hX (tgt := 88) d_Wr_readSource_81 rfl (by omega) (fun c81 => ?_) (fun c82 => ?_)
          · skip
            refine G_iconst hX d_Wr_readSource_88 ?_
            first
              | (exfalso; omega)
              | (have h83 : f74 52 = ob 1 [.ref (eA E 7), .int (zI ((numL g e 4 ((numL g e 4 p 0).2) 0).2)), .int (zI e)] := (k76 52 (by decide)).trans h71
                 have e2 : ¬ sOk g e p k mc oc := by unfold sOk; rw [if_pos (by omega)]; omega
                 exact F_zret hX hE (by decide) d_Wr_readSource_89 (Or.inr ⟨e2, rfl, ⟨_, h83, by omega, by omega⟩, ⟨_, _, (by rw [if_pos (by omega)]; exact h75)⟩, (Fr.tr (Fr.tr (Fr.tr (Fr.tr (Fr.tr (Fr.tr (Fr.tr Fr.rf k3 (by decide)) k6 (by decide)) k50 (by decide)) k59 (by decide)) k63 (by decide)) k72 (by decide)) k76 (by decide))⟩))
          · skip
            refine G_iconst hX d_Wr_readSource_84 ?_
            refine G_goto hX (tgt := 89) d_Wr_readSource_85 rfl ?_
            first
              | (exfalso; omega)
              | (have h84 : f74 52 = ob 1 [.ref (eA E 7), .int (zI ((numL g e 4 ((numL g e 4 p 0).2) 0).2)), .int (zI e)] := (k76 52 (by decide)).trans h71
                 have e1 : sR g e p k = ((numL g e 4 (numL g e 4 p 0).2 0).1, (numL g e 4 p 0).1, (numL g e 4 (numL g e 4 p 0).2 0).2) := by unfold sR; rw [if_neg (by omega)]
                 have e2 : sOk g e p k mc oc := by unfold sOk; exact Or.inr ⟨by omega, by omega, by rw [if_pos (by omega)]; omega⟩
                 rw [e1] at hE
                 exact F_zret hX hE (by decide) d_Wr_readSource_89 (Or.inl ⟨e2, rfl, h84, (by rw [if_pos (by omega)]; exact h75), (Fr.tr (Fr.tr (Fr.tr (Fr.tr (Fr.tr (Fr.tr (Fr.tr Fr.rf k3 (by decide)) k6 (by decide)) k50 (by decide)) k59 (by decide)) k63 (by decide)) k72 (by decide)) k76 (by decide))⟩))
      · skip
        refine G_iconst hX d_Wr_readSource_48 ?_
        first
          | (exfalso; omega)
          | (have h85 : f61 52 = ob 1 [.ref (eA E 7), .int (zI ((numL g e 4 p 0).2)), .int (zI e)] := (k63 52 (by decide)).trans h58
             have e2 : ¬ sOk g e p k mc oc := by unfold sOk; rw [if_pos (by omega)]; omega
             exact F_zret hX hE (by decide) d_Wr_readSource_49 (Or.inr ⟨e2, rfl, ⟨_, h85, by omega, by omega⟩, ⟨_, _, (by rw [if_pos (by omega)]; exact h62)⟩, (Fr.tr (Fr.tr (Fr.tr (Fr.tr (Fr.tr Fr.rf k3 (by decide)) k6 (by decide)) k50 (by decide)) k59 (by decide)) k63 (by decide))⟩))
    · skip
      refine G_iconst hX d_Wr_readSource_31 ?_
      first
        | (exfalso; omega)
        | (have h86 : f48 52 = ob 1 [.ref (eA E 7), .int (zI p), .int (zI e)] := (k50 52 (by decide)).trans ((k6 52 (by decide)).trans ((k3 52 (by decide)).trans hC))
           have e1 : sR g e p k = (0, 0, p) := by unfold sR; rw [if_pos (by omega)]
           have e2 : sOk g e p k mc oc := by unfold sOk; exact Or.inl (by omega)
           rw [e1] at hE
           exact F_zret hX hE (by decide) d_Wr_readSource_32 (Or.inl ⟨e2, rfl, h86, (by rw [if_pos (by omega)]; exact h49), (Fr.tr (Fr.tr (Fr.tr Fr.rf k3 (by decide)) k6 (by decide)) k50 (by decide))⟩))
theorem c_Wr_readHeadT (E : EV) (f : Nat → va_E) (g old m : Int → Int) (p e mc oc : Int)  (hW0 : wrS E f) (hg : f 7 = iz E 700 g) (hB : isB g) (hC : isC E f 52 7 p e) (hT0 : cuS E f 54) (hT1 : cuS E f 55) (hT2 : cuS E f 56) (hT3 : cuS E f 57) (hO : isR E f 49 50 1536 old oc) (hM : isR E f 47 48 1536 m mc) (hb : 0 ≤ p ∧ p ≤ e ∧ e ≤ 700 ∧ 0 ≤ oc ∧ oc ≤ 1536 ∧ 0 ≤ mc ∧ mc ≤ 1536) : CF yn_Wr_readHead cd_Wr_readHead 7 (some (.int)) 2 E [.ref (eA E 53), .ref (eA E 52), .ref (eA E 49), .ref (eA E 47)] f (fun r f' => (hdA g p e mc oc 1536 = 0 ∧ r = some (.int (zI 0)) ∧ isC E f' 52 7 (wE g p e) e ∧ isWrT E f' (hdK g p e mc) ∧ isC E f' 55 7 (kB (hdK g p e mc)) (kD (hdK g p e mc)) ∧ isC E f' 56 7 (kD (hdK g p e mc)) (kC (hdK g p e mc)) ∧ isC E f' 57 7 (kC (hdK g p e mc)) (kA (hdK g p e mc)) ∧ cuS E f' 54 ∧ Fr [53, 54, 55, 56, 57, 52] f f') ∨ (¬ hdA g p e mc oc 1536 = 0 ∧ r = some (.int (zI (hdA g p e mc oc 1536))) ∧ (∃ p2, isC E f' 52 7 p2 e ∧ 0 ≤ p2 ∧ p2 ≤ e) ∧ wrS E f' ∧ cuS E f' 54 ∧ cuS E f' 55 ∧ cuS E f' 56 ∧ cuS E f' 57 ∧ Fr [53, 54, 55, 56, 57, 52] f f')) := by
  refine CF.of (by decide +kernel) (Nat.le_of_ble_eq_true rfl) fun X hX hE => ?_
  have hX : Ok E X "DeltaFerry$WindowReader" "readHead" cd_Wr_readHead 7 (some (.int)) (rl 2) := hX
  refine G_cast (lv' := [(0, .ref (eA E 53)), (1, .ref (eA E 52)), (2, .ref (eA E 49)), (3, .ref (eA E 47))]) ?_ rfl rfl rfl rfl
  obtain ⟨v5, v6, x1, x2, x3, x4, x5, l, hW⟩ := hW0
  obtain ⟨u0, a0, b0, hS0⟩ := hT0
  obtain ⟨u1, a1, b1, hS1⟩ := hT1
  obtain ⟨u2, a2, b2, hS2⟩ := hT2
  obtain ⟨u3, a3, b3, hS3⟩ := hT3
  have hxb := nxV_b hB p e
  have hxp : p ≤ nxP p e ∧ nxP p e ≤ e := by unfold nxP; split <;> omega
  refine G_aload_n hX 0 rfl rfl d_Wr_readHead_0 ?_
  refine G_aload_n hX 3 rfl rfl d_Wr_readHead_1 ?_
  refine F_put hX fg_Wr_39 fp_Wr_5 d_Wr_readHead_2 53 (fs' := [.ref (eA E 54), .ref (eA E 55), .ref (eA E 56), .ref (eA E 57), .ref (eA E 58), .ref (eA E 47), v6, .int x1, .int x2, .int x3, .int x4, .int x5, .long l]) (by decide) hW rfl rfl (Nat.le_of_ble_eq_true rfl) rfl (fun f1 h2 k3 => ?_)
  refine G_aload_n hX 0 rfl rfl d_Wr_readHead_5 ?_
  refine G_aload_n hX 3 rfl rfl d_Wr_readHead_6 ?_
  have h4 : f1 47 = ob 6 [.ref (eA E 48), .int (zI mc)] := (k3 47 (by decide)).trans hM.1
  refine F_get hX fg_Wr_46 d_Wr_readHead_7 47 (by decide) h4 rfl ?_
  refine F_put hX fg_Wr_50 fp_Wr_9 d_Wr_readHead_10 53 (fs' := [.ref (eA E 54), .ref (eA E 55), .ref (eA E 56), .ref (eA E 57), .ref (eA E 58), .ref (eA E 47), v6, .int x1, .int x2, .int (zI mc), .int x4, .int x5, .long l]) (by decide) h2 rfl rfl (Nat.le_of_ble_eq_true rfl) rfl (fun f5 h6 k7 => ?_)
  refine G_aload_n hX 1 rfl rfl d_Wr_readHead_13 ?_
  have h8 : f5 52 = ob 1 [.ref (eA E 7), .int (zI p), .int (zI e)] := (k7 52 (by decide)).trans ((k3 52 (by decide)).trans hC)
  have h9 : f5 7 = iz E 700 g := (k7 7 (by decide)).trans ((k3 7 (by decide)).trans hg)
  refine F_callV hX (st := []) (c_Cu_next E f5 52 7 700 g p e (by decide) (by decide) (by decide) h8 h9 (by omega)) cm_Cu_next im_Cu_next se_Cu_next rfl ml_Wr_53 d_Wr_readHead_14 (by decide) h8 rfl rfl (Nat.le_of_ble_eq_true rfl) (by decide) ?_
  rintro _ f10 ⟨rfl, h13, k14⟩
  refine G_cast (st' := [.int (zI (nxV g p e))]) ?_ rfl rfl rfl rfl
  refine G_top (show zI (nxV g p e) = zI (wk g p e) from rfl) ?_
  have hwk : -1 ≤ wk g p e ∧ wk g p e < 256 := hxb
  refine G_istore hX (lv' := [(4, .int (zI (wk g p e))), (0, .ref (eA E 53)), (1, .ref (eA E 52)), (2, .ref (eA E 49)), (3, .ref (eA E 47))]) (by decide) rfl d_Wr_readHead_17 ?_
  refine G_iload hX 0 rfl d_Wr_readHead_19 ?_
  refine G_if_lt_z hX (tgt := 52) d_Wr_readHead_21 rfl (by omega) (fun c15 => ?_) (fun c16 => ?_)
  · skip
    refine G_bipush hX (by decide) d_Wr_readHead_52 ?_
    first
      | (exfalso; omega)
      | (have e1 : hdA g p e mc oc 1536 = -2 := by unfold hdA; rw [if_pos (by omega)]
         rw [e1] at hE
         have h17 : f10 53 = ob 9 [.ref (eA E 54), .ref (eA E 55), .ref (eA E 56), .ref (eA E 57), .ref (eA E 58), .ref (eA E 47), v6, .int x1, .int x2, .int (zI mc), .int x4, .int x5, .long l] := (k14 53 (by decide)).trans h6
         have h18 : f10 54 = ob 1 [u0, .int a0, .int b0] := (k14 54 (by decide)).trans ((k7 54 (by decide)).trans ((k3 54 (by decide)).trans hS0))
         have h19 : f10 55 = ob 1 [u1, .int a1, .int b1] := (k14 55 (by decide)).trans ((k7 55 (by decide)).trans ((k3 55 (by decide)).trans hS1))
         have h20 : f10 56 = ob 1 [u2, .int a2, .int b2] := (k14 56 (by decide)).trans ((k7 56 (by decide)).trans ((k3 56 (by decide)).trans hS2))
         have h21 : f10 57 = ob 1 [u3, .int a3, .int b3] := (k14 57 (by decide)).trans ((k7 57 (by decide)).trans ((k3 57 (by decide)).trans hS3))
         exact F_iret hX hE d_Wr_readHead_54 (Or.inr ⟨by decide, rfl, ⟨_, h13, by omega, by omega⟩, ⟨_, _, _, _, _, _, _, _, h17⟩, ⟨_, _, _, h18⟩, ⟨_, _, _, h19⟩, ⟨_, _, _, h20⟩, ⟨_, _, _, h21⟩, (Fr.tr (Fr.tr (Fr.tr Fr.rf k3 (by decide)) k7 (by decide)) k14 (by decide))⟩))
  · skip
    refine G_iload hX 0 rfl d_Wr_readHead_24 ?_
    refine G_bipush hX (by decide) d_Wr_readHead_26 ?_
    refine G_icmp_gt_z hX (tgt := 52) d_Wr_readHead_28 rfl (by omega) (fun c22 => ?_) (fun c23 => ?_)
    · skip
      refine G_bipush hX (by decide) d_Wr_readHead_52 ?_
      first
        | (exfalso; omega)
        | (have e1 : hdA g p e mc oc 1536 = -2 := by unfold hdA; rw [if_pos (by omega)]
           rw [e1] at hE
           have h24 : f10 53 = ob 9 [.ref (eA E 54), .ref (eA E 55), .ref (eA E 56), .ref (eA E 57), .ref (eA E 58), .ref (eA E 47), v6, .int x1, .int x2, .int (zI mc), .int x4, .int x5, .long l] := (k14 53 (by decide)).trans h6
           have h25 : f10 54 = ob 1 [u0, .int a0, .int b0] := (k14 54 (by decide)).trans ((k7 54 (by decide)).trans ((k3 54 (by decide)).trans hS0))
           have h26 : f10 55 = ob 1 [u1, .int a1, .int b1] := (k14 55 (by decide)).trans ((k7 55 (by decide)).trans ((k3 55 (by decide)).trans hS1))
           have h27 : f10 56 = ob 1 [u2, .int a2, .int b2] := (k14 56 (by decide)).trans ((k7 56 (by decide)).trans ((k3 56 (by decide)).trans hS2))
           have h28 : f10 57 = ob 1 [u3, .int a3, .int b3] := (k14 57 (by decide)).trans ((k7 57 (by decide)).trans ((k3 57 (by decide)).trans hS3))
           exact F_iret hX hE d_Wr_readHead_54 (Or.inr ⟨by decide, rfl, ⟨_, h13, by omega, by omega⟩, ⟨_, _, _, _, _, _, _, _, h24⟩, ⟨_, _, _, h25⟩, ⟨_, _, _, h26⟩, ⟨_, _, _, h27⟩, ⟨_, _, _, h28⟩, (Fr.tr (Fr.tr (Fr.tr Fr.rf k3 (by decide)) k7 (by decide)) k14 (by decide))⟩))
    · skip
      refine G_iload hX 0 rfl d_Wr_readHead_31 ?_
      refine G_iconst hX d_Wr_readHead_33 ?_
      refine G_iand hX d_Wr_readHead_34 ?_
      refine G_top (show (zI (wk g p e) &&& zI 3) = zI (wk g p e % 4) from zI_and3 _) ?_
      refine G_iconst hX d_Wr_readHead_35 ?_
      refine G_icmp_eq_z hX (tgt := 52) d_Wr_readHead_36 rfl (by omega) (fun c29 => ?_) (fun c30 => ?_)
      · skip
        refine G_bipush hX (by decide) d_Wr_readHead_52 ?_
        first
          | (exfalso; omega)
          | (have e1 : hdA g p e mc oc 1536 = -2 := by unfold hdA; rw [if_pos (by omega)]
             rw [e1] at hE
             have h31 : f10 53 = ob 9 [.ref (eA E 54), .ref (eA E 55), .ref (eA E 56), .ref (eA E 57), .ref (eA E 58), .ref (eA E 47), v6, .int x1, .int x2, .int (zI mc), .int x4, .int x5, .long l] := (k14 53 (by decide)).trans h6
             have h32 : f10 54 = ob 1 [u0, .int a0, .int b0] := (k14 54 (by decide)).trans ((k7 54 (by decide)).trans ((k3 54 (by decide)).trans hS0))
             have h33 : f10 55 = ob 1 [u1, .int a1, .int b1] := (k14 55 (by decide)).trans ((k7 55 (by decide)).trans ((k3 55 (by decide)).trans hS1))
             have h34 : f10 56 = ob 1 [u2, .int a2, .int b2] := (k14 56 (by decide)).trans ((k7 56 (by decide)).trans ((k3 56 (by decide)).trans hS2))
             have h35 : f10 57 = ob 1 [u3, .int a3, .int b3] := (k14 57 (by decide)).trans ((k7 57 (by decide)).trans ((k3 57 (by decide)).trans hS3))
             exact F_iret hX hE d_Wr_readHead_54 (Or.inr ⟨by decide, rfl, ⟨_, h13, by omega, by omega⟩, ⟨_, _, _, _, _, _, _, _, h31⟩, ⟨_, _, _, h32⟩, ⟨_, _, _, h33⟩, ⟨_, _, _, h34⟩, ⟨_, _, _, h35⟩, (Fr.tr (Fr.tr (Fr.tr Fr.rf k3 (by decide)) k7 (by decide)) k14 (by decide))⟩))
      · skip
        refine G_aload_n hX 1 rfl rfl d_Wr_readHead_39 ?_
        refine G_aload_n hX 2 rfl rfl d_Wr_readHead_40 ?_
        refine G_iload hX 0 rfl d_Wr_readHead_41 ?_
        refine G_iconst hX d_Wr_readHead_43 ?_
        refine G_iand hX d_Wr_readHead_44 ?_
        refine G_top (show (zI (wk g p e) &&& zI 3) = zI (wk g p e % 4) from zI_and3 _) ?_
        refine G_aload_n hX 3 rfl rfl d_Wr_readHead_45 ?_
        have h36 : f10 53 = ob 9 [.ref (eA E 54), .ref (eA E 55), .ref (eA E 56), .ref (eA E 57), .ref (eA E 58), .ref (eA E 47), v6, .int x1, .int x2, .int (zI mc), .int x4, .int x5, .long l] := (k14 53 (by decide)).trans h6
        have h37 : f10 7 = iz E 700 g := (k14 7 (by decide)).trans h9
        have h38 : f10 49 = ob 6 [.ref (eA E 50), .int (zI oc)] := (k14 49 (by decide)).trans ((k7 49 (by decide)).trans ((k3 49 (by decide)).trans hO.1))
        have h39 : f10 50 = iz E 1536 old := (k14 50 (by decide)).trans ((k7 50 (by decide)).trans ((k3 50 (by decide)).trans hO.2))
        have h40 : f10 47 = ob 6 [.ref (eA E 48), .int (zI mc)] := (k14 47 (by decide)).trans ((k7 47 (by decide)).trans h4)
        have h41 : f10 48 = iz E 1536 m := (k14 48 (by decide)).trans ((k7 48 (by decide)).trans ((k3 48 (by decide)).trans hM.2))
        refine F_callV hX (st := []) (c_Wr_readSourceT E f10 g old m (nxP p e) e (wk g p e % 4) mc oc mc v6 x1 x2 x4 x5 l h36 h37 hB h13 ⟨h38, h39⟩ ⟨h40, h41⟩ (by omega)) cm_Wr_readSource im_Wr_readSource se_Wr_readSource rfl ml_Wr_57 d_Wr_readHead_46 (by decide) h36 rfl rfl (Nat.le_of_ble_eq_true rfl) (by decide) ?_
        rintro _ f42 (⟨hok, rfl, h9a, h9b, k9⟩ | ⟨hok, rfl, h9a0, h9b0, k9⟩)
        · skip
          have h47 : f42 52 = ob 1 [.ref (eA E 7), .int (zI ((wS g p e).2.2)), .int (zI e)] := h9a
          have h48 : f42 53 = ob 9 [.ref (eA E 54), .ref (eA E 55), .ref (eA E 56), .ref (eA E 57), .ref (eA E 58), .ref (eA E 47), .ref (eA E (if wk g p e % 4 = 2 then 47 else 49)), .int (zI ((wS g p e).1)), .int (zI ((wS g p e).2.1)), .int (zI mc), .int x4, .int x5, .long l] := h9b
          unfold sOk at hok
          have hsb : nxP p e ≤ (wS g p e).2.2 ∧ (wS g p e).2.2 ≤ e := sR_b hB hxp.2
          have hyb : -1 ≤ (wY g p e).1 ∧ (wY g p e).1 < 268435456 ∧ (wS g p e).2.2 ≤ (wY g p e).2 ∧ (wY g p e).2 ≤ e := num_b hB hsb.2
          refine G_cast (st' := [.int (zI 1)]) ?_ rfl rfl rfl rfl
          refine G_if_ne_z hX (tgt := 55) d_Wr_readHead_49 rfl (by omega) (fun c49 => ?_) (fun c50 => by exfalso; omega)
          refine G_aload_n hX 1 rfl rfl d_Wr_readHead_55 ?_
          refine G_iload hX 0 rfl d_Wr_readHead_56 ?_
          refine G_iconst hX d_Wr_readHead_58 ?_
          refine G_iand hX d_Wr_readHead_59 ?_
          by_cases h4 : wk g p e < 4
          · skip
            refine G_top (show (zI (wk g p e) &&& zI 4) = zI 0 from by rw [show wk g p e = wk g p e from rfl]; exact zI_and4z h4 (by omega)) ?_
            refine G_if_eq_z hX (tgt := 67) d_Wr_readHead_60 rfl (by omega) (fun c51 => ?_) (fun c52 => by exfalso; omega)
            refine G_iconst hX d_Wr_readHead_67 ?_
            refine G_top (show zI 0 = zI (wc g p e) from by unfold wc; rw [show wk g p e / 4 = 0 by omega]) ?_
            refine F_put hX fg_Wr_61 fp_Wr_11 d_Wr_readHead_68 53 (fs' := [.ref (eA E 54), .ref (eA E 55), .ref (eA E 56), .ref (eA E 57), .ref (eA E 58), .ref (eA E 47), .ref (eA E (if wk g p e % 4 = 2 then 47 else 49)), .int (zI ((wS g p e).1)), .int (zI ((wS g p e).2.1)), .int (zI mc), .int x4, .int (zI (wc g p e)), .long l]) (by decide) h48 (nar01 (by unfold wc; omega)) (fit01 (by unfold wc; omega)) (Nat.le_of_ble_eq_true rfl) rfl (fun f53 h54 k55 => ?_)
            refine G_aload_n hX 2 rfl rfl d_Wr_readHead_71 ?_
            have h56 : f53 52 = ob 1 [.ref (eA E 7), .int (zI ((wS g p e).2.2)), .int (zI e)] := (k55 52 (by decide)).trans h47
            have h57 : f53 7 = iz E 700 g := (k55 7 (by decide)).trans ((k9 7 (by decide)).trans h37)
            refine F_callV hX (st := []) (c_Cu_number E f53 52 7 700 g ((wS g p e).2.2) e (by decide) (by decide) (by decide) h56 h57 (by omega) hB) cm_Cu_number im_Cu_number se_Cu_number rfl ml_Wr_65 d_Wr_readHead_72 (by decide) h56 rfl rfl (Nat.le_of_ble_eq_true rfl) (by decide) ?_
            rintro _ f58 ⟨rfl, h61, k62⟩
            refine G_cast (st' := [.int (zI ((numL g e 4 ((wS g p e).2.2) 0).1))]) ?_ rfl rfl rfl rfl
            have h63 : f58 52 = ob 1 [.ref (eA E 7), .int (zI ((wY g p e).2)), .int (zI e)] := h61
            have hwc : wc g p e = wk g p e / 4 := rfl
            refine G_top (show zI ((numL g e 4 ((wS g p e).2.2) 0).1) = zI ((wY g p e).1) from rfl) ?_
            refine G_istore hX (lv' := [(5, .int (zI ((wY g p e).1))), (4, .int (zI (wk g p e))), (0, .ref (eA E 53)), (1, .ref (eA E 52)), (2, .ref (eA E 49)), (3, .ref (eA E 47))]) (by decide) rfl d_Wr_readHead_75 ?_
            refine G_iload hX 0 rfl d_Wr_readHead_77 ?_
            refine G_if_lt_z hX (tgt := 91) d_Wr_readHead_79 rfl (by omega) (fun c64 => ?_) (fun c65 => ?_)
            · skip
              refine G_bipush hX (by decide) d_Wr_readHead_91 ?_
              first
                | (exfalso; omega)
                | (have e1 : hdA g p e mc oc 1536 = -2 := by unfold hdA; rw [if_neg (by omega), if_neg (fun q => q hok), if_pos (by omega)]
                   rw [e1] at hE
                   have h66 : f58 53 = ob 9 [.ref (eA E 54), .ref (eA E 55), .ref (eA E 56), .ref (eA E 57), .ref (eA E 58), .ref (eA E 47), .ref (eA E (if wk g p e % 4 = 2 then 47 else 49)), .int (zI ((wS g p e).1)), .int (zI ((wS g p e).2.1)), .int (zI mc), .int x4, .int (zI (wc g p e)), .long l] := (k62 53 (by decide)).trans h54
                   have h67 : f58 54 = ob 1 [u0, .int a0, .int b0] := (k62 54 (by decide)).trans ((k55 54 (by decide)).trans ((k9 54 (by decide)).trans ((k14 54 (by decide)).trans ((k7 54 (by decide)).trans ((k3 54 (by decide)).trans hS0)))))
                   have h68 : f58 55 = ob 1 [u1, .int a1, .int b1] := (k62 55 (by decide)).trans ((k55 55 (by decide)).trans ((k9 55 (by decide)).trans ((k14 55 (by decide)).trans ((k7 55 (by decide)).trans ((k3 55 (by decide)).trans hS1)))))
                   have h69 : f58 56 = ob 1 [u2, .int a2, .int b2] := (k62 56 (by decide)).trans ((k55 56 (by decide)).trans ((k9 56 (by decide)).trans ((k14 56 (by decide)).trans ((k7 56 (by decide)).trans ((k3 56 (by decide)).trans hS2)))))
                   have h70 : f58 57 = ob 1 [u3, .int a3, .int b3] := (k62 57 (by decide)).trans ((k55 57 (by decide)).trans ((k9 57 (by decide)).trans ((k14 57 (by decide)).trans ((k7 57 (by decide)).trans ((k3 57 (by decide)).trans hS3)))))
                   exact F_iret hX hE d_Wr_readHead_93 (Or.inr ⟨by decide, rfl, ⟨_, h63, by omega, by omega⟩, ⟨_, _, _, _, _, _, _, _, h66⟩, ⟨_, _, _, h67⟩, ⟨_, _, _, h68⟩, ⟨_, _, _, h69⟩, ⟨_, _, _, h70⟩, (Fr.tr (Fr.tr (Fr.tr (Fr.tr (Fr.tr (Fr.tr Fr.rf k3 (by decide)) k7 (by decide)) k14 (by decide)) k9 (by decide)) k55 (by decide)) k62 (by decide))⟩))
            · skip
              refine G_iload hX 0 rfl d_Wr_readHead_82 ?_
              refine G_aload_n hX 3 rfl rfl d_Wr_readHead_84 ?_
              have h71 : f58 7 = iz E 700 g := (k62 7 (by decide)).trans h57
              refine F_callV hX (st := [.int (zI ((wY g p e).1))]) (c_Cu_left E f58 52 7 700 g ((wY g p e).2) e (by decide) (by decide) (by decide) h63 h71 (by omega)) cm_Cu_left im_Cu_left se_Cu_left rfl ml_Wr_68 d_Wr_readHead_85 (by decide) h63 rfl rfl (Nat.le_of_ble_eq_true rfl) (by decide) ?_
              rintro _ f72 ⟨rfl, e75⟩
              obtain rfl := e75.symm
              refine G_cast (st' := [.int (zI (e - ((wY g p e).2))), .int (zI ((wY g p e).1))]) ?_ rfl rfl rfl rfl
              refine G_icmp_le_z hX (tgt := 94) d_Wr_readHead_88 rfl (by omega) (fun c76 => ?_) (fun c77 => ?_)
              · skip
                refine G_aload_n hX 2 rfl rfl d_Wr_readHead_94 ?_
                have h78 : f58 53 = ob 9 [.ref (eA E 54), .ref (eA E 55), .ref (eA E 56), .ref (eA E 57), .ref (eA E 58), .ref (eA E 47), .ref (eA E (if wk g p e % 4 = 2 then 47 else 49)), .int (zI ((wS g p e).1)), .int (zI ((wS g p e).2.1)), .int (zI mc), .int x4, .int (zI (wc g p e)), .long l] := (k62 53 (by decide)).trans h54
                refine F_get hX fg_Wr_12 d_Wr_readHead_95 53 (by decide) h78 rfl ?_
                refine G_aload_n hX 3 rfl rfl d_Wr_readHead_98 ?_
                refine F_get hX fg_Wr_71 d_Wr_readHead_99 52 (by decide) h63 rfl ?_
                refine G_aload_n hX 3 rfl rfl d_Wr_readHead_102 ?_
                refine F_get hX fg_Wr_75 d_Wr_readHead_103 52 (by decide) h63 rfl ?_
                refine G_iload hX 0 rfl d_Wr_readHead_106 ?_
                have h79 : f58 54 = ob 1 [u0, .int a0, .int b0] := (k62 54 (by decide)).trans ((k55 54 (by decide)).trans ((k9 54 (by decide)).trans ((k14 54 (by decide)).trans ((k7 54 (by decide)).trans ((k3 54 (by decide)).trans hS0)))))
                refine F_callV hX (st := []) (c_Cu_open E f58 54 7 u0 a0 b0 ((wY g p e).2) ((wY g p e).1) (by decide) h79) cm_Cu_open im_Cu_open se_Cu_open rfl ml_Wr_78 d_Wr_readHead_108 (by decide) h79 rfl rfl (Nat.le_of_ble_eq_true rfl) (by decide) ?_
                rintro _ f80 ⟨rfl, h83, k84⟩
                refine G_cast (st' := []) ?_ rfl rfl rfl rfl
                have h85 : f80 54 = ob 1 [.ref (eA E 7), .int (zI ((wY g p e).2)), .int (zI (wE g p e))] := h83
                have hwE : wE g p e = (wY g p e).2 + (wY g p e).1 := rfl
                refine G_aload_n hX 3 rfl rfl d_Wr_readHead_111 ?_
                refine G_dup hX rfl d_Wr_readHead_112 ?_
                have h86 : f80 52 = ob 1 [.ref (eA E 7), .int (zI ((wY g p e).2)), .int (zI e)] := (k84 52 (by decide)).trans h63
                refine F_get hX fg_Wr_75 d_Wr_readHead_113 52 (by decide) h86 rfl ?_
                refine G_iload hX 0 rfl d_Wr_readHead_116 ?_
                refine G_iadd_z hX d_Wr_readHead_118 ?_
                refine F_put hX fg_Wr_75 fp_Cu_1 d_Wr_readHead_119 52 (fs' := [.ref (eA E 7), .int (zI (((wY g p e).2) + ((wY g p e).1))), .int (zI e)]) (by decide) h86 rfl rfl (Nat.le_of_ble_eq_true rfl) rfl (fun f87 h88 k89 => ?_)
                refine G_aload_n hX 2 rfl rfl d_Wr_readHead_122 ?_
                refine G_aload_n hX 2 rfl rfl d_Wr_readHead_123 ?_
                have h90 : f87 53 = ob 9 [.ref (eA E 54), .ref (eA E 55), .ref (eA E 56), .ref (eA E 57), .ref (eA E 58), .ref (eA E 47), .ref (eA E (if wk g p e % 4 = 2 then 47 else 49)), .int (zI ((wS g p e).1)), .int (zI ((wS g p e).2.1)), .int (zI mc), .int x4, .int (zI (wc g p e)), .long l] := (k89 53 (by decide)).trans ((k84 53 (by decide)).trans h78)
                refine F_get hX fg_Wr_12 d_Wr_readHead_124 53 (by decide) h90 rfl ?_
                have h91 : f87 54 = ob 1 [.ref (eA E 7), .int (zI ((wY g p e).2)), .int (zI (wE g p e))] := (k89 54 (by decide)).trans h85
                have h92 : f87 7 = iz E 700 g := (k89 7 (by decide)).trans ((k84 7 (by decide)).trans h71)
                refine F_callV hX (st := [.ref (eA E 53)]) (c_Cu_number E f87 54 7 700 g ((wY g p e).2) (wE g p e) (by decide) (by decide) (by decide) h91 h92 (by omega) hB) cm_Cu_number im_Cu_number se_Cu_number rfl ml_Wr_65 d_Wr_readHead_127 (by decide) h91 rfl rfl (Nat.le_of_ble_eq_true rfl) (by decide) ?_
                rintro _ f93 ⟨rfl, h96, k97⟩
                refine G_cast (st' := [.int (zI ((numL g (wE g p e) 4 ((wY g p e).2) 0).1)), .ref (eA E 53)]) ?_ rfl rfl rfl rfl
                have h98 : f93 52 = ob 1 [.ref (eA E 7), .int (zI (((wY g p e).2) + ((wY g p e).1))), .int (zI e)] := (k97 52 (by decide)).trans h88
                have h99 : f93 52 = ob 1 [.ref (eA E 7), .int (zI (wE g p e)), .int (zI e)] := h98
                have h100 : f93 54 = ob 1 [.ref (eA E 7), .int (zI ((wZ g p e).2)), .int (zI (wE g p e))] := h96
                refine G_top (show zI ((numL g (wE g p e) 4 ((wY g p e).2) 0).1) = zI ((wZ g p e).1) from rfl) ?_
                have hzb : -1 ≤ (wZ g p e).1 ∧ (wZ g p e).1 < 268435456 ∧ (wY g p e).2 ≤ (wZ g p e).2 ∧ (wZ g p e).2 ≤ wE g p e := num_b hB (by omega)
                have h101 : f93 53 = ob 9 [.ref (eA E 54), .ref (eA E 55), .ref (eA E 56), .ref (eA E 57), .ref (eA E 58), .ref (eA E 47), .ref (eA E (if wk g p e % 4 = 2 then 47 else 49)), .int (zI ((wS g p e).1)), .int (zI ((wS g p e).2.1)), .int (zI mc), .int x4, .int (zI (wc g p e)), .long l] := (k97 53 (by decide)).trans h90
                refine F_put hX fg_Wr_82 fp_Wr_10 d_Wr_readHead_130 53 (fs' := [.ref (eA E 54), .ref (eA E 55), .ref (eA E 56), .ref (eA E 57), .ref (eA E 58), .ref (eA E 47), .ref (eA E (if wk g p e % 4 = 2 then 47 else 49)), .int (zI ((wS g p e).1)), .int (zI ((wS g p e).2.1)), .int (zI mc), .int (zI ((wZ g p e).1)), .int (zI (wc g p e)), .long l]) (by decide) h101 rfl rfl (Nat.le_of_ble_eq_true rfl) rfl (fun f102 h103 k104 => ?_)
                refine G_aload_n hX 2 rfl rfl d_Wr_readHead_133 ?_
                refine F_get hX fg_Wr_82 d_Wr_readHead_134 53 (by decide) h103 rfl ?_
                refine G_if_ge_z hX (tgt := 143) d_Wr_readHead_137 rfl (by omega) (fun c105 => ?_) (fun c106 => ?_)
                · skip
                  refine G_aload_n hX 2 rfl rfl d_Wr_readHead_143 ?_
                  refine F_get hX fg_Wr_82 d_Wr_readHead_144 53 (by decide) h103 rfl ?_
                  refine G_aload_n hX 5 rfl rfl d_Wr_readHead_147 ?_
                  have h107 : f102 47 = ob 6 [.ref (eA E 48), .int (zI mc)] := (k104 47 (by decide)).trans ((k97 47 (by decide)).trans ((k89 47 (by decide)).trans ((k84 47 (by decide)).trans ((k62 47 (by decide)).trans ((k55 47 (by decide)).trans ((k9 47 (by decide)).trans h40))))))
                  have h108 : f102 48 = iz E 1536 m := (k104 48 (by decide)).trans ((k97 48 (by decide)).trans ((k89 48 (by decide)).trans ((k84 48 (by decide)).trans ((k62 48 (by decide)).trans ((k55 48 (by decide)).trans ((k9 48 (by decide)).trans h41))))))
                  refine F_callV hX (st := [.int (zI ((wZ g p e).1))]) (c_Ro_left E f102 47 48 1536 m mc (by decide) (by decide) (by decide) ⟨h107, h108⟩ (by omega)) cm_Ro_left im_Ro_left se_Ro_left rfl ml_Wr_85 d_Wr_readHead_148 (by decide) h107 rfl rfl (Nat.le_of_ble_eq_true rfl) (by decide) ?_
                  rintro _ f109 ⟨rfl, e112⟩
                  obtain rfl := e112.symm
                  refine G_cast (st' := [.int (zI (((1536 : Nat) : Int) - mc)), .int (zI ((wZ g p e).1))]) ?_ rfl rfl rfl rfl
                  refine G_icmp_le_z hX (tgt := 157) d_Wr_readHead_151 rfl (by omega) (fun c113 => ?_) (fun c114 => ?_)
                  · skip
                    refine G_aload_n hX 2 rfl rfl d_Wr_readHead_157 ?_
                    refine F_get hX fg_Wr_12 d_Wr_readHead_158 53 (by decide) h103 rfl ?_
                    have h115 : f102 54 = ob 1 [.ref (eA E 7), .int (zI ((wZ g p e).2)), .int (zI (wE g p e))] := (k104 54 (by decide)).trans h100
                    have h116 : f102 7 = iz E 700 g := (k104 7 (by decide)).trans ((k97 7 (by decide)).trans h92)
                    refine F_callV hX (st := []) (c_Cu_next E f102 54 7 700 g ((wZ g p e).2) (wE g p e) (by decide) (by decide) (by decide) h115 h116 (by omega)) cm_Cu_next im_Cu_next se_Cu_next rfl ml_Wr_53 d_Wr_readHead_161 (by decide) h115 rfl rfl (Nat.le_of_ble_eq_true rfl) (by decide) ?_
                    rintro _ f117 ⟨rfl, h120, k121⟩
                    refine G_cast (st' := [.int (zI (nxV g ((wZ g p e).2) (wE g p e)))]) ?_ rfl rfl rfl rfl
                    have h122 : f117 54 = ob 1 [.ref (eA E 7), .int (zI (nxP (wZ g p e).2 (wE g p e))), .int (zI (wE g p e))] := h120
                    refine G_top (show zI (nxV g ((wZ g p e).2) (wE g p e)) = zI (wQ g p e) from rfl) ?_
                    have hqb : -1 ≤ wQ g p e ∧ wQ g p e < 256 := nxV_b hB _ _
                    have hqp : (wZ g p e).2 ≤ nxP (wZ g p e).2 (wE g p e) ∧ nxP (wZ g p e).2 (wE g p e) ≤ wE g p e := by unfold nxP; split <;> omega
                    refine G_istore hX (lv' := [(6, .int (zI (wQ g p e))), (5, .int (zI ((wY g p e).1))), (4, .int (zI (wk g p e))), (0, .ref (eA E 53)), (1, .ref (eA E 52)), (2, .ref (eA E 49)), (3, .ref (eA E 47))]) (by decide) rfl d_Wr_readHead_164 ?_
                    refine G_iload hX 0 rfl d_Wr_readHead_166 ?_
                    refine G_if_le_z hX (tgt := 182) d_Wr_readHead_168 rfl (by omega) (fun c123 => ?_) (fun c124 => ?_)
                    · skip
                      refine G_iload hX 0 rfl d_Wr_readHead_182 ?_
                      refine G_if_ne_z hX (tgt := 198) d_Wr_readHead_184 rfl (by omega) (fun c125 => ?_) (fun c126 => ?_)
                      · skip
                        refine G_bipush hX (by decide) d_Wr_readHead_198 ?_
                        first
                          | (exfalso; omega)
                          | (have e1 : hdA g p e mc oc 1536 = -2 := by unfold hdA; rw [if_neg (by omega), if_neg (fun q => q hok), if_neg (by omega), if_neg (by omega), if_neg (by omega), if_neg (by omega), if_pos (by omega)]
                             rw [e1] at hE
                             have h127 : f117 53 = ob 9 [.ref (eA E 54), .ref (eA E 55), .ref (eA E 56), .ref (eA E 57), .ref (eA E 58), .ref (eA E 47), .ref (eA E (if wk g p e % 4 = 2 then 47 else 49)), .int (zI ((wS g p e).1)), .int (zI ((wS g p e).2.1)), .int (zI mc), .int (zI ((wZ g p e).1)), .int (zI (wc g p e)), .long l] := (k121 53 (by decide)).trans h103
                             have h128 : f117 55 = ob 1 [u1, .int a1, .int b1] := (k121 55 (by decide)).trans ((k104 55 (by decide)).trans ((k97 55 (by decide)).trans ((k89 55 (by decide)).trans ((k84 55 (by decide)).trans ((k62 55 (by decide)).trans ((k55 55 (by decide)).trans ((k9 55 (by decide)).trans ((k14 55 (by decide)).trans ((k7 55 (by decide)).trans ((k3 55 (by decide)).trans hS1))))))))))
                             have h129 : f117 56 = ob 1 [u2, .int a2, .int b2] := (k121 56 (by decide)).trans ((k104 56 (by decide)).trans ((k97 56 (by decide)).trans ((k89 56 (by decide)).trans ((k84 56 (by decide)).trans ((k62 56 (by decide)).trans ((k55 56 (by decide)).trans ((k9 56 (by decide)).trans ((k14 56 (by decide)).trans ((k7 56 (by decide)).trans ((k3 56 (by decide)).trans hS2))))))))))
                             have h130 : f117 57 = ob 1 [u3, .int a3, .int b3] := (k121 57 (by decide)).trans ((k104 57 (by decide)).trans ((k97 57 (by decide)).trans ((k89 57 (by decide)).trans ((k84 57 (by decide)).trans ((k62 57 (by decide)).trans ((k55 57 (by decide)).trans ((k9 57 (by decide)).trans ((k14 57 (by decide)).trans ((k7 57 (by decide)).trans ((k3 57 (by decide)).trans hS3))))))))))
                             have h131 : f117 52 = ob 1 [.ref (eA E 7), .int (zI (wE g p e)), .int (zI e)] := (k121 52 (by decide)).trans ((k104 52 (by decide)).trans h99)
                             exact F_iret hX hE d_Wr_readHead_200 (Or.inr ⟨by decide, rfl, ⟨_, h131, by omega, by omega⟩, ⟨_, _, _, _, _, _, _, _, h127⟩, ⟨_, _, _, h122⟩, ⟨_, _, _, h128⟩, ⟨_, _, _, h129⟩, ⟨_, _, _, h130⟩, (Fr.tr (Fr.tr (Fr.tr (Fr.tr (Fr.tr (Fr.tr (Fr.tr (Fr.tr (Fr.tr (Fr.tr (Fr.tr Fr.rf k3 (by decide)) k7 (by decide)) k14 (by decide)) k9 (by decide)) k55 (by decide)) k62 (by decide)) k84 (by decide)) k89 (by decide)) k97 (by decide)) k104 (by decide)) k121 (by decide))⟩))
                      · skip
                        refine G_aload_n hX 3 rfl rfl d_Wr_readHead_187 ?_
                        have h132 : f117 53 = ob 9 [.ref (eA E 54), .ref (eA E 55), .ref (eA E 56), .ref (eA E 57), .ref (eA E 58), .ref (eA E 47), .ref (eA E (if wk g p e % 4 = 2 then 47 else 49)), .int (zI ((wS g p e).1)), .int (zI ((wS g p e).2.1)), .int (zI mc), .int (zI ((wZ g p e).1)), .int (zI (wc g p e)), .long l] := (k121 53 (by decide)).trans h103
                        have h133 : f117 7 = iz E 700 g := (k121 7 (by decide)).trans h116
                        have h134 : f117 55 = ob 1 [u1, .int a1, .int b1] := (k121 55 (by decide)).trans ((k104 55 (by decide)).trans ((k97 55 (by decide)).trans ((k89 55 (by decide)).trans ((k84 55 (by decide)).trans ((k62 55 (by decide)).trans ((k55 55 (by decide)).trans ((k9 55 (by decide)).trans ((k14 55 (by decide)).trans ((k7 55 (by decide)).trans ((k3 55 (by decide)).trans hS1))))))))))
                        have h135 : f117 56 = ob 1 [u2, .int a2, .int b2] := (k121 56 (by decide)).trans ((k104 56 (by decide)).trans ((k97 56 (by decide)).trans ((k89 56 (by decide)).trans ((k84 56 (by decide)).trans ((k62 56 (by decide)).trans ((k55 56 (by decide)).trans ((k9 56 (by decide)).trans ((k14 56 (by decide)).trans ((k7 56 (by decide)).trans ((k3 56 (by decide)).trans hS2))))))))))
                        have h136 : f117 57 = ob 1 [u3, .int a3, .int b3] := (k121 57 (by decide)).trans ((k104 57 (by decide)).trans ((k97 57 (by decide)).trans ((k89 57 (by decide)).trans ((k84 57 (by decide)).trans ((k62 57 (by decide)).trans ((k55 57 (by decide)).trans ((k9 57 (by decide)).trans ((k14 57 (by decide)).trans ((k7 57 (by decide)).trans ((k3 57 (by decide)).trans hS3))))))))))
                        refine F_callV hX (st := []) (c_Wr_readParts E f117 g (nxP (wZ g p e).2 (wE g p e)) (wE g p e) ((wS g p e).1) ((wS g p e).2.1) mc ((wZ g p e).1) (wc g p e) (.ref (eA E 47)) (.ref (eA E (if wk g p e % 4 = 2 then 47 else 49))) u1 u2 u3 a1 b1 a2 b2 a3 b3 l h132 h133 hB h122 h134 h135 h136 (by omega)) cm_Wr_readParts im_Wr_readParts se_Wr_readParts rfl ml_Wr_86 d_Wr_readHead_188 (by decide) h132 rfl rfl (Nat.le_of_ble_eq_true rfl) (by decide) ?_
                        rintro _ f137 (⟨h9, rfl, h8a, h8b, h8c, h8d, h8e, k8⟩ | ⟨h9, rfl, h9s, h9t, h9u, h9v, h9w, k8⟩)
                        · skip
                          have hok2 : 0 ≤ (w1 g p e).1 ∧ 0 ≤ (w2 g p e).1 ∧ 0 ≤ (w3 g p e).1 ∧ (w1 g p e).1 + (w2 g p e).1 + (w3 g p e).1 + 4 * wc g p e = wE g p e - (w3 g p e).2 := h9
                          refine G_cast (st' := [.int (zI 1)]) ?_ rfl rfl rfl rfl
                          refine G_if_eq_z hX (tgt := 198) d_Wr_readHead_191 rfl (by omega) (fun c142 => by exfalso; omega) (fun c143 => ?_)
                          refine G_iconst hX d_Wr_readHead_194 ?_
                          refine G_goto hX (tgt := 200) d_Wr_readHead_195 rfl ?_
                          first
                            | (exfalso; omega)
                            | (have e1 : hdA g p e mc oc 1536 = 0 := by unfold hdA; rw [if_neg (by omega), if_neg (fun q => q hok), if_neg (by omega), if_neg (by omega), if_neg (by omega), if_neg (by omega), if_neg (by omega), if_neg (by omega), if_neg (by omega)]
                               have h144 : f137 52 = ob 1 [.ref (eA E 7), .int (zI (wE g p e)), .int (zI e)] := (k8 52 (by decide)).trans ((k121 52 (by decide)).trans ((k104 52 (by decide)).trans h99))
                               exact F_iret hX hE d_Wr_readHead_200 (Or.inl ⟨e1, rfl, h144, h8d, h8a, h8b, h8c, h8e, (Fr.tr (Fr.tr (Fr.tr (Fr.tr (Fr.tr (Fr.tr (Fr.tr (Fr.tr (Fr.tr (Fr.tr (Fr.tr (Fr.tr Fr.rf k3 (by decide)) k7 (by decide)) k14 (by decide)) k9 (by decide)) k55 (by decide)) k62 (by decide)) k84 (by decide)) k89 (by decide)) k97 (by decide)) k104 (by decide)) k121 (by decide)) k8 (by decide))⟩))
                        · skip
                          have hok2 : ¬ (0 ≤ (w1 g p e).1 ∧ 0 ≤ (w2 g p e).1 ∧ 0 ≤ (w3 g p e).1 ∧ (w1 g p e).1 + (w2 g p e).1 + (w3 g p e).1 + 4 * wc g p e = wE g p e - (w3 g p e).2) := h9
                          refine G_cast (st' := [.int (zI 0)]) ?_ rfl rfl rfl rfl
                          refine G_if_eq_z hX (tgt := 198) d_Wr_readHead_191 rfl (by omega) (fun c145 => ?_) (fun c146 => by exfalso; omega)
                          refine G_bipush hX (by decide) d_Wr_readHead_198 ?_
                          first
                            | (exfalso; omega)
                            | (have e1 : hdA g p e mc oc 1536 = -2 := by unfold hdA; rw [if_neg (by omega), if_neg (fun q => q hok), if_neg (by omega), if_neg (by omega), if_neg (by omega), if_neg (by omega), if_neg (by omega)]; split; rfl; rw [if_pos (by omega)]
                               rw [e1] at hE
                               have h147 : f137 52 = ob 1 [.ref (eA E 7), .int (zI (wE g p e)), .int (zI e)] := (k8 52 (by decide)).trans ((k121 52 (by decide)).trans ((k104 52 (by decide)).trans h99))
                               exact F_iret hX hE d_Wr_readHead_200 (Or.inr ⟨by decide, rfl, ⟨_, h147, by omega, by omega⟩, h9s, h9t, h9u, h9v, h9w, (Fr.tr (Fr.tr (Fr.tr (Fr.tr (Fr.tr (Fr.tr (Fr.tr (Fr.tr (Fr.tr (Fr.tr (Fr.tr (Fr.tr Fr.rf k3 (by decide)) k7 (by decide)) k14 (by decide)) k9 (by decide)) k55 (by decide)) k62 (by decide)) k84 (by decide)) k89 (by decide)) k97 (by decide)) k104 (by decide)) k121 (by decide)) k8 (by decide))⟩))
                    · skip
                      refine G_iload hX 0 rfl d_Wr_readHead_171 ?_
                      refine G_bipush hX (by decide) d_Wr_readHead_173 ?_
                      refine G_iand hX d_Wr_readHead_175 ?_
                      refine G_top (show (zI (wQ g p e) &&& zI 7) = zI (wQ g p e % 8) from zI_and7 _) ?_
                      refine G_if_eq_z hX (tgt := 182) d_Wr_readHead_176 rfl (by omega) (fun c148 => ?_) (fun c149 => ?_)
                      · skip
                        refine G_iload hX 0 rfl d_Wr_readHead_182 ?_
                        refine G_if_ne_z hX (tgt := 198) d_Wr_readHead_184 rfl (by omega) (fun c150 => ?_) (fun c151 => ?_)
                        · skip
                          refine G_bipush hX (by decide) d_Wr_readHead_198 ?_
                          first
                            | (exfalso; omega)
                            | (have e1 : hdA g p e mc oc 1536 = -2 := by unfold hdA; rw [if_neg (by omega), if_neg (fun q => q hok), if_neg (by omega), if_neg (by omega), if_neg (by omega), if_neg (by omega), if_pos (by omega)]
                               rw [e1] at hE
                               have h152 : f117 53 = ob 9 [.ref (eA E 54), .ref (eA E 55), .ref (eA E 56), .ref (eA E 57), .ref (eA E 58), .ref (eA E 47), .ref (eA E (if wk g p e % 4 = 2 then 47 else 49)), .int (zI ((wS g p e).1)), .int (zI ((wS g p e).2.1)), .int (zI mc), .int (zI ((wZ g p e).1)), .int (zI (wc g p e)), .long l] := (k121 53 (by decide)).trans h103
                               have h153 : f117 55 = ob 1 [u1, .int a1, .int b1] := (k121 55 (by decide)).trans ((k104 55 (by decide)).trans ((k97 55 (by decide)).trans ((k89 55 (by decide)).trans ((k84 55 (by decide)).trans ((k62 55 (by decide)).trans ((k55 55 (by decide)).trans ((k9 55 (by decide)).trans ((k14 55 (by decide)).trans ((k7 55 (by decide)).trans ((k3 55 (by decide)).trans hS1))))))))))
                               have h154 : f117 56 = ob 1 [u2, .int a2, .int b2] := (k121 56 (by decide)).trans ((k104 56 (by decide)).trans ((k97 56 (by decide)).trans ((k89 56 (by decide)).trans ((k84 56 (by decide)).trans ((k62 56 (by decide)).trans ((k55 56 (by decide)).trans ((k9 56 (by decide)).trans ((k14 56 (by decide)).trans ((k7 56 (by decide)).trans ((k3 56 (by decide)).trans hS2))))))))))
                               have h155 : f117 57 = ob 1 [u3, .int a3, .int b3] := (k121 57 (by decide)).trans ((k104 57 (by decide)).trans ((k97 57 (by decide)).trans ((k89 57 (by decide)).trans ((k84 57 (by decide)).trans ((k62 57 (by decide)).trans ((k55 57 (by decide)).trans ((k9 57 (by decide)).trans ((k14 57 (by decide)).trans ((k7 57 (by decide)).trans ((k3 57 (by decide)).trans hS3))))))))))
                               have h156 : f117 52 = ob 1 [.ref (eA E 7), .int (zI (wE g p e)), .int (zI e)] := (k121 52 (by decide)).trans ((k104 52 (by decide)).trans h99)
                               exact F_iret hX hE d_Wr_readHead_200 (Or.inr ⟨by decide, rfl, ⟨_, h156, by omega, by omega⟩, ⟨_, _, _, _, _, _, _, _, h152⟩, ⟨_, _, _, h122⟩, ⟨_, _, _, h153⟩, ⟨_, _, _, h154⟩, ⟨_, _, _, h155⟩, (Fr.tr (Fr.tr (Fr.tr (Fr.tr (Fr.tr (Fr.tr (Fr.tr (Fr.tr (Fr.tr (Fr.tr (Fr.tr Fr.rf k3 (by decide)) k7 (by decide)) k14 (by decide)) k9 (by decide)) k55 (by decide)) k62 (by decide)) k84 (by decide)) k89 (by decide)) k97 (by decide)) k104 (by decide)) k121 (by decide))⟩))
                        · skip
                          refine G_aload_n hX 3 rfl rfl d_Wr_readHead_187 ?_
                          have h157 : f117 53 = ob 9 [.ref (eA E 54), .ref (eA E 55), .ref (eA E 56), .ref (eA E 57), .ref (eA E 58), .ref (eA E 47), .ref (eA E (if wk g p e % 4 = 2 then 47 else 49)), .int (zI ((wS g p e).1)), .int (zI ((wS g p e).2.1)), .int (zI mc), .int (zI ((wZ g p e).1)), .int (zI (wc g p e)), .long l] := (k121 53 (by decide)).trans h103
                          have h158 : f117 7 = iz E 700 g := (k121 7 (by decide)).trans h116
                          have h159 : f117 55 = ob 1 [u1, .int a1, .int b1] := (k121 55 (by decide)).trans ((k104 55 (by decide)).trans ((k97 55 (by decide)).trans ((k89 55 (by decide)).trans ((k84 55 (by decide)).trans ((k62 55 (by decide)).trans ((k55 55 (by decide)).trans ((k9 55 (by decide)).trans ((k14 55 (by decide)).trans ((k7 55 (by decide)).trans ((k3 55 (by decide)).trans hS1))))))))))
                          have h160 : f117 56 = ob 1 [u2, .int a2, .int b2] := (k121 56 (by decide)).trans ((k104 56 (by decide)).trans ((k97 56 (by decide)).trans ((k89 56 (by decide)).trans ((k84 56 (by decide)).trans ((k62 56 (by decide)).trans ((k55 56 (by decide)).trans ((k9 56 (by decide)).trans ((k14 56 (by decide)).trans ((k7 56 (by decide)).trans ((k3 56 (by decide)).trans hS2))))))))))
                          have h161 : f117 57 = ob 1 [u3, .int a3, .int b3] := (k121 57 (by decide)).trans ((k104 57 (by decide)).trans ((k97 57 (by decide)).trans ((k89 57 (by decide)).trans ((k84 57 (by decide)).trans ((k62 57 (by decide)).trans ((k55 57 (by decide)).trans ((k9 57 (by decide)).trans ((k14 57 (by decide)).trans ((k7 57 (by decide)).trans ((k3 57 (by decide)).trans hS3))))))))))
                          refine F_callV hX (st := []) (c_Wr_readParts E f117 g (nxP (wZ g p e).2 (wE g p e)) (wE g p e) ((wS g p e).1) ((wS g p e).2.1) mc ((wZ g p e).1) (wc g p e) (.ref (eA E 47)) (.ref (eA E (if wk g p e % 4 = 2 then 47 else 49))) u1 u2 u3 a1 b1 a2 b2 a3 b3 l h157 h158 hB h122 h159 h160 h161 (by omega)) cm_Wr_readParts im_Wr_readParts se_Wr_readParts rfl ml_Wr_86 d_Wr_readHead_188 (by decide) h157 rfl rfl (Nat.le_of_ble_eq_true rfl) (by decide) ?_
                          rintro _ f162 (⟨h9, rfl, h8a, h8b, h8c, h8d, h8e, k8⟩ | ⟨h9, rfl, h9s, h9t, h9u, h9v, h9w, k8⟩)
                          · skip
                            have hok2 : 0 ≤ (w1 g p e).1 ∧ 0 ≤ (w2 g p e).1 ∧ 0 ≤ (w3 g p e).1 ∧ (w1 g p e).1 + (w2 g p e).1 + (w3 g p e).1 + 4 * wc g p e = wE g p e - (w3 g p e).2 := h9
                            refine G_cast (st' := [.int (zI 1)]) ?_ rfl rfl rfl rfl
                            refine G_if_eq_z hX (tgt := 198) d_Wr_readHead_191 rfl (by omega) (fun c167 => by exfalso; omega) (fun c168 => ?_)
                            refine G_iconst hX d_Wr_readHead_194 ?_
                            refine G_goto hX (tgt := 200) d_Wr_readHead_195 rfl ?_
                            first
                              | (exfalso; omega)
                              | (have e1 : hdA g p e mc oc 1536 = 0 := by unfold hdA; rw [if_neg (by omega), if_neg (fun q => q hok), if_neg (by omega), if_neg (by omega), if_neg (by omega), if_neg (by omega), if_neg (by omega), if_neg (by omega), if_neg (by omega)]
                                 have h169 : f162 52 = ob 1 [.ref (eA E 7), .int (zI (wE g p e)), .int (zI e)] := (k8 52 (by decide)).trans ((k121 52 (by decide)).trans ((k104 52 (by decide)).trans h99))
                                 exact F_iret hX hE d_Wr_readHead_200 (Or.inl ⟨e1, rfl, h169, h8d, h8a, h8b, h8c, h8e, (Fr.tr (Fr.tr (Fr.tr (Fr.tr (Fr.tr (Fr.tr (Fr.tr (Fr.tr (Fr.tr (Fr.tr (Fr.tr (Fr.tr Fr.rf k3 (by decide)) k7 (by decide)) k14 (by decide)) k9 (by decide)) k55 (by decide)) k62 (by decide)) k84 (by decide)) k89 (by decide)) k97 (by decide)) k104 (by decide)) k121 (by decide)) k8 (by decide))⟩))
                          · skip
                            have hok2 : ¬ (0 ≤ (w1 g p e).1 ∧ 0 ≤ (w2 g p e).1 ∧ 0 ≤ (w3 g p e).1 ∧ (w1 g p e).1 + (w2 g p e).1 + (w3 g p e).1 + 4 * wc g p e = wE g p e - (w3 g p e).2) := h9
                            refine G_cast (st' := [.int (zI 0)]) ?_ rfl rfl rfl rfl
                            refine G_if_eq_z hX (tgt := 198) d_Wr_readHead_191 rfl (by omega) (fun c170 => ?_) (fun c171 => by exfalso; omega)
                            refine G_bipush hX (by decide) d_Wr_readHead_198 ?_
                            first
                              | (exfalso; omega)
                              | (have e1 : hdA g p e mc oc 1536 = -2 := by unfold hdA; rw [if_neg (by omega), if_neg (fun q => q hok), if_neg (by omega), if_neg (by omega), if_neg (by omega), if_neg (by omega), if_neg (by omega)]; split; rfl; rw [if_pos (by omega)]
                                 rw [e1] at hE
                                 have h172 : f162 52 = ob 1 [.ref (eA E 7), .int (zI (wE g p e)), .int (zI e)] := (k8 52 (by decide)).trans ((k121 52 (by decide)).trans ((k104 52 (by decide)).trans h99))
                                 exact F_iret hX hE d_Wr_readHead_200 (Or.inr ⟨by decide, rfl, ⟨_, h172, by omega, by omega⟩, h9s, h9t, h9u, h9v, h9w, (Fr.tr (Fr.tr (Fr.tr (Fr.tr (Fr.tr (Fr.tr (Fr.tr (Fr.tr (Fr.tr (Fr.tr (Fr.tr (Fr.tr Fr.rf k3 (by decide)) k7 (by decide)) k14 (by decide)) k9 (by decide)) k55 (by decide)) k62 (by decide)) k84 (by decide)) k89 (by decide)) k97 (by decide)) k104 (by decide)) k121 (by decide)) k8 (by decide))⟩))
                      · skip
                        refine G_bipush hX (by decide) d_Wr_readHead_179 ?_
                        first
                          | (exfalso; omega)
                          | (have e1 : hdA g p e mc oc 1536 = -3 := by unfold hdA; rw [if_neg (by omega), if_neg (fun q => q hok), if_neg (by omega), if_neg (by omega), if_neg (by omega), if_pos (by omega)]
                             rw [e1] at hE
                             have h173 : f117 53 = ob 9 [.ref (eA E 54), .ref (eA E 55), .ref (eA E 56), .ref (eA E 57), .ref (eA E 58), .ref (eA E 47), .ref (eA E (if wk g p e % 4 = 2 then 47 else 49)), .int (zI ((wS g p e).1)), .int (zI ((wS g p e).2.1)), .int (zI mc), .int (zI ((wZ g p e).1)), .int (zI (wc g p e)), .long l] := (k121 53 (by decide)).trans h103
                             have h174 : f117 55 = ob 1 [u1, .int a1, .int b1] := (k121 55 (by decide)).trans ((k104 55 (by decide)).trans ((k97 55 (by decide)).trans ((k89 55 (by decide)).trans ((k84 55 (by decide)).trans ((k62 55 (by decide)).trans ((k55 55 (by decide)).trans ((k9 55 (by decide)).trans ((k14 55 (by decide)).trans ((k7 55 (by decide)).trans ((k3 55 (by decide)).trans hS1))))))))))
                             have h175 : f117 56 = ob 1 [u2, .int a2, .int b2] := (k121 56 (by decide)).trans ((k104 56 (by decide)).trans ((k97 56 (by decide)).trans ((k89 56 (by decide)).trans ((k84 56 (by decide)).trans ((k62 56 (by decide)).trans ((k55 56 (by decide)).trans ((k9 56 (by decide)).trans ((k14 56 (by decide)).trans ((k7 56 (by decide)).trans ((k3 56 (by decide)).trans hS2))))))))))
                             have h176 : f117 57 = ob 1 [u3, .int a3, .int b3] := (k121 57 (by decide)).trans ((k104 57 (by decide)).trans ((k97 57 (by decide)).trans ((k89 57 (by decide)).trans ((k84 57 (by decide)).trans ((k62 57 (by decide)).trans ((k55 57 (by decide)).trans ((k9 57 (by decide)).trans ((k14 57 (by decide)).trans ((k7 57 (by decide)).trans ((k3 57 (by decide)).trans hS3))))))))))
                             have h177 : f117 52 = ob 1 [.ref (eA E 7), .int (zI (wE g p e)), .int (zI e)] := (k121 52 (by decide)).trans ((k104 52 (by decide)).trans h99)
                             exact F_iret hX hE d_Wr_readHead_181 (Or.inr ⟨by decide, rfl, ⟨_, h177, by omega, by omega⟩, ⟨_, _, _, _, _, _, _, _, h173⟩, ⟨_, _, _, h122⟩, ⟨_, _, _, h174⟩, ⟨_, _, _, h175⟩, ⟨_, _, _, h176⟩, (Fr.tr (Fr.tr (Fr.tr (Fr.tr (Fr.tr (Fr.tr (Fr.tr (Fr.tr (Fr.tr (Fr.tr (Fr.tr Fr.rf k3 (by decide)) k7 (by decide)) k14 (by decide)) k9 (by decide)) k55 (by decide)) k62 (by decide)) k84 (by decide)) k89 (by decide)) k97 (by decide)) k104 (by decide)) k121 (by decide))⟩))
                  · skip
                    refine G_bipush hX (by decide) d_Wr_readHead_154 ?_
                    first
                      | (exfalso; omega)
                      | (have e1 : hdA g p e mc oc 1536 = -4 := by unfold hdA; rw [if_neg (by omega), if_neg (fun q => q hok), if_neg (by omega), if_neg (by omega), if_pos (by omega)]
                         rw [e1] at hE
                         have h178 : f102 54 = ob 1 [.ref (eA E 7), .int (zI ((wZ g p e).2)), .int (zI (wE g p e))] := (k104 54 (by decide)).trans h100
                         have h179 : f102 55 = ob 1 [u1, .int a1, .int b1] := (k104 55 (by decide)).trans ((k97 55 (by decide)).trans ((k89 55 (by decide)).trans ((k84 55 (by decide)).trans ((k62 55 (by decide)).trans ((k55 55 (by decide)).trans ((k9 55 (by decide)).trans ((k14 55 (by decide)).trans ((k7 55 (by decide)).trans ((k3 55 (by decide)).trans hS1)))))))))
                         have h180 : f102 56 = ob 1 [u2, .int a2, .int b2] := (k104 56 (by decide)).trans ((k97 56 (by decide)).trans ((k89 56 (by decide)).trans ((k84 56 (by decide)).trans ((k62 56 (by decide)).trans ((k55 56 (by decide)).trans ((k9 56 (by decide)).trans ((k14 56 (by decide)).trans ((k7 56 (by decide)).trans ((k3 56 (by decide)).trans hS2)))))))))
                         have h181 : f102 57 = ob 1 [u3, .int a3, .int b3] := (k104 57 (by decide)).trans ((k97 57 (by decide)).trans ((k89 57 (by decide)).trans ((k84 57 (by decide)).trans ((k62 57 (by decide)).trans ((k55 57 (by decide)).trans ((k9 57 (by decide)).trans ((k14 57 (by decide)).trans ((k7 57 (by decide)).trans ((k3 57 (by decide)).trans hS3)))))))))
                         have h182 : f102 52 = ob 1 [.ref (eA E 7), .int (zI (wE g p e)), .int (zI e)] := (k104 52 (by decide)).trans h99
                         exact F_iret hX hE d_Wr_readHead_156 (Or.inr ⟨by decide, rfl, ⟨_, h182, by omega, by omega⟩, ⟨_, _, _, _, _, _, _, _, h103⟩, ⟨_, _, _, h178⟩, ⟨_, _, _, h179⟩, ⟨_, _, _, h180⟩, ⟨_, _, _, h181⟩, (Fr.tr (Fr.tr (Fr.tr (Fr.tr (Fr.tr (Fr.tr (Fr.tr (Fr.tr (Fr.tr (Fr.tr Fr.rf k3 (by decide)) k7 (by decide)) k14 (by decide)) k9 (by decide)) k55 (by decide)) k62 (by decide)) k84 (by decide)) k89 (by decide)) k97 (by decide)) k104 (by decide))⟩))
                · skip
                  refine G_bipush hX (by decide) d_Wr_readHead_140 ?_
                  first
                    | (exfalso; omega)
                    | (have e1 : hdA g p e mc oc 1536 = -2 := by unfold hdA; rw [if_neg (by omega), if_neg (fun q => q hok), if_neg (by omega), if_pos (by omega)]
                       rw [e1] at hE
                       have h183 : f102 54 = ob 1 [.ref (eA E 7), .int (zI ((wZ g p e).2)), .int (zI (wE g p e))] := (k104 54 (by decide)).trans h100
                       have h184 : f102 55 = ob 1 [u1, .int a1, .int b1] := (k104 55 (by decide)).trans ((k97 55 (by decide)).trans ((k89 55 (by decide)).trans ((k84 55 (by decide)).trans ((k62 55 (by decide)).trans ((k55 55 (by decide)).trans ((k9 55 (by decide)).trans ((k14 55 (by decide)).trans ((k7 55 (by decide)).trans ((k3 55 (by decide)).trans hS1)))))))))
                       have h185 : f102 56 = ob 1 [u2, .int a2, .int b2] := (k104 56 (by decide)).trans ((k97 56 (by decide)).trans ((k89 56 (by decide)).trans ((k84 56 (by decide)).trans ((k62 56 (by decide)).trans ((k55 56 (by decide)).trans ((k9 56 (by decide)).trans ((k14 56 (by decide)).trans ((k7 56 (by decide)).trans ((k3 56 (by decide)).trans hS2)))))))))
                       have h186 : f102 57 = ob 1 [u3, .int a3, .int b3] := (k104 57 (by decide)).trans ((k97 57 (by decide)).trans ((k89 57 (by decide)).trans ((k84 57 (by decide)).trans ((k62 57 (by decide)).trans ((k55 57 (by decide)).trans ((k9 57 (by decide)).trans ((k14 57 (by decide)).trans ((k7 57 (by decide)).trans ((k3 57 (by decide)).trans hS3)))))))))
                       have h187 : f102 52 = ob 1 [.ref (eA E 7), .int (zI (wE g p e)), .int (zI e)] := (k104 52 (by decide)).trans h99
                       exact F_iret hX hE d_Wr_readHead_142 (Or.inr ⟨by decide, rfl, ⟨_, h187, by omega, by omega⟩, ⟨_, _, _, _, _, _, _, _, h103⟩, ⟨_, _, _, h183⟩, ⟨_, _, _, h184⟩, ⟨_, _, _, h185⟩, ⟨_, _, _, h186⟩, (Fr.tr (Fr.tr (Fr.tr (Fr.tr (Fr.tr (Fr.tr (Fr.tr (Fr.tr (Fr.tr (Fr.tr Fr.rf k3 (by decide)) k7 (by decide)) k14 (by decide)) k9 (by decide)) k55 (by decide)) k62 (by decide)) k84 (by decide)) k89 (by decide)) k97 (by decide)) k104 (by decide))⟩))
              · skip
                refine G_bipush hX (by decide) d_Wr_readHead_91 ?_
                first
                  | (exfalso; omega)
                  | (have e1 : hdA g p e mc oc 1536 = -2 := by unfold hdA; rw [if_neg (by omega), if_neg (fun q => q hok), if_pos (by omega)]
                     rw [e1] at hE
                     have h188 : f58 53 = ob 9 [.ref (eA E 54), .ref (eA E 55), .ref (eA E 56), .ref (eA E 57), .ref (eA E 58), .ref (eA E 47), .ref (eA E (if wk g p e % 4 = 2 then 47 else 49)), .int (zI ((wS g p e).1)), .int (zI ((wS g p e).2.1)), .int (zI mc), .int x4, .int (zI (wc g p e)), .long l] := (k62 53 (by decide)).trans h54
                     have h189 : f58 54 = ob 1 [u0, .int a0, .int b0] := (k62 54 (by decide)).trans ((k55 54 (by decide)).trans ((k9 54 (by decide)).trans ((k14 54 (by decide)).trans ((k7 54 (by decide)).trans ((k3 54 (by decide)).trans hS0)))))
                     have h190 : f58 55 = ob 1 [u1, .int a1, .int b1] := (k62 55 (by decide)).trans ((k55 55 (by decide)).trans ((k9 55 (by decide)).trans ((k14 55 (by decide)).trans ((k7 55 (by decide)).trans ((k3 55 (by decide)).trans hS1)))))
                     have h191 : f58 56 = ob 1 [u2, .int a2, .int b2] := (k62 56 (by decide)).trans ((k55 56 (by decide)).trans ((k9 56 (by decide)).trans ((k14 56 (by decide)).trans ((k7 56 (by decide)).trans ((k3 56 (by decide)).trans hS2)))))
                     have h192 : f58 57 = ob 1 [u3, .int a3, .int b3] := (k62 57 (by decide)).trans ((k55 57 (by decide)).trans ((k9 57 (by decide)).trans ((k14 57 (by decide)).trans ((k7 57 (by decide)).trans ((k3 57 (by decide)).trans hS3)))))
                     exact F_iret hX hE d_Wr_readHead_93 (Or.inr ⟨by decide, rfl, ⟨_, h63, by omega, by omega⟩, ⟨_, _, _, _, _, _, _, _, h188⟩, ⟨_, _, _, h189⟩, ⟨_, _, _, h190⟩, ⟨_, _, _, h191⟩, ⟨_, _, _, h192⟩, (Fr.tr (Fr.tr (Fr.tr (Fr.tr (Fr.tr (Fr.tr Fr.rf k3 (by decide)) k7 (by decide)) k14 (by decide)) k9 (by decide)) k55 (by decide)) k62 (by decide))⟩))
          · skip
            refine G_top (show (zI (wk g p e) &&& zI 4) = zI 4 from zI_and4n (by omega)) ?_
            refine G_if_eq_z hX (tgt := 67) d_Wr_readHead_60 rfl (by omega) (fun c193 => by exfalso; omega) (fun c194 => ?_)
            refine G_iconst hX d_Wr_readHead_63 ?_
            refine G_goto hX (tgt := 68) d_Wr_readHead_64 rfl ?_
            refine G_top (show zI 1 = zI (wc g p e) from by unfold wc; rw [show wk g p e / 4 = 1 by omega]) ?_
            refine F_put hX fg_Wr_61 fp_Wr_11 d_Wr_readHead_68 53 (fs' := [.ref (eA E 54), .ref (eA E 55), .ref (eA E 56), .ref (eA E 57), .ref (eA E 58), .ref (eA E 47), .ref (eA E (if wk g p e % 4 = 2 then 47 else 49)), .int (zI ((wS g p e).1)), .int (zI ((wS g p e).2.1)), .int (zI mc), .int x4, .int (zI (wc g p e)), .long l]) (by decide) h48 (nar01 (by unfold wc; omega)) (fit01 (by unfold wc; omega)) (Nat.le_of_ble_eq_true rfl) rfl (fun f195 h196 k197 => ?_)
            refine G_aload_n hX 2 rfl rfl d_Wr_readHead_71 ?_
            have h198 : f195 52 = ob 1 [.ref (eA E 7), .int (zI ((wS g p e).2.2)), .int (zI e)] := (k197 52 (by decide)).trans h47
            have h199 : f195 7 = iz E 700 g := (k197 7 (by decide)).trans ((k9 7 (by decide)).trans h37)
            refine F_callV hX (st := []) (c_Cu_number E f195 52 7 700 g ((wS g p e).2.2) e (by decide) (by decide) (by decide) h198 h199 (by omega) hB) cm_Cu_number im_Cu_number se_Cu_number rfl ml_Wr_65 d_Wr_readHead_72 (by decide) h198 rfl rfl (Nat.le_of_ble_eq_true rfl) (by decide) ?_
            rintro _ f200 ⟨rfl, h203, k204⟩
            refine G_cast (st' := [.int (zI ((numL g e 4 ((wS g p e).2.2) 0).1))]) ?_ rfl rfl rfl rfl
            have h205 : f200 52 = ob 1 [.ref (eA E 7), .int (zI ((wY g p e).2)), .int (zI e)] := h203
            have hwc : wc g p e = wk g p e / 4 := rfl
            refine G_top (show zI ((numL g e 4 ((wS g p e).2.2) 0).1) = zI ((wY g p e).1) from rfl) ?_
            refine G_istore hX (lv' := [(5, .int (zI ((wY g p e).1))), (4, .int (zI (wk g p e))), (0, .ref (eA E 53)), (1, .ref (eA E 52)), (2, .ref (eA E 49)), (3, .ref (eA E 47))]) (by decide) rfl d_Wr_readHead_75 ?_
            refine G_iload hX 0 rfl d_Wr_readHead_77 ?_
            refine G_if_lt_z hX (tgt := 91) d_Wr_readHead_79 rfl (by omega) (fun c206 => ?_) (fun c207 => ?_)
            · skip
              refine G_bipush hX (by decide) d_Wr_readHead_91 ?_
              first
                | (exfalso; omega)
                | (have e1 : hdA g p e mc oc 1536 = -2 := by unfold hdA; rw [if_neg (by omega), if_neg (fun q => q hok), if_pos (by omega)]
                   rw [e1] at hE
                   have h208 : f200 53 = ob 9 [.ref (eA E 54), .ref (eA E 55), .ref (eA E 56), .ref (eA E 57), .ref (eA E 58), .ref (eA E 47), .ref (eA E (if wk g p e % 4 = 2 then 47 else 49)), .int (zI ((wS g p e).1)), .int (zI ((wS g p e).2.1)), .int (zI mc), .int x4, .int (zI (wc g p e)), .long l] := (k204 53 (by decide)).trans h196
                   have h209 : f200 54 = ob 1 [u0, .int a0, .int b0] := (k204 54 (by decide)).trans ((k197 54 (by decide)).trans ((k9 54 (by decide)).trans ((k14 54 (by decide)).trans ((k7 54 (by decide)).trans ((k3 54 (by decide)).trans hS0)))))
                   have h210 : f200 55 = ob 1 [u1, .int a1, .int b1] := (k204 55 (by decide)).trans ((k197 55 (by decide)).trans ((k9 55 (by decide)).trans ((k14 55 (by decide)).trans ((k7 55 (by decide)).trans ((k3 55 (by decide)).trans hS1)))))
                   have h211 : f200 56 = ob 1 [u2, .int a2, .int b2] := (k204 56 (by decide)).trans ((k197 56 (by decide)).trans ((k9 56 (by decide)).trans ((k14 56 (by decide)).trans ((k7 56 (by decide)).trans ((k3 56 (by decide)).trans hS2)))))
                   have h212 : f200 57 = ob 1 [u3, .int a3, .int b3] := (k204 57 (by decide)).trans ((k197 57 (by decide)).trans ((k9 57 (by decide)).trans ((k14 57 (by decide)).trans ((k7 57 (by decide)).trans ((k3 57 (by decide)).trans hS3)))))
                   exact F_iret hX hE d_Wr_readHead_93 (Or.inr ⟨by decide, rfl, ⟨_, h205, by omega, by omega⟩, ⟨_, _, _, _, _, _, _, _, h208⟩, ⟨_, _, _, h209⟩, ⟨_, _, _, h210⟩, ⟨_, _, _, h211⟩, ⟨_, _, _, h212⟩, (Fr.tr (Fr.tr (Fr.tr (Fr.tr (Fr.tr (Fr.tr Fr.rf k3 (by decide)) k7 (by decide)) k14 (by decide)) k9 (by decide)) k197 (by decide)) k204 (by decide))⟩))
            · skip
              refine G_iload hX 0 rfl d_Wr_readHead_82 ?_
              refine G_aload_n hX 3 rfl rfl d_Wr_readHead_84 ?_
              have h213 : f200 7 = iz E 700 g := (k204 7 (by decide)).trans h199
              refine F_callV hX (st := [.int (zI ((wY g p e).1))]) (c_Cu_left E f200 52 7 700 g ((wY g p e).2) e (by decide) (by decide) (by decide) h205 h213 (by omega)) cm_Cu_left im_Cu_left se_Cu_left rfl ml_Wr_68 d_Wr_readHead_85 (by decide) h205 rfl rfl (Nat.le_of_ble_eq_true rfl) (by decide) ?_
              rintro _ f214 ⟨rfl, e217⟩
              obtain rfl := e217.symm
              refine G_cast (st' := [.int (zI (e - ((wY g p e).2))), .int (zI ((wY g p e).1))]) ?_ rfl rfl rfl rfl
              refine G_icmp_le_z hX (tgt := 94) d_Wr_readHead_88 rfl (by omega) (fun c218 => ?_) (fun c219 => ?_)
              · skip
                refine G_aload_n hX 2 rfl rfl d_Wr_readHead_94 ?_
                have h220 : f200 53 = ob 9 [.ref (eA E 54), .ref (eA E 55), .ref (eA E 56), .ref (eA E 57), .ref (eA E 58), .ref (eA E 47), .ref (eA E (if wk g p e % 4 = 2 then 47 else 49)), .int (zI ((wS g p e).1)), .int (zI ((wS g p e).2.1)), .int (zI mc), .int x4, .int (zI (wc g p e)), .long l] := (k204 53 (by decide)).trans h196
                refine F_get hX fg_Wr_12 d_Wr_readHead_95 53 (by decide) h220 rfl ?_
                refine G_aload_n hX 3 rfl rfl d_Wr_readHead_98 ?_
                refine F_get hX fg_Wr_71 d_Wr_readHead_99 52 (by decide) h205 rfl ?_
                refine G_aload_n hX 3 rfl rfl d_Wr_readHead_102 ?_
                refine F_get hX fg_Wr_75 d_Wr_readHead_103 52 (by decide) h205 rfl ?_
                refine G_iload hX 0 rfl d_Wr_readHead_106 ?_
                have h221 : f200 54 = ob 1 [u0, .int a0, .int b0] := (k204 54 (by decide)).trans ((k197 54 (by decide)).trans ((k9 54 (by decide)).trans ((k14 54 (by decide)).trans ((k7 54 (by decide)).trans ((k3 54 (by decide)).trans hS0)))))
                refine F_callV hX (st := []) (c_Cu_open E f200 54 7 u0 a0 b0 ((wY g p e).2) ((wY g p e).1) (by decide) h221) cm_Cu_open im_Cu_open se_Cu_open rfl ml_Wr_78 d_Wr_readHead_108 (by decide) h221 rfl rfl (Nat.le_of_ble_eq_true rfl) (by decide) ?_
                rintro _ f222 ⟨rfl, h225, k226⟩
                refine G_cast (st' := []) ?_ rfl rfl rfl rfl
                have h227 : f222 54 = ob 1 [.ref (eA E 7), .int (zI ((wY g p e).2)), .int (zI (wE g p e))] := h225
                have hwE : wE g p e = (wY g p e).2 + (wY g p e).1 := rfl
                refine G_aload_n hX 3 rfl rfl d_Wr_readHead_111 ?_
                refine G_dup hX rfl d_Wr_readHead_112 ?_
                have h228 : f222 52 = ob 1 [.ref (eA E 7), .int (zI ((wY g p e).2)), .int (zI e)] := (k226 52 (by decide)).trans h205
                refine F_get hX fg_Wr_75 d_Wr_readHead_113 52 (by decide) h228 rfl ?_
                refine G_iload hX 0 rfl d_Wr_readHead_116 ?_
                refine G_iadd_z hX d_Wr_readHead_118 ?_
                refine F_put hX fg_Wr_75 fp_Cu_1 d_Wr_readHead_119 52 (fs' := [.ref (eA E 7), .int (zI (((wY g p e).2) + ((wY g p e).1))), .int (zI e)]) (by decide) h228 rfl rfl (Nat.le_of_ble_eq_true rfl) rfl (fun f229 h230 k231 => ?_)
                refine G_aload_n hX 2 rfl rfl d_Wr_readHead_122 ?_
                refine G_aload_n hX 2 rfl rfl d_Wr_readHead_123 ?_
                have h232 : f229 53 = ob 9 [.ref (eA E 54), .ref (eA E 55), .ref (eA E 56), .ref (eA E 57), .ref (eA E 58), .ref (eA E 47), .ref (eA E (if wk g p e % 4 = 2 then 47 else 49)), .int (zI ((wS g p e).1)), .int (zI ((wS g p e).2.1)), .int (zI mc), .int x4, .int (zI (wc g p e)), .long l] := (k231 53 (by decide)).trans ((k226 53 (by decide)).trans h220)
                refine F_get hX fg_Wr_12 d_Wr_readHead_124 53 (by decide) h232 rfl ?_
                have h233 : f229 54 = ob 1 [.ref (eA E 7), .int (zI ((wY g p e).2)), .int (zI (wE g p e))] := (k231 54 (by decide)).trans h227
                have h234 : f229 7 = iz E 700 g := (k231 7 (by decide)).trans ((k226 7 (by decide)).trans h213)
                refine F_callV hX (st := [.ref (eA E 53)]) (c_Cu_number E f229 54 7 700 g ((wY g p e).2) (wE g p e) (by decide) (by decide) (by decide) h233 h234 (by omega) hB) cm_Cu_number im_Cu_number se_Cu_number rfl ml_Wr_65 d_Wr_readHead_127 (by decide) h233 rfl rfl (Nat.le_of_ble_eq_true rfl) (by decide) ?_
                rintro _ f235 ⟨rfl, h238, k239⟩
                refine G_cast (st' := [.int (zI ((numL g (wE g p e) 4 ((wY g p e).2) 0).1)), .ref (eA E 53)]) ?_ rfl rfl rfl rfl
                have h240 : f235 52 = ob 1 [.ref (eA E 7), .int (zI (((wY g p e).2) + ((wY g p e).1))), .int (zI e)] := (k239 52 (by decide)).trans h230
                have h241 : f235 52 = ob 1 [.ref (eA E 7), .int (zI (wE g p e)), .int (zI e)] := h240
                have h242 : f235 54 = ob 1 [.ref (eA E 7), .int (zI ((wZ g p e).2)), .int (zI (wE g p e))] := h238
                refine G_top (show zI ((numL g (wE g p e) 4 ((wY g p e).2) 0).1) = zI ((wZ g p e).1) from rfl) ?_
                have hzb : -1 ≤ (wZ g p e).1 ∧ (wZ g p e).1 < 268435456 ∧ (wY g p e).2 ≤ (wZ g p e).2 ∧ (wZ g p e).2 ≤ wE g p e := num_b hB (by omega)
                have h243 : f235 53 = ob 9 [.ref (eA E 54), .ref (eA E 55), .ref (eA E 56), .ref (eA E 57), .ref (eA E 58), .ref (eA E 47), .ref (eA E (if wk g p e % 4 = 2 then 47 else 49)), .int (zI ((wS g p e).1)), .int (zI ((wS g p e).2.1)), .int (zI mc), .int x4, .int (zI (wc g p e)), .long l] := (k239 53 (by decide)).trans h232
                refine F_put hX fg_Wr_82 fp_Wr_10 d_Wr_readHead_130 53 (fs' := [.ref (eA E 54), .ref (eA E 55), .ref (eA E 56), .ref (eA E 57), .ref (eA E 58), .ref (eA E 47), .ref (eA E (if wk g p e % 4 = 2 then 47 else 49)), .int (zI ((wS g p e).1)), .int (zI ((wS g p e).2.1)), .int (zI mc), .int (zI ((wZ g p e).1)), .int (zI (wc g p e)), .long l]) (by decide) h243 rfl rfl (Nat.le_of_ble_eq_true rfl) rfl (fun f244 h245 k246 => ?_)
                refine G_aload_n hX 2 rfl rfl d_Wr_readHead_133 ?_
                refine F_get hX fg_Wr_82 d_Wr_readHead_134 53 (by decide) h245 rfl ?_
                refine G_if_ge_z hX (tgt := 143) d_Wr_readHead_137 rfl (by omega) (fun c247 => ?_) (fun c248 => ?_)
                · skip
                  refine G_aload_n hX 2 rfl rfl d_Wr_readHead_143 ?_
                  refine F_get hX fg_Wr_82 d_Wr_readHead_144 53 (by decide) h245 rfl ?_
                  refine G_aload_n hX 5 rfl rfl d_Wr_readHead_147 ?_
                  have h249 : f244 47 = ob 6 [.ref (eA E 48), .int (zI mc)] := (k246 47 (by decide)).trans ((k239 47 (by decide)).trans ((k231 47 (by decide)).trans ((k226 47 (by decide)).trans ((k204 47 (by decide)).trans ((k197 47 (by decide)).trans ((k9 47 (by decide)).trans h40))))))
                  have h250 : f244 48 = iz E 1536 m := (k246 48 (by decide)).trans ((k239 48 (by decide)).trans ((k231 48 (by decide)).trans ((k226 48 (by decide)).trans ((k204 48 (by decide)).trans ((k197 48 (by decide)).trans ((k9 48 (by decide)).trans h41))))))
                  refine F_callV hX (st := [.int (zI ((wZ g p e).1))]) (c_Ro_left E f244 47 48 1536 m mc (by decide) (by decide) (by decide) ⟨h249, h250⟩ (by omega)) cm_Ro_left im_Ro_left se_Ro_left rfl ml_Wr_85 d_Wr_readHead_148 (by decide) h249 rfl rfl (Nat.le_of_ble_eq_true rfl) (by decide) ?_
                  rintro _ f251 ⟨rfl, e254⟩
                  obtain rfl := e254.symm
                  refine G_cast (st' := [.int (zI (((1536 : Nat) : Int) - mc)), .int (zI ((wZ g p e).1))]) ?_ rfl rfl rfl rfl
                  refine G_icmp_le_z hX (tgt := 157) d_Wr_readHead_151 rfl (by omega) (fun c255 => ?_) (fun c256 => ?_)
                  · skip
                    refine G_aload_n hX 2 rfl rfl d_Wr_readHead_157 ?_
                    refine F_get hX fg_Wr_12 d_Wr_readHead_158 53 (by decide) h245 rfl ?_
                    have h257 : f244 54 = ob 1 [.ref (eA E 7), .int (zI ((wZ g p e).2)), .int (zI (wE g p e))] := (k246 54 (by decide)).trans h242
                    have h258 : f244 7 = iz E 700 g := (k246 7 (by decide)).trans ((k239 7 (by decide)).trans h234)
                    refine F_callV hX (st := []) (c_Cu_next E f244 54 7 700 g ((wZ g p e).2) (wE g p e) (by decide) (by decide) (by decide) h257 h258 (by omega)) cm_Cu_next im_Cu_next se_Cu_next rfl ml_Wr_53 d_Wr_readHead_161 (by decide) h257 rfl rfl (Nat.le_of_ble_eq_true rfl) (by decide) ?_
                    rintro _ f259 ⟨rfl, h262, k263⟩
                    refine G_cast (st' := [.int (zI (nxV g ((wZ g p e).2) (wE g p e)))]) ?_ rfl rfl rfl rfl
                    have h264 : f259 54 = ob 1 [.ref (eA E 7), .int (zI (nxP (wZ g p e).2 (wE g p e))), .int (zI (wE g p e))] := h262
                    refine G_top (show zI (nxV g ((wZ g p e).2) (wE g p e)) = zI (wQ g p e) from rfl) ?_
                    have hqb : -1 ≤ wQ g p e ∧ wQ g p e < 256 := nxV_b hB _ _
                    have hqp : (wZ g p e).2 ≤ nxP (wZ g p e).2 (wE g p e) ∧ nxP (wZ g p e).2 (wE g p e) ≤ wE g p e := by unfold nxP; split <;> omega
                    refine G_istore hX (lv' := [(6, .int (zI (wQ g p e))), (5, .int (zI ((wY g p e).1))), (4, .int (zI (wk g p e))), (0, .ref (eA E 53)), (1, .ref (eA E 52)), (2, .ref (eA E 49)), (3, .ref (eA E 47))]) (by decide) rfl d_Wr_readHead_164 ?_
                    refine G_iload hX 0 rfl d_Wr_readHead_166 ?_
                    refine G_if_le_z hX (tgt := 182) d_Wr_readHead_168 rfl (by omega) (fun c265 => ?_) (fun c266 => ?_)
                    · skip
                      refine G_iload hX 0 rfl d_Wr_readHead_182 ?_
                      refine G_if_ne_z hX (tgt := 198) d_Wr_readHead_184 rfl (by omega) (fun c267 => ?_) (fun c268 => ?_)
                      · skip
                        refine G_bipush hX (by decide) d_Wr_readHead_198 ?_
                        first
                          | (exfalso; omega)
                          | (have e1 : hdA g p e mc oc 1536 = -2 := by unfold hdA; rw [if_neg (by omega), if_neg (fun q => q hok), if_neg (by omega), if_neg (by omega), if_neg (by omega), if_neg (by omega), if_pos (by omega)]
                             rw [e1] at hE
                             have h269 : f259 53 = ob 9 [.ref (eA E 54), .ref (eA E 55), .ref (eA E 56), .ref (eA E 57), .ref (eA E 58), .ref (eA E 47), .ref (eA E (if wk g p e % 4 = 2 then 47 else 49)), .int (zI ((wS g p e).1)), .int (zI ((wS g p e).2.1)), .int (zI mc), .int (zI ((wZ g p e).1)), .int (zI (wc g p e)), .long l] := (k263 53 (by decide)).trans h245
                             have h270 : f259 55 = ob 1 [u1, .int a1, .int b1] := (k263 55 (by decide)).trans ((k246 55 (by decide)).trans ((k239 55 (by decide)).trans ((k231 55 (by decide)).trans ((k226 55 (by decide)).trans ((k204 55 (by decide)).trans ((k197 55 (by decide)).trans ((k9 55 (by decide)).trans ((k14 55 (by decide)).trans ((k7 55 (by decide)).trans ((k3 55 (by decide)).trans hS1))))))))))
                             have h271 : f259 56 = ob 1 [u2, .int a2, .int b2] := (k263 56 (by decide)).trans ((k246 56 (by decide)).trans ((k239 56 (by decide)).trans ((k231 56 (by decide)).trans ((k226 56 (by decide)).trans ((k204 56 (by decide)).trans ((k197 56 (by decide)).trans ((k9 56 (by decide)).trans ((k14 56 (by decide)).trans ((k7 56 (by decide)).trans ((k3 56 (by decide)).trans hS2))))))))))
                             have h272 : f259 57 = ob 1 [u3, .int a3, .int b3] := (k263 57 (by decide)).trans ((k246 57 (by decide)).trans ((k239 57 (by decide)).trans ((k231 57 (by decide)).trans ((k226 57 (by decide)).trans ((k204 57 (by decide)).trans ((k197 57 (by decide)).trans ((k9 57 (by decide)).trans ((k14 57 (by decide)).trans ((k7 57 (by decide)).trans ((k3 57 (by decide)).trans hS3))))))))))
                             have h273 : f259 52 = ob 1 [.ref (eA E 7), .int (zI (wE g p e)), .int (zI e)] := (k263 52 (by decide)).trans ((k246 52 (by decide)).trans h241)
                             exact F_iret hX hE d_Wr_readHead_200 (Or.inr ⟨by decide, rfl, ⟨_, h273, by omega, by omega⟩, ⟨_, _, _, _, _, _, _, _, h269⟩, ⟨_, _, _, h264⟩, ⟨_, _, _, h270⟩, ⟨_, _, _, h271⟩, ⟨_, _, _, h272⟩, (Fr.tr (Fr.tr (Fr.tr (Fr.tr (Fr.tr (Fr.tr (Fr.tr (Fr.tr (Fr.tr (Fr.tr (Fr.tr Fr.rf k3 (by decide)) k7 (by decide)) k14 (by decide)) k9 (by decide)) k197 (by decide)) k204 (by decide)) k226 (by decide)) k231 (by decide)) k239 (by decide)) k246 (by decide)) k263 (by decide))⟩))
                      · skip
                        refine G_aload_n hX 3 rfl rfl d_Wr_readHead_187 ?_
                        have h274 : f259 53 = ob 9 [.ref (eA E 54), .ref (eA E 55), .ref (eA E 56), .ref (eA E 57), .ref (eA E 58), .ref (eA E 47), .ref (eA E (if wk g p e % 4 = 2 then 47 else 49)), .int (zI ((wS g p e).1)), .int (zI ((wS g p e).2.1)), .int (zI mc), .int (zI ((wZ g p e).1)), .int (zI (wc g p e)), .long l] := (k263 53 (by decide)).trans h245
                        have h275 : f259 7 = iz E 700 g := (k263 7 (by decide)).trans h258
                        have h276 : f259 55 = ob 1 [u1, .int a1, .int b1] := (k263 55 (by decide)).trans ((k246 55 (by decide)).trans ((k239 55 (by decide)).trans ((k231 55 (by decide)).trans ((k226 55 (by decide)).trans ((k204 55 (by decide)).trans ((k197 55 (by decide)).trans ((k9 55 (by decide)).trans ((k14 55 (by decide)).trans ((k7 55 (by decide)).trans ((k3 55 (by decide)).trans hS1))))))))))
                        have h277 : f259 56 = ob 1 [u2, .int a2, .int b2] := (k263 56 (by decide)).trans ((k246 56 (by decide)).trans ((k239 56 (by decide)).trans ((k231 56 (by decide)).trans ((k226 56 (by decide)).trans ((k204 56 (by decide)).trans ((k197 56 (by decide)).trans ((k9 56 (by decide)).trans ((k14 56 (by decide)).trans ((k7 56 (by decide)).trans ((k3 56 (by decide)).trans hS2))))))))))
                        have h278 : f259 57 = ob 1 [u3, .int a3, .int b3] := (k263 57 (by decide)).trans ((k246 57 (by decide)).trans ((k239 57 (by decide)).trans ((k231 57 (by decide)).trans ((k226 57 (by decide)).trans ((k204 57 (by decide)).trans ((k197 57 (by decide)).trans ((k9 57 (by decide)).trans ((k14 57 (by decide)).trans ((k7 57 (by decide)).trans ((k3 57 (by decide)).trans hS3))))))))))
                        refine F_callV hX (st := []) (c_Wr_readParts E f259 g (nxP (wZ g p e).2 (wE g p e)) (wE g p e) ((wS g p e).1) ((wS g p e).2.1) mc ((wZ g p e).1) (wc g p e) (.ref (eA E 47)) (.ref (eA E (if wk g p e % 4 = 2 then 47 else 49))) u1 u2 u3 a1 b1 a2 b2 a3 b3 l h274 h275 hB h264 h276 h277 h278 (by omega)) cm_Wr_readParts im_Wr_readParts se_Wr_readParts rfl ml_Wr_86 d_Wr_readHead_188 (by decide) h274 rfl rfl (Nat.le_of_ble_eq_true rfl) (by decide) ?_
                        rintro _ f279 (⟨h9, rfl, h8a, h8b, h8c, h8d, h8e, k8⟩ | ⟨h9, rfl, h9s, h9t, h9u, h9v, h9w, k8⟩)
                        · skip
                          have hok2 : 0 ≤ (w1 g p e).1 ∧ 0 ≤ (w2 g p e).1 ∧ 0 ≤ (w3 g p e).1 ∧ (w1 g p e).1 + (w2 g p e).1 + (w3 g p e).1 + 4 * wc g p e = wE g p e - (w3 g p e).2 := h9
                          refine G_cast (st' := [.int (zI 1)]) ?_ rfl rfl rfl rfl
                          refine G_if_eq_z hX (tgt := 198) d_Wr_readHead_191 rfl (by omega) (fun c284 => by exfalso; omega) (fun c285 => ?_)
                          refine G_iconst hX d_Wr_readHead_194 ?_
                          refine G_goto hX (tgt := 200) d_Wr_readHead_195 rfl ?_
                          first
                            | (exfalso; omega)
                            | (have e1 : hdA g p e mc oc 1536 = 0 := by unfold hdA; rw [if_neg (by omega), if_neg (fun q => q hok), if_neg (by omega), if_neg (by omega), if_neg (by omega), if_neg (by omega), if_neg (by omega), if_neg (by omega), if_neg (by omega)]
                               have h286 : f279 52 = ob 1 [.ref (eA E 7), .int (zI (wE g p e)), .int (zI e)] := (k8 52 (by decide)).trans ((k263 52 (by decide)).trans ((k246 52 (by decide)).trans h241))
                               exact F_iret hX hE d_Wr_readHead_200 (Or.inl ⟨e1, rfl, h286, h8d, h8a, h8b, h8c, h8e, (Fr.tr (Fr.tr (Fr.tr (Fr.tr (Fr.tr (Fr.tr (Fr.tr (Fr.tr (Fr.tr (Fr.tr (Fr.tr (Fr.tr Fr.rf k3 (by decide)) k7 (by decide)) k14 (by decide)) k9 (by decide)) k197 (by decide)) k204 (by decide)) k226 (by decide)) k231 (by decide)) k239 (by decide)) k246 (by decide)) k263 (by decide)) k8 (by decide))⟩))
                        · skip
                          have hok2 : ¬ (0 ≤ (w1 g p e).1 ∧ 0 ≤ (w2 g p e).1 ∧ 0 ≤ (w3 g p e).1 ∧ (w1 g p e).1 + (w2 g p e).1 + (w3 g p e).1 + 4 * wc g p e = wE g p e - (w3 g p e).2) := h9
                          refine G_cast (st' := [.int (zI 0)]) ?_ rfl rfl rfl rfl
                          refine G_if_eq_z hX (tgt := 198) d_Wr_readHead_191 rfl (by omega) (fun c287 => ?_) (fun c288 => by exfalso; omega)
                          refine G_bipush hX (by decide) d_Wr_readHead_198 ?_
                          first
                            | (exfalso; omega)
                            | (have e1 : hdA g p e mc oc 1536 = -2 := by unfold hdA; rw [if_neg (by omega), if_neg (fun q => q hok), if_neg (by omega), if_neg (by omega), if_neg (by omega), if_neg (by omega), if_neg (by omega)]; split; rfl; rw [if_pos (by omega)]
                               rw [e1] at hE
                               have h289 : f279 52 = ob 1 [.ref (eA E 7), .int (zI (wE g p e)), .int (zI e)] := (k8 52 (by decide)).trans ((k263 52 (by decide)).trans ((k246 52 (by decide)).trans h241))
                               exact F_iret hX hE d_Wr_readHead_200 (Or.inr ⟨by decide, rfl, ⟨_, h289, by omega, by omega⟩, h9s, h9t, h9u, h9v, h9w, (Fr.tr (Fr.tr (Fr.tr (Fr.tr (Fr.tr (Fr.tr (Fr.tr (Fr.tr (Fr.tr (Fr.tr (Fr.tr (Fr.tr Fr.rf k3 (by decide)) k7 (by decide)) k14 (by decide)) k9 (by decide)) k197 (by decide)) k204 (by decide)) k226 (by decide)) k231 (by decide)) k239 (by decide)) k246 (by decide)) k263 (by decide)) k8 (by decide))⟩))
                    · skip
                      refine G_iload hX 0 rfl d_Wr_readHead_171 ?_
                      refine G_bipush hX (by decide) d_Wr_readHead_173 ?_
                      refine G_iand hX d_Wr_readHead_175 ?_
                      refine G_top (show (zI (wQ g p e) &&& zI 7) = zI (wQ g p e % 8) from zI_and7 _) ?_
                      refine G_if_eq_z hX (tgt := 182) d_Wr_readHead_176 rfl (by omega) (fun c290 => ?_) (fun c291 => ?_)
                      · skip
                        refine G_iload hX 0 rfl d_Wr_readHead_182 ?_
                        refine G_if_ne_z hX (tgt := 198) d_Wr_readHead_184 rfl (by omega) (fun c292 => ?_) (fun c293 => ?_)
                        · skip
                          refine G_bipush hX (by decide) d_Wr_readHead_198 ?_
                          first
                            | (exfalso; omega)
                            | (have e1 : hdA g p e mc oc 1536 = -2 := by unfold hdA; rw [if_neg (by omega), if_neg (fun q => q hok), if_neg (by omega), if_neg (by omega), if_neg (by omega), if_neg (by omega), if_pos (by omega)]
                               rw [e1] at hE
                               have h294 : f259 53 = ob 9 [.ref (eA E 54), .ref (eA E 55), .ref (eA E 56), .ref (eA E 57), .ref (eA E 58), .ref (eA E 47), .ref (eA E (if wk g p e % 4 = 2 then 47 else 49)), .int (zI ((wS g p e).1)), .int (zI ((wS g p e).2.1)), .int (zI mc), .int (zI ((wZ g p e).1)), .int (zI (wc g p e)), .long l] := (k263 53 (by decide)).trans h245
                               have h295 : f259 55 = ob 1 [u1, .int a1, .int b1] := (k263 55 (by decide)).trans ((k246 55 (by decide)).trans ((k239 55 (by decide)).trans ((k231 55 (by decide)).trans ((k226 55 (by decide)).trans ((k204 55 (by decide)).trans ((k197 55 (by decide)).trans ((k9 55 (by decide)).trans ((k14 55 (by decide)).trans ((k7 55 (by decide)).trans ((k3 55 (by decide)).trans hS1))))))))))
                               have h296 : f259 56 = ob 1 [u2, .int a2, .int b2] := (k263 56 (by decide)).trans ((k246 56 (by decide)).trans ((k239 56 (by decide)).trans ((k231 56 (by decide)).trans ((k226 56 (by decide)).trans ((k204 56 (by decide)).trans ((k197 56 (by decide)).trans ((k9 56 (by decide)).trans ((k14 56 (by decide)).trans ((k7 56 (by decide)).trans ((k3 56 (by decide)).trans hS2))))))))))
                               have h297 : f259 57 = ob 1 [u3, .int a3, .int b3] := (k263 57 (by decide)).trans ((k246 57 (by decide)).trans ((k239 57 (by decide)).trans ((k231 57 (by decide)).trans ((k226 57 (by decide)).trans ((k204 57 (by decide)).trans ((k197 57 (by decide)).trans ((k9 57 (by decide)).trans ((k14 57 (by decide)).trans ((k7 57 (by decide)).trans ((k3 57 (by decide)).trans hS3))))))))))
                               have h298 : f259 52 = ob 1 [.ref (eA E 7), .int (zI (wE g p e)), .int (zI e)] := (k263 52 (by decide)).trans ((k246 52 (by decide)).trans h241)
                               exact F_iret hX hE d_Wr_readHead_200 (Or.inr ⟨by decide, rfl, ⟨_, h298, by omega, by omega⟩, ⟨_, _, _, _, _, _, _, _, h294⟩, ⟨_, _, _, h264⟩, ⟨_, _, _, h295⟩, ⟨_, _, _, h296⟩, ⟨_, _, _, h297⟩, (Fr.tr (Fr.tr (Fr.tr (Fr.tr (Fr.tr (Fr.tr (Fr.tr (Fr.tr (Fr.tr (Fr.tr (Fr.tr Fr.rf k3 (by decide)) k7 (by decide)) k14 (by decide)) k9 (by decide)) k197 (by decide)) k204 (by decide)) k226 (by decide)) k231 (by decide)) k239 (by decide)) k246 (by decide)) k263 (by decide))⟩))
                        · skip
                          refine G_aload_n hX 3 rfl rfl d_Wr_readHead_187 ?_
                          have h299 : f259 53 = ob 9 [.ref (eA E 54), .ref (eA E 55), .ref (eA E 56), .ref (eA E 57), .ref (eA E 58), .ref (eA E 47), .ref (eA E (if wk g p e % 4 = 2 then 47 else 49)), .int (zI ((wS g p e).1)), .int (zI ((wS g p e).2.1)), .int (zI mc), .int (zI ((wZ g p e).1)), .int (zI (wc g p e)), .long l] := (k263 53 (by decide)).trans h245
                          have h300 : f259 7 = iz E 700 g := (k263 7 (by decide)).trans h258
                          have h301 : f259 55 = ob 1 [u1, .int a1, .int b1] := (k263 55 (by decide)).trans ((k246 55 (by decide)).trans ((k239 55 (by decide)).trans ((k231 55 (by decide)).trans ((k226 55 (by decide)).trans ((k204 55 (by decide)).trans ((k197 55 (by decide)).trans ((k9 55 (by decide)).trans ((k14 55 (by decide)).trans ((k7 55 (by decide)).trans ((k3 55 (by decide)).trans hS1))))))))))
                          have h302 : f259 56 = ob 1 [u2, .int a2, .int b2] := (k263 56 (by decide)).trans ((k246 56 (by decide)).trans ((k239 56 (by decide)).trans ((k231 56 (by decide)).trans ((k226 56 (by decide)).trans ((k204 56 (by decide)).trans ((k197 56 (by decide)).trans ((k9 56 (by decide)).trans ((k14 56 (by decide)).trans ((k7 56 (by decide)).trans ((k3 56 (by decide)).trans hS2))))))))))
                          have h303 : f259 57 = ob 1 [u3, .int a3, .int b3] := (k263 57 (by decide)).trans ((k246 57 (by decide)).trans ((k239 57 (by decide)).trans ((k231 57 (by decide)).trans ((k226 57 (by decide)).trans ((k204 57 (by decide)).trans ((k197 57 (by decide)).trans ((k9 57 (by decide)).trans ((k14 57 (by decide)).trans ((k7 57 (by decide)).trans ((k3 57 (by decide)).trans hS3))))))))))
                          refine F_callV hX (st := []) (c_Wr_readParts E f259 g (nxP (wZ g p e).2 (wE g p e)) (wE g p e) ((wS g p e).1) ((wS g p e).2.1) mc ((wZ g p e).1) (wc g p e) (.ref (eA E 47)) (.ref (eA E (if wk g p e % 4 = 2 then 47 else 49))) u1 u2 u3 a1 b1 a2 b2 a3 b3 l h299 h300 hB h264 h301 h302 h303 (by omega)) cm_Wr_readParts im_Wr_readParts se_Wr_readParts rfl ml_Wr_86 d_Wr_readHead_188 (by decide) h299 rfl rfl (Nat.le_of_ble_eq_true rfl) (by decide) ?_
                          rintro _ f304 (⟨h9, rfl, h8a, h8b, h8c, h8d, h8e, k8⟩ | ⟨h9, rfl, h9s, h9t, h9u, h9v, h9w, k8⟩)
                          · skip
                            have hok2 : 0 ≤ (w1 g p e).1 ∧ 0 ≤ (w2 g p e).1 ∧ 0 ≤ (w3 g p e).1 ∧ (w1 g p e).1 + (w2 g p e).1 + (w3 g p e).1 + 4 * wc g p e = wE g p e - (w3 g p e).2 := h9
                            refine G_cast (st' := [.int (zI 1)]) ?_ rfl rfl rfl rfl
                            refine G_if_eq_z hX (tgt := 198) d_Wr_readHead_191 rfl (by omega) (fun c309 => by exfalso; omega) (fun c310 => ?_)
                            refine G_iconst hX d_Wr_readHead_194 ?_
                            refine G_goto hX (tgt := 200) d_Wr_readHead_195 rfl ?_
                            first
                              | (exfalso; omega)
                              | (have e1 : hdA g p e mc oc 1536 = 0 := by unfold hdA; rw [if_neg (by omega), if_neg (fun q => q hok), if_neg (by omega), if_neg (by omega), if_neg (by omega), if_neg (by omega), if_neg (by omega), if_neg (by omega), if_neg (by omega)]
                                 have h311 : f304 52 = ob 1 [.ref (eA E 7), .int (zI (wE g p e)), .int (zI e)] := (k8 52 (by decide)).trans ((k263 52 (by decide)).trans ((k246 52 (by decide)).trans h241))
                                 exact F_iret hX hE d_Wr_readHead_200 (Or.inl ⟨e1, rfl, h311, h8d, h8a, h8b, h8c, h8e, (Fr.tr (Fr.tr (Fr.tr (Fr.tr (Fr.tr (Fr.tr (Fr.tr (Fr.tr (Fr.tr (Fr.tr (Fr.tr (Fr.tr Fr.rf k3 (by decide)) k7 (by decide)) k14 (by decide)) k9 (by decide)) k197 (by decide)) k204 (by decide)) k226 (by decide)) k231 (by decide)) k239 (by decide)) k246 (by decide)) k263 (by decide)) k8 (by decide))⟩))
                          · skip
                            have hok2 : ¬ (0 ≤ (w1 g p e).1 ∧ 0 ≤ (w2 g p e).1 ∧ 0 ≤ (w3 g p e).1 ∧ (w1 g p e).1 + (w2 g p e).1 + (w3 g p e).1 + 4 * wc g p e = wE g p e - (w3 g p e).2) := h9
                            refine G_cast (st' := [.int (zI 0)]) ?_ rfl rfl rfl rfl
                            refine G_if_eq_z hX (tgt := 198) d_Wr_readHead_191 rfl (by omega) (fun c312 => ?_) (fun c313 => by exfalso; omega)
                            refine G_bipush hX (by decide) d_Wr_readHead_198 ?_
                            first
                              | (exfalso; omega)
                              | (have e1 : hdA g p e mc oc 1536 = -2 := by unfold hdA; rw [if_neg (by omega), if_neg (fun q => q hok), if_neg (by omega), if_neg (by omega), if_neg (by omega), if_neg (by omega), if_neg (by omega)]; split; rfl; rw [if_pos (by omega)]
                                 rw [e1] at hE
                                 have h314 : f304 52 = ob 1 [.ref (eA E 7), .int (zI (wE g p e)), .int (zI e)] := (k8 52 (by decide)).trans ((k263 52 (by decide)).trans ((k246 52 (by decide)).trans h241))
                                 exact F_iret hX hE d_Wr_readHead_200 (Or.inr ⟨by decide, rfl, ⟨_, h314, by omega, by omega⟩, h9s, h9t, h9u, h9v, h9w, (Fr.tr (Fr.tr (Fr.tr (Fr.tr (Fr.tr (Fr.tr (Fr.tr (Fr.tr (Fr.tr (Fr.tr (Fr.tr (Fr.tr Fr.rf k3 (by decide)) k7 (by decide)) k14 (by decide)) k9 (by decide)) k197 (by decide)) k204 (by decide)) k226 (by decide)) k231 (by decide)) k239 (by decide)) k246 (by decide)) k263 (by decide)) k8 (by decide))⟩))
                      · skip
                        refine G_bipush hX (by decide) d_Wr_readHead_179 ?_
                        first
                          | (exfalso; omega)
                          | (have e1 : hdA g p e mc oc 1536 = -3 := by unfold hdA; rw [if_neg (by omega), if_neg (fun q => q hok), if_neg (by omega), if_neg (by omega), if_neg (by omega), if_pos (by omega)]
                             rw [e1] at hE
                             have h315 : f259 53 = ob 9 [.ref (eA E 54), .ref (eA E 55), .ref (eA E 56), .ref (eA E 57), .ref (eA E 58), .ref (eA E 47), .ref (eA E (if wk g p e % 4 = 2 then 47 else 49)), .int (zI ((wS g p e).1)), .int (zI ((wS g p e).2.1)), .int (zI mc), .int (zI ((wZ g p e).1)), .int (zI (wc g p e)), .long l] := (k263 53 (by decide)).trans h245
                             have h316 : f259 55 = ob 1 [u1, .int a1, .int b1] := (k263 55 (by decide)).trans ((k246 55 (by decide)).trans ((k239 55 (by decide)).trans ((k231 55 (by decide)).trans ((k226 55 (by decide)).trans ((k204 55 (by decide)).trans ((k197 55 (by decide)).trans ((k9 55 (by decide)).trans ((k14 55 (by decide)).trans ((k7 55 (by decide)).trans ((k3 55 (by decide)).trans hS1))))))))))
                             have h317 : f259 56 = ob 1 [u2, .int a2, .int b2] := (k263 56 (by decide)).trans ((k246 56 (by decide)).trans ((k239 56 (by decide)).trans ((k231 56 (by decide)).trans ((k226 56 (by decide)).trans ((k204 56 (by decide)).trans ((k197 56 (by decide)).trans ((k9 56 (by decide)).trans ((k14 56 (by decide)).trans ((k7 56 (by decide)).trans ((k3 56 (by decide)).trans hS2))))))))))
                             have h318 : f259 57 = ob 1 [u3, .int a3, .int b3] := (k263 57 (by decide)).trans ((k246 57 (by decide)).trans ((k239 57 (by decide)).trans ((k231 57 (by decide)).trans ((k226 57 (by decide)).trans ((k204 57 (by decide)).trans ((k197 57 (by decide)).trans ((k9 57 (by decide)).trans ((k14 57 (by decide)).trans ((k7 57 (by decide)).trans ((k3 57 (by decide)).trans hS3))))))))))
                             have h319 : f259 52 = ob 1 [.ref (eA E 7), .int (zI (wE g p e)), .int (zI e)] := (k263 52 (by decide)).trans ((k246 52 (by decide)).trans h241)
                             exact F_iret hX hE d_Wr_readHead_181 (Or.inr ⟨by decide, rfl, ⟨_, h319, by omega, by omega⟩, ⟨_, _, _, _, _, _, _, _, h315⟩, ⟨_, _, _, h264⟩, ⟨_, _, _, h316⟩, ⟨_, _, _, h317⟩, ⟨_, _, _, h318⟩, (Fr.tr (Fr.tr (Fr.tr (Fr.tr (Fr.tr (Fr.tr (Fr.tr (Fr.tr (Fr.tr (Fr.tr (Fr.tr Fr.rf k3 (by decide)) k7 (by decide)) k14 (by decide)) k9 (by decide)) k197 (by decide)) k204 (by decide)) k226 (by decide)) k231 (by decide)) k239 (by decide)) k246 (by decide)) k263 (by decide))⟩))
                  · skip
                    refine G_bipush hX (by decide) d_Wr_readHead_154 ?_
                    first
                      | (exfalso; omega)
                      | (have e1 : hdA g p e mc oc 1536 = -4 := by unfold hdA; rw [if_neg (by omega), if_neg (fun q => q hok), if_neg (by omega), if_neg (by omega), if_pos (by omega)]
                         rw [e1] at hE
                         have h320 : f244 54 = ob 1 [.ref (eA E 7), .int (zI ((wZ g p e).2)), .int (zI (wE g p e))] := (k246 54 (by decide)).trans h242
                         have h321 : f244 55 = ob 1 [u1, .int a1, .int b1] := (k246 55 (by decide)).trans ((k239 55 (by decide)).trans ((k231 55 (by decide)).trans ((k226 55 (by decide)).trans ((k204 55 (by decide)).trans ((k197 55 (by decide)).trans ((k9 55 (by decide)).trans ((k14 55 (by decide)).trans ((k7 55 (by decide)).trans ((k3 55 (by decide)).trans hS1)))))))))
                         have h322 : f244 56 = ob 1 [u2, .int a2, .int b2] := (k246 56 (by decide)).trans ((k239 56 (by decide)).trans ((k231 56 (by decide)).trans ((k226 56 (by decide)).trans ((k204 56 (by decide)).trans ((k197 56 (by decide)).trans ((k9 56 (by decide)).trans ((k14 56 (by decide)).trans ((k7 56 (by decide)).trans ((k3 56 (by decide)).trans hS2)))))))))
                         have h323 : f244 57 = ob 1 [u3, .int a3, .int b3] := (k246 57 (by decide)).trans ((k239 57 (by decide)).trans ((k231 57 (by decide)).trans ((k226 57 (by decide)).trans ((k204 57 (by decide)).trans ((k197 57 (by decide)).trans ((k9 57 (by decide)).trans ((k14 57 (by decide)).trans ((k7 57 (by decide)).trans ((k3 57 (by decide)).trans hS3)))))))))
                         have h324 : f244 52 = ob 1 [.ref (eA E 7), .int (zI (wE g p e)), .int (zI e)] := (k246 52 (by decide)).trans h241
                         exact F_iret hX hE d_Wr_readHead_156 (Or.inr ⟨by decide, rfl, ⟨_, h324, by omega, by omega⟩, ⟨_, _, _, _, _, _, _, _, h245⟩, ⟨_, _, _, h320⟩, ⟨_, _, _, h321⟩, ⟨_, _, _, h322⟩, ⟨_, _, _, h323⟩, (Fr.tr (Fr.tr (Fr.tr (Fr.tr (Fr.tr (Fr.tr (Fr.tr (Fr.tr (Fr.tr (Fr.tr Fr.rf k3 (by decide)) k7 (by decide)) k14 (by decide)) k9 (by decide)) k197 (by decide)) k204 (by decide)) k226 (by decide)) k231 (by decide)) k239 (by decide)) k246 (by decide))⟩))
                · skip
                  refine G_bipush hX (by decide) d_Wr_readHead_140 ?_
                  first
                    | (exfalso; omega)
                    | (have e1 : hdA g p e mc oc 1536 = -2 := by unfold hdA; rw [if_neg (by omega), if_neg (fun q => q hok), if_neg (by omega), if_pos (by omega)]
                       rw [e1] at hE
                       have h325 : f244 54 = ob 1 [.ref (eA E 7), .int (zI ((wZ g p e).2)), .int (zI (wE g p e))] := (k246 54 (by decide)).trans h242
                       have h326 : f244 55 = ob 1 [u1, .int a1, .int b1] := (k246 55 (by decide)).trans ((k239 55 (by decide)).trans ((k231 55 (by decide)).trans ((k226 55 (by decide)).trans ((k204 55 (by decide)).trans ((k197 55 (by decide)).trans ((k9 55 (by decide)).trans ((k14 55 (by decide)).trans ((k7 55 (by decide)).trans ((k3 55 (by decide)).trans hS1)))))))))
                       have h327 : f244 56 = ob 1 [u2, .int a2, .int b2] := (k246 56 (by decide)).trans ((k239 56 (by decide)).trans ((k231 56 (by decide)).trans ((k226 56 (by decide)).trans ((k204 56 (by decide)).trans ((k197 56 (by decide)).trans ((k9 56 (by decide)).trans ((k14 56 (by decide)).trans ((k7 56 (by decide)).trans ((k3 56 (by decide)).trans hS2)))))))))
                       have h328 : f244 57 = ob 1 [u3, .int a3, .int b3] := (k246 57 (by decide)).trans ((k239 57 (by decide)).trans ((k231 57 (by decide)).trans ((k226 57 (by decide)).trans ((k204 57 (by decide)).trans ((k197 57 (by decide)).trans ((k9 57 (by decide)).trans ((k14 57 (by decide)).trans ((k7 57 (by decide)).trans ((k3 57 (by decide)).trans hS3)))))))))
                       have h329 : f244 52 = ob 1 [.ref (eA E 7), .int (zI (wE g p e)), .int (zI e)] := (k246 52 (by decide)).trans h241
                       exact F_iret hX hE d_Wr_readHead_142 (Or.inr ⟨by decide, rfl, ⟨_, h329, by omega, by omega⟩, ⟨_, _, _, _, _, _, _, _, h245⟩, ⟨_, _, _, h325⟩, ⟨_, _, _, h326⟩, ⟨_, _, _, h327⟩, ⟨_, _, _, h328⟩, (Fr.tr (Fr.tr (Fr.tr (Fr.tr (Fr.tr (Fr.tr (Fr.tr (Fr.tr (Fr.tr (Fr.tr Fr.rf k3 (by decide)) k7 (by decide)) k14 (by decide)) k9 (by decide)) k197 (by decide)) k204 (by decide)) k226 (by decide)) k231 (by decide)) k239 (by decide)) k246 (by decide))⟩))
              · skip
                refine G_bipush hX (by decide) d_Wr_readHead_91 ?_
                first
                  | (exfalso; omega)
                  | (have e1 : hdA g p e mc oc 1536 = -2 := by unfold hdA; rw [if_neg (by omega), if_neg (fun q => q hok), if_pos (by omega)]
                     rw [e1] at hE
                     have h330 : f200 53 = ob 9 [.ref (eA E 54), .ref (eA E 55), .ref (eA E 56), .ref (eA E 57), .ref (eA E 58), .ref (eA E 47), .ref (eA E (if wk g p e % 4 = 2 then 47 else 49)), .int (zI ((wS g p e).1)), .int (zI ((wS g p e).2.1)), .int (zI mc), .int x4, .int (zI (wc g p e)), .long l] := (k204 53 (by decide)).trans h196
                     have h331 : f200 54 = ob 1 [u0, .int a0, .int b0] := (k204 54 (by decide)).trans ((k197 54 (by decide)).trans ((k9 54 (by decide)).trans ((k14 54 (by decide)).trans ((k7 54 (by decide)).trans ((k3 54 (by decide)).trans hS0)))))
                     have h332 : f200 55 = ob 1 [u1, .int a1, .int b1] := (k204 55 (by decide)).trans ((k197 55 (by decide)).trans ((k9 55 (by decide)).trans ((k14 55 (by decide)).trans ((k7 55 (by decide)).trans ((k3 55 (by decide)).trans hS1)))))
                     have h333 : f200 56 = ob 1 [u2, .int a2, .int b2] := (k204 56 (by decide)).trans ((k197 56 (by decide)).trans ((k9 56 (by decide)).trans ((k14 56 (by decide)).trans ((k7 56 (by decide)).trans ((k3 56 (by decide)).trans hS2)))))
                     have h334 : f200 57 = ob 1 [u3, .int a3, .int b3] := (k204 57 (by decide)).trans ((k197 57 (by decide)).trans ((k9 57 (by decide)).trans ((k14 57 (by decide)).trans ((k7 57 (by decide)).trans ((k3 57 (by decide)).trans hS3)))))
                     exact F_iret hX hE d_Wr_readHead_93 (Or.inr ⟨by decide, rfl, ⟨_, h205, by omega, by omega⟩, ⟨_, _, _, _, _, _, _, _, h330⟩, ⟨_, _, _, h331⟩, ⟨_, _, _, h332⟩, ⟨_, _, _, h333⟩, ⟨_, _, _, h334⟩, (Fr.tr (Fr.tr (Fr.tr (Fr.tr (Fr.tr (Fr.tr Fr.rf k3 (by decide)) k7 (by decide)) k14 (by decide)) k9 (by decide)) k197 (by decide)) k204 (by decide))⟩))
        · skip
          unfold sOk at hok
          obtain ⟨y1, y2, h9b⟩ := h9b0
          obtain ⟨p9, h9a, h9p⟩ := h9a0
          refine G_cast (st' := [.int (zI 0)]) ?_ rfl rfl rfl rfl
          refine G_if_ne_z hX (tgt := 55) d_Wr_readHead_49 rfl (by omega) (fun c335 => by exfalso; omega) (fun c336 => ?_)
          refine G_bipush hX (by decide) d_Wr_readHead_52 ?_
          first
            | (exfalso; omega)
            | (have e1 : hdA g p e mc oc 1536 = -2 := by unfold hdA; rw [if_neg (by omega), if_pos hok]
               rw [e1] at hE
               have h337 : f42 54 = ob 1 [u0, .int a0, .int b0] := (k9 54 (by decide)).trans ((k14 54 (by decide)).trans ((k7 54 (by decide)).trans ((k3 54 (by decide)).trans hS0)))
               have h338 : f42 55 = ob 1 [u1, .int a1, .int b1] := (k9 55 (by decide)).trans ((k14 55 (by decide)).trans ((k7 55 (by decide)).trans ((k3 55 (by decide)).trans hS1)))
               have h339 : f42 56 = ob 1 [u2, .int a2, .int b2] := (k9 56 (by decide)).trans ((k14 56 (by decide)).trans ((k7 56 (by decide)).trans ((k3 56 (by decide)).trans hS2)))
               have h340 : f42 57 = ob 1 [u3, .int a3, .int b3] := (k9 57 (by decide)).trans ((k14 57 (by decide)).trans ((k7 57 (by decide)).trans ((k3 57 (by decide)).trans hS3)))
               exact F_iret hX hE d_Wr_readHead_54 (Or.inr ⟨by decide, rfl, ⟨_, h9a, by omega, by omega⟩, ⟨_, _, _, _, _, _, _, _, h9b⟩, ⟨_, _, _, h337⟩, ⟨_, _, _, h338⟩, ⟨_, _, _, h339⟩, ⟨_, _, _, h340⟩, (Fr.tr (Fr.tr (Fr.tr (Fr.tr Fr.rf k3 (by decide)) k7 (by decide)) k14 (by decide)) k9 (by decide))⟩))
