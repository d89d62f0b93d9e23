/-! DeltaFerry$Reader; printed by wip/tools/m_rd.py -/
theorem if_ne {c : Prop} [Decidable c] {a b : Int} (h : (if c then a else b) = 0) (ha : a ≠ 0) : ¬ c ∧ b = 0 := by
  by_cases hc : c
  · rw [if_pos hc] at h; exact absurd h ha
  · rw [if_neg hc] at h; exact ⟨hc, h⟩
theorem hdK_ok {g : Int → Int} {p e mc oc nm : Int} (hB : isB g) (hp : 0 ≤ p ∧ p ≤ e ∧ e ≤ 700) (h : hdA g p e mc oc nm = 0) : (p < wE g p e ∧ wE g p e ≤ e) ∧ kT (hdK g p e mc) = mc ∧ (0 ≤ kZ (hdK g p e mc) ∧ mc + kZ (hdK g p e mc) ≤ nm) ∧ (0 ≤ kB (hdK g p e mc) ∧ kB (hdK g p e mc) ≤ kD (hdK g p e mc) ∧ kD (hdK g p e mc) ≤ kC (hdK g p e mc) ∧ kC (hdK g p e mc) ≤ kA (hdK g p e mc) ∧ kA (hdK g p e mc) = wE g p e) ∧ ((kK (hdK g p e mc) = 0 ∨ kK (hdK g p e mc) = 1) ∧ 0 ≤ kV (hdK g p e mc) ∧ kV (hdK g p e mc) < 4294967296) ∧ 0 ≤ kF (hdK g p e mc) ∧ 0 ≤ kS (hdK g p e mc) ∧ (kO (hdK g p e mc) = 2 → kF (hdK g p e mc) + kS (hdK g p e mc) ≤ mc) ∧ (¬ kO (hdK g p e mc) = 2 → kF (hdK g p e mc) + kS (hdK g p e mc) ≤ oc ∨ kF (hdK g p e mc) + kS (hdK g p e mc) = 0) := by
  unfold hdA at h
  obtain ⟨c1, h⟩ := if_ne h (by decide)
  obtain ⟨c2, h⟩ := if_ne h (by decide)
  obtain ⟨c3, h⟩ := if_ne h (by decide)
  obtain ⟨c4, h⟩ := if_ne h (by decide)
  obtain ⟨c5, h⟩ := if_ne h (by decide)
  obtain ⟨c6, h⟩ := if_ne h (by decide)
  obtain ⟨c7, h⟩ := if_ne h (by decide)
  obtain ⟨c8, h⟩ := if_ne h (by decide)
  have c9 := (if_ne h (by decide)).1
  have c2 := Decidable.not_not.mp c2
  have hlt : p < e := nxV_nn (g := g) (show 0 ≤ nxV g p e by unfold wk at c1; omega)
  have hx : nxP p e = p + 1 := nxP_lt hlt
  have hsb : nxP p e ≤ (wS g p e).2.2 ∧ (wS g p e).2.2 ≤ e := sR_b hB (by omega)
  have hyb : -1 ≤ (wY g p e).1 ∧ (wY g p e).1 < 268435456 ∧ (wS g p e).2.2 ≤ (wY g p e).2 ∧ (wY g p e).2 ≤ e := num_b hB hsb.2
  have hwE : wE g p e = (wY g p e).2 + (wY g p e).1 := rfl
  have hzb : -1 ≤ (wZ g p e).1 ∧ (wZ g p e).1 < 268435456 ∧ (wY g p e).2 ≤ (wZ g p e).2 ∧ (wZ g p e).2 ≤ wE g p e := num_b hB (by omega)
  have hqp : (wZ g p e).2 ≤ nxP (wZ g p e).2 (wE g p e) ∧ nxP (wZ g p e).2 (wE g p e) ≤ wE g p e := by unfold nxP; split <;> omega
  have h1 : -1 ≤ (w1 g p e).1 ∧ (w1 g p e).1 < 268435456 ∧ nxP (wZ g p e).2 (wE g p e) ≤ (w1 g p e).2 ∧ (w1 g p e).2 ≤ wE g p e := num_b hB hqp.2
  have h2 : -1 ≤ (w2 g p e).1 ∧ (w2 g p e).1 < 268435456 ∧ (w1 g p e).2 ≤ (w2 g p e).2 ∧ (w2 g p e).2 ≤ wE g p e := num_b hB (by omega)
  have h3 : -1 ≤ (w3 g p e).1 ∧ (w3 g p e).1 < 268435456 ∧ (w2 g p e).2 ≤ (w3 g p e).2 ∧ (w3 g p e).2 ≤ wE g p e := num_b hB (by omega)
  have hwc : wc g p e = wk g p e / 4 := rfl
  have hv : 0 ≤ cvL g (4 * wc g p e).toNat (w3 g p e).2 0 ∧ cvL g (4 * wc g p e).toNat (w3 g p e).2 0 < 4294967296 := by
    have : wc g p e = 0 ∨ wc g p e = 1 := by omega
    rcases this with e1 | e1
    · rw [e1]; exact ⟨Int.le_refl 0, (by decide : (0 : Int) < 4294967296)⟩
    · rw [e1]; exact cvL_b hB _
  have hs : wS g p e = sR g e (nxP p e) (wk g p e % 4) := rfl
  refine ⟨by omega, rfl, ⟨?_, ?_⟩, ⟨?_, ?_, ?_, ?_, ?_⟩, ⟨?_, hv⟩, ?_, ?_, ?_, ?_⟩
  · show 0 ≤ (wZ g p e).1; omega
  · show mc + (wZ g p e).1 ≤ nm; omega
  · show 0 ≤ (w3 g p e).2 + 4 * wc g p e; omega
  · show (w3 g p e).2 + 4 * wc g p e ≤ (w3 g p e).2 + 4 * wc g p e + (w1 g p e).1; omega
  · show (w3 g p e).2 + 4 * wc g p e + (w1 g p e).1 ≤ (w3 g p e).2 + 4 * wc g p e + (w1 g p e).1 + (w2 g p e).1; omega
  · show (w3 g p e).2 + 4 * wc g p e + (w1 g p e).1 + (w2 g p e).1 ≤ (w3 g p e).2 + 4 * wc g p e + (w1 g p e).1 + (w2 g p e).1 + (w3 g p e).1; omega
  · show (w3 g p e).2 + 4 * wc g p e + (w1 g p e).1 + (w2 g p e).1 + (w3 g p e).1 = wE g p e; omega
  · show wc g p e = 0 ∨ wc g p e = 1; omega
  · show 0 ≤ (wS g p e).1
    rw [hs]; unfold sR; split
    · exact Int.le_refl 0
    · dsimp only; omega
  · show 0 ≤ (wS g p e).2.1
    rw [hs]; unfold sR; split
    · exact Int.le_refl 0
    · dsimp only; omega
  · show wk g p e % 4 = 2 → (wS g p e).1 + (wS g p e).2.1 ≤ mc
    intro q
    rw [if_pos q] at c2
    rw [hs]; unfold sR; rw [if_neg (by omega)]
    dsimp only; omega
  · show ¬ wk g p e % 4 = 2 → (wS g p e).1 + (wS g p e).2.1 ≤ oc ∨ (wS g p e).1 + (wS g p e).2.1 = 0
    intro q
    rw [if_neg q] at c2
    rw [hs]; unfold sR
    split
    · right; rfl
    · left; dsimp only; omega
/-- the windows of a delta, from p up to e: the answer, the bytes made and their count -/
def rdW (g t old : Int → Int) (N S oc nm e : Int) : Nat → Int → (Int → Int) → Int → Int × (Int → Int) × Int
  | 0, _, m, c => (0, m, c)
  | k + 1, p, m, c => if p < e then (if ¬ hdA g p e c oc nm = 0 then (hdA g p e c oc nm, m, c) else if ¬ mkE (hdK g p e c) (mkF (hdK g p e c) g t old N S m) = 0 then (mkE (hdK g p e c) (mkF (hdK g p e c) g t old N S m), m, c) else rdW g t old N S oc nm e k (wE g p e) (mkM m (mkF (hdK g p e c) g t old N S m)) (c + kZ (hdK g p e c))) else (0, m, c)
section RDW
variable {g t old m : Int → Int} {N S oc nm e p c i : Int}
theorem rdW_e (h : 700 ≤ i ∨ e ≤ p) : rdW g t old N S oc nm e (700 - i).toNat p m c = (0, m, c) := by
  cases hk : (700 - i).toNat with
  | zero => rfl
  | succ k => simp only [rdW]; rw [if_neg (by omega)]
theorem rdW_h (hi : i < 700) (hp : p < e) (hh : ¬ hdA g p e c oc nm = 0) : rdW g t old N S oc nm e (700 - i).toNat p m c = (hdA g p e c oc nm, m, c) := by
  rw [show (700 - i).toNat = (700 - (i + 1)).toNat + 1 by omega]
  simp only [rdW]; rw [if_pos hp, if_pos hh]
theorem rdW_m (hi : i < 700) (hp : p < e) (hh : hdA g p e c oc nm = 0) (hm : ¬ mkE (hdK g p e c) (mkF (hdK g p e c) g t old N S m) = 0) : rdW g t old N S oc nm e (700 - i).toNat p m c = (mkE (hdK g p e c) (mkF (hdK g p e c) g t old N S m), m, c) := by
  rw [show (700 - i).toNat = (700 - (i + 1)).toNat + 1 by omega]
  simp only [rdW]; rw [if_pos hp, if_neg (fun q => q hh), if_pos hm]
theorem rdW_s (hi : i < 700) (hp : p < e) (hh : hdA g p e c oc nm = 0) (hm : mkE (hdK g p e c) (mkF (hdK g p e c) g t old N S m) = 0) : rdW g t old N S oc nm e (700 - i).toNat p m c = rdW g t old N S oc nm e (700 - (i + 1)).toNat (wE g p e) (mkM m (mkF (hdK g p e c) g t old N S m)) (c + kZ (hdK g p e c)) := by
  rw [show (700 - i).toNat = (700 - (i + 1)).toNat + 1 by omega]
  simp only [rdW]; rw [if_pos hp, if_neg (fun q => q hh), if_neg (fun q => q hm)]
end RDW
theorem hdA_b (g : Int → Int) (p e mc oc nm : Int) : -4 ≤ hdA g p e mc oc nm ∧ hdA g p e mc oc nm ≤ 0 := by
  unfold hdA
  repeat (first | omega | split)
theorem mkE_b (K : WK) (o : Option WS) : -6 ≤ mkE K o ∧ mkE K o ≤ 0 := by
  cases o with
  | none => show -6 ≤ (-2 : Int) ∧ (-2 : Int) ≤ 0; omega
  | some s =>
    obtain ⟨pd, pc, pa, c, m, nr, sm, T⟩ := s
    rw [mkE_s]
    repeat (first | omega | split)
def rbV (g : Int → Int) (p e : Int) : Int := if p + 4 ≤ e ∧ g p = 214 ∧ g (p + 1) = 195 ∧ g (p + 2) = 196 ∧ g (p + 3) = 0 then nxV g (p + 4) e else -1
theorem rbV_b {g : Int → Int} (hB : isB g) (p e : Int) : -1 ≤ rbV g p e ∧ rbV g p e < 256 := by
  have := nxV_b hB (p + 4) e
  unfold rbV
  split <;> omega
theorem rbV_lt {g : Int → Int} {p e : Int} (h : 0 ≤ rbV g p e) : p + 4 < e := by
  unfold rbV at h
  split at h
  · exact nxV_nn h
  · omega
/-- what a window reader and its cursors and rows may hold between two windows -/
def wdS (E : EV) (f : Nat → va_E) : Prop := wrS E f ∧ cuS E f 54 ∧ cuS E f 55 ∧ cuS E f 56 ∧ cuS E f 57 ∧ (∃ nr sm N S T, isA E f 58 59 60 nr sm N S T)
theorem c_Rd_readWindowsR49 (E : EV) (f : Nat → va_E) (g old m0 : Int → Int) (p0 e c0 oc N S : Int) (x1 x2 x3 : Int32) (v4 : Value) (t : Int → Int) (tc : Int) (hRd : f 44 = ob 5 [.ref (eA E 45), .ref (eA E 47), .ref (eA E 49), .ref (eA E 51), .ref (eA E 52), .ref (eA E 53), .int x1, .int x2, .int x3, v4, .ref (eA E 51), .ref (eA E 2), .ref (eA E 45), .ref (eA E 49), .int (zI N), .int (zI S)]) (hg : f 7 = iz E 700 g) (hB : isB g) (hC : isC E f 51 7 p0 e) (hM : isR E f 45 46 300 m0 c0) (hm0 : isB m0) (hO : isR E f 2 3 300 old oc) (hoB : isB old) (hws : wdS E f) (hb : 0 ≤ p0 ∧ p0 ≤ e ∧ e ≤ 700 ∧ 0 ≤ oc ∧ oc ≤ 300) (hTb : isR E f 49 50 1536 t tc) (htB : isB t) (ht3 : ∀ k, 0 ≤ k → k < 512 → t k ≤ 3) (hN : 0 ≤ N ∧ N ≤ 8 ∧ 0 ≤ S ∧ S ≤ 4) : CF yn_Rd_readWindows cd_Rd_readWindows 3 (some (.int)) 4 E [.ref (eA E 44)] f (fun r f' => r = some (.int (zI (rdW g t old N S oc 300 e 700 p0 m0 0).1)) ∧ (∃ (m1 : Int → Int) (c1 : Int), isR E f' 45 46 300 m1 c1 ∧ isB m1 ∧ (0 ≤ c1 ∧ c1 ≤ 300) ∧ ((rdW g t old N S oc 300 e 700 p0 m0 0).1 = 0 → m1 = (rdW g t old N S oc 300 e 700 p0 m0 0).2.1 ∧ c1 = (rdW g t old N S oc 300 e 700 p0 m0 0).2.2)) ∧ cuS E f' 51 ∧ wdS E f' ∧ Fr [53, 54, 55, 56, 57, 58, 59, 60, 51, 45, 46] f f') := by
  refine CF.of (by decide +kernel) (Nat.le_of_ble_eq_true rfl) fun X hX hE => ?_
  have hX : Ok E X "DeltaFerry$Reader" "readWindows" cd_Rd_readWindows 3 (some (.int)) (rl 4) := hX
  refine G_cast (lv' := [(0, .ref (eA E 44))]) ?_ rfl rfl rfl rfl
  refine G_aload_n hX 0 rfl rfl d_Rd_readWindows_0 ?_
  refine F_get hX fg_Rd_56 d_Rd_readWindows_1 44 (by decide) hRd rfl ?_
  refine G_iconst hX d_Rd_readWindows_4 ?_
  refine F_put hX fg_Rd_66 fp_Ro_1 d_Rd_readWindows_5 45 (fs' := [.ref (eA E 46), .int (zI 0)]) (by decide) hM.1 rfl rfl (Nat.le_of_ble_eq_true rfl) rfl (fun f1 h2 k3 => ?_)
  refine G_iconst hX d_Rd_readWindows_8 ?_
  refine G_istore_n hX (lv' := [(1, .int (zI 0)), (0, .ref (eA E 44))]) rfl (by decide) rfl d_Rd_readWindows_9 ?_
  refine G_iconst hX d_Rd_readWindows_10 ?_
  refine G_istore_n hX (lv' := [(2, .int (zI 0)), (1, .int (zI 0)), (0, .ref (eA E 44))]) rfl (by decide) rfl d_Rd_readWindows_11 ?_
  have hws9 : wdS E f1 := by obtain ⟨⟨v5, v6, y1, y2, y3, y4, y5, l, h1⟩, ⟨a1, a2, a3, h2⟩, ⟨b1, b2, b3, h3⟩, ⟨d1, d2, d3, h4⟩, ⟨e1, e2, e3, h5⟩, ⟨n1, n2, n3, n4, n5, h6⟩⟩ := hws; exact ⟨⟨_, _, _, _, _, _, _, _, (k3 53 (by decide)).trans h1⟩, ⟨_, _, _, (k3 54 (by decide)).trans h2⟩, ⟨_, _, _, (k3 55 (by decide)).trans h3⟩, ⟨_, _, _, (k3 56 (by decide)).trans h4⟩, ⟨_, _, _, (k3 57 (by decide)).trans h5⟩, ⟨_, _, _, _, _, ⟨(k3 58 (by decide)).trans h6.1, (k3 59 (by decide)).trans h6.2.1, (k3 60 (by decide)).trans h6.2.2⟩⟩⟩
  have loop4 : ∀ (q : Nat) (i : Int) (p : Int) (m : Int → Int) (c : Int) (f5 : Nat → va_E), (700 - i).toNat < q → (0 ≤ i ∧ i ≤ 700) → (0 ≤ p ∧ p ≤ e) → (isB m) → (0 ≤ c ∧ c ≤ 300) → ((rdW g t old N S oc 300 e 700 p0 m0 0) = rdW g t old N S oc 300 e (700 - i).toNat p m c) → (wdS E f5) → f5 51 = ob 1 [.ref (eA E 7), .int (zI p), .int (zI e)] → f5 45 = ob 6 [.ref (eA E 46), .int (zI c)] → f5 46 = iz E 300 m → Fr [53, 54, 55, 56, 57, 58, 59, 60, 51, 45, 46] f1 f5 → G E X 0 0 12 [(0, .ref (eA E 44)), (1, .int (zI 0)), (2, .int (zI i))] [] (wl E f5) := by
    intro q
    induction q with
    | zero => intro i p m c f5 hms7; exact absurd hms7 (Nat.not_lt_zero _)
    | succ q ih8 =>
      intro i p m c f5 hms7 hi hpb hm hc hs hws1 h9 h10 h11 k6
      obtain ⟨hw53, hw54, hw55, hw56, hw57, ⟨nr9, sm9, N9, S9, T9, hw58⟩⟩ := id hws1
      obtain ⟨v5, v6, y1, y2, y3, y4, y5, l5, h53o⟩ := id hw53
      refine G_iload_n hX 2 rfl rfl d_Rd_readWindows_12 ?_
      refine G_sipush hX (by decide) d_Rd_readWindows_13 ?_
      refine G_icmp_ge_z hX (tgt := 83) d_Rd_readWindows_16 rfl (by omega) (fun c12 => ?_) (fun c13 => ?_)
      · skip
        refine G_iload_n hX 1 rfl rfl d_Rd_readWindows_83 ?_
        have e1 : (rdW g t old N S oc 300 e 700 p0 m0 0) = (0, m, c) := hs.trans (rdW_e (by omega))
        rw [e1] at hE
        exact F_iret hX hE d_Rd_readWindows_84 ⟨rfl, ⟨m, c, ⟨h10, h11⟩, hm, hc, fun _ => ⟨rfl, rfl⟩⟩, cuS_c h9, hws1, (Fr.tr (Fr.tr Fr.rf k3 (by decide)) k6 (by decide))⟩
      · skip
        refine G_iload_n hX 1 rfl rfl d_Rd_readWindows_19 ?_
        refine G_if_ne_z hX (tgt := 83) d_Rd_readWindows_20 rfl (by omega) (fun c14 => by exfalso; omega) (fun c15 => ?_)
        refine G_aload_n hX 0 rfl rfl d_Rd_readWindows_23 ?_
        have h16 : f5 44 = ob 5 [.ref (eA E 45), .ref (eA E 47), .ref (eA E 49), .ref (eA E 51), .ref (eA E 52), .ref (eA E 53), .int x1, .int x2, .int x3, v4, .ref (eA E 51), .ref (eA E 2), .ref (eA E 45), .ref (eA E 49), .int (zI N), .int (zI S)] := (k6 44 (by decide)).trans ((k3 44 (by decide)).trans hRd)
        refine F_get hX fg_Rd_50 d_Rd_readWindows_24 44 (by decide) h16 rfl ?_
        have h17 : f5 7 = iz E 700 g := (k6 7 (by decide)).trans ((k3 7 (by decide)).trans hg)
        refine F_callV hX (st := []) (c_Cu_left E f5 51 7 700 g p e (by decide) (by decide) (by decide) h9 h17 (by omega)) cm_Cu_left im_Cu_left se_Cu_left rfl ml_Rd_91 d_Rd_readWindows_27 (by decide) h9 rfl rfl (Nat.le_of_ble_eq_true rfl) (by decide) ?_
        rintro _ f18 ⟨rfl, e21⟩
        obtain rfl := e21.symm
        refine G_cast (st' := [.int (zI (e - p))]) ?_ rfl rfl rfl rfl
        refine G_if_le_z hX (tgt := 83) d_Rd_readWindows_30 rfl (by omega) (fun c22 => ?_) (fun c23 => ?_)
        · skip
          refine G_iload_n hX 1 rfl rfl d_Rd_readWindows_83 ?_
          have e1 : (rdW g t old N S oc 300 e 700 p0 m0 0) = (0, m, c) := hs.trans (rdW_e (by omega))
          rw [e1] at hE
          exact F_iret hX hE d_Rd_readWindows_84 ⟨rfl, ⟨m, c, ⟨h10, h11⟩, hm, hc, fun _ => ⟨rfl, rfl⟩⟩, cuS_c h9, hws1, (Fr.tr (Fr.tr Fr.rf k3 (by decide)) k6 (by decide))⟩
        · skip
          refine G_aload_n hX 0 rfl rfl d_Rd_readWindows_33 ?_
          refine F_get hX fg_Rd_43 d_Rd_readWindows_34 44 (by decide) h16 rfl ?_
          refine G_aload_n hX 0 rfl rfl d_Rd_readWindows_37 ?_
          refine F_get hX fg_Rd_50 d_Rd_readWindows_38 44 (by decide) h16 rfl ?_
          refine G_aload_n hX 0 rfl rfl d_Rd_readWindows_41 ?_
          refine F_get hX fg_Rd_53 d_Rd_readWindows_42 44 (by decide) h16 rfl ?_
          refine G_aload_n hX 0 rfl rfl d_Rd_readWindows_45 ?_
          refine F_get hX fg_Rd_56 d_Rd_readWindows_46 44 (by decide) h16 rfl ?_
          have hlt : p < e := by omega
          have h24 : f5 2 = ob 6 [.ref (eA E 3), .int (zI oc)] := (k6 2 (by decide)).trans ((k3 2 (by decide)).trans hO.1)
          have h25 : f5 3 = iz E 300 old := (k6 3 (by decide)).trans ((k3 3 (by decide)).trans hO.2)
          refine F_callV hX (st := []) (c_Wr_readHeadR E f5 g old m p e c oc hw53 h17 hB h9 hw54 hw55 hw56 hw57 ⟨h24, h25⟩ ⟨h10, h11⟩ (by omega)) cm_Wr_readHead im_Wr_readHead se_Wr_readHead rfl ml_Rd_111 d_Rd_readWindows_49 (by decide) h53o rfl rfl (Nat.le_of_ble_eq_true rfl) (by decide) ?_
          rintro _ f26 (⟨h9, rfl, h9a, h9b, h9c, h9d, h9e, h9f, k9⟩ | ⟨h9, rfl, ⟨p9, h9a, h9p⟩, h9b, h9c, h9d, h9e, h9f, k9⟩)
          · skip
            have hko := hdK_ok (oc := oc) (nm := 300) hB (by omega) h9
            have hkt : kT (hdK g p e c) = c := hko.2.1
            refine G_cast (st' := [.int (zI 0)]) ?_ rfl rfl rfl rfl
            refine G_istore_n hX (lv' := [(1, .int (zI 0)), (0, .ref (eA E 44)), (2, .int (zI i))]) rfl (by decide) rfl d_Rd_readWindows_52 ?_
            refine G_iload_n hX 0 rfl rfl d_Rd_readWindows_53 ?_
            refine G_if_ne_z hX (tgt := 77) d_Rd_readWindows_54 rfl (by omega) (fun c31 => by exfalso; omega) (fun c32 => ?_)
            refine G_aload_n hX 1 rfl rfl d_Rd_readWindows_57 ?_
            have h33 : f26 44 = ob 5 [.ref (eA E 45), .ref (eA E 47), .ref (eA E 49), .ref (eA E 51), .ref (eA E 52), .ref (eA E 53), .int x1, .int x2, .int x3, v4, .ref (eA E 51), .ref (eA E 2), .ref (eA E 45), .ref (eA E 49), .int (zI N), .int (zI S)] := (k9 44 (by decide)).trans h16
            refine F_get hX fg_Rd_43 d_Rd_readWindows_58 44 (by decide) h33 rfl ?_
            refine G_aload_n hX 1 rfl rfl d_Rd_readWindows_61 ?_
            refine F_get hX fg_Rd_59 d_Rd_readWindows_62 44 (by decide) h33 rfl ?_
            refine G_aload_n hX 1 rfl rfl d_Rd_readWindows_65 ?_
            refine F_get hX fg_Rd_101 d_Rd_readWindows_66 44 (by decide) h33 rfl ?_
            refine G_aload_n hX 1 rfl rfl d_Rd_readWindows_69 ?_
            refine F_get hX fg_Rd_104 d_Rd_readWindows_70 44 (by decide) h33 rfl ?_
            have hksm : kS (hdK g p e c) ≤ 1536 := (Decidable.em (kO (hdK g p e c) = 2)).elim (fun q9 => by have := hko.2.2.2.2.2.2.2.1 q9; omega) (fun q9 => by have := hko.2.2.2.2.2.2.2.2 q9; omega)
            have h34 : f26 7 = iz E 700 g := (k9 7 (by decide)).trans h17
            have h35 : f26 58 = ob 0 [.ref (eA E 59), .ref (eA E 60), .int (zI N9), .int (zI S9), .int (zI T9)] := (k9 58 (by decide)).trans hw58.1
            have h36 : f26 59 = iz E 8 nr9 := (k9 59 (by decide)).trans hw58.2.1
            have h37 : f26 60 = iz E 1024 sm9 := (k9 60 (by decide)).trans hw58.2.2
            have h38 : f26 45 = ob 6 [.ref (eA E 46), .int (zI c)] := (k9 45 (by decide)).trans h10
            have h39 : f26 46 = iz E 300 m := (k9 46 (by decide)).trans h11
            have h40 : f26 2 = ob 6 [.ref (eA E 3), .int (zI oc)] := (k9 2 (by decide)).trans h24
            have h41 : f26 3 = iz E 300 old := (k9 3 (by decide)).trans h25
            have h42 : f26 49 = ob 6 [.ref (eA E 50), .int (zI tc)] := (k9 49 (by decide)).trans ((k6 49 (by decide)).trans ((k3 49 (by decide)).trans hTb.1))
            have h43 : f26 50 = iz E 1536 t := (k9 50 (by decide)).trans ((k6 50 (by decide)).trans ((k3 50 (by decide)).trans hTb.2))
            have hMT : isR E f26 45 46 300 m (kT (hdK g p e c)) := by rw [hkt]; exact ⟨h38, h39⟩
            refine F_callV hX (st := []) (c_Wr_makeR49 E f26 (hdK g p e c) g old m nr9 sm9 oc N S N9 S9 T9 t tc h9b h34 hB hMT hm (by omega) (by omega) h9c h9d h9e ⟨h35, h36, h37⟩ ⟨h40, h41⟩ hoB ⟨by omega, by omega, by rw [hkt]; exact hko.2.2.2.2.2.2.2.1, fun q9 => by have := hko.2.2.2.2.2.2.2.2 q9; omega⟩ hksm ⟨h42, h43⟩ htB ht3 hN) cm_Wr_make im_Wr_make se_Wr_make rfl ml_Rd_115 d_Rd_readWindows_73 (by decide) h9b rfl rfl (Nat.le_of_ble_eq_true rfl) (by decide) ?_
            rintro _ f44 ⟨rfl, ⟨m8, c8, ⟨h8a, h8b⟩, h8c, h8d, h8e⟩, ⟨p81, e81, h8f⟩, ⟨p82, e82, h8g⟩, ⟨p83, e83, h8h⟩, ⟨nr8, sm8, N8, S8, T8, h8i⟩, k47⟩
            have h53 : wrS E f44 := ⟨_, _, _, _, _, _, _, _, (k47 53 (by decide)).trans h9b⟩
            obtain ⟨u9, a9, b9, h54⟩ := h9f
            have h54b : cuS E f44 54 := ⟨u9, a9, b9, (k47 54 (by decide)).trans h54⟩
            have hw8 : wdS E f44 := ⟨h53, h54b, cuS_c h8f, cuS_c h8g, cuS_c h8h, ⟨nr8, sm8, N8, S8, T8, h8i⟩⟩
            have hmb := mkE_b (hdK g p e c) (mkF (hdK g p e c) g t old N S m)
            by_cases hme : mkE (hdK g p e c) (mkF (hdK g p e c) g t old N S m) = 0
            · skip
              obtain ⟨e8m, e8c⟩ := h8e hme
              refine G_cast (st' := [.int (zI (mkE (hdK g p e c) (mkF (hdK g p e c) g t old N S m)))]) ?_ rfl rfl rfl rfl
              refine G_top (show zI (mkE (hdK g p e c) (mkF (hdK g p e c) g t old N S m)) = zI 0 from by rw [hme]) ?_
              refine G_istore_n hX (lv' := [(1, .int (zI 0)), (0, .ref (eA E 44)), (2, .int (zI i))]) rfl (by decide) rfl d_Rd_readWindows_76 ?_
              refine G_iinc_z hX (lv' := [(2, .int (zI (i + 1))), (1, .int (zI 0)), (0, .ref (eA E 44))]) 2 rfl (by decide) rfl d_Rd_readWindows_77 ?_
              refine G_goto hX (tgt := 12) d_Rd_readWindows_80 rfl ?_
              have h48 : f44 51 = ob 1 [.ref (eA E 7), .int (zI (wE g p e)), .int (zI e)] := (k47 51 (by decide)).trans h9a
              refine G_loc (lv' := [(0, .ref (eA E 44)), (1, .int (zI 0)), (2, .int (zI (i + 1)))]) [2, 1, 0] rfl ?_
              exact ih8 (i + 1) (wE g p e) m8 c8 f44 (by omega) (by omega) (by omega) h8c (by omega) (by rw [hs, rdW_s (by omega) hlt h9 hme, e8m, e8c, hkt]) hw8 h48 h8a h8b (Fr.tr (Fr.tr (Fr.tr Fr.rf k6 (by decide)) k9 (by decide)) k47 (by decide))
            · skip
              refine G_cast (st' := [.int (zI (mkE (hdK g p e c) (mkF (hdK g p e c) g t old N S m)))]) ?_ rfl rfl rfl rfl
              have e9 : (rdW g t old N S oc 300 e 700 p0 m0 0) = (mkE (hdK g p e c) (mkF (hdK g p e c) g t old N S m), m, c) := hs.trans (rdW_m (by omega) hlt h9 hme)
              refine G_istore_n hX (lv' := [(1, .int (zI (mkE (hdK g p e c) (mkF (hdK g p e c) g t old N S m)))), (0, .ref (eA E 44)), (2, .int (zI i))]) rfl (by decide) rfl d_Rd_readWindows_76 ?_
              refine G_iinc_z hX (lv' := [(2, .int (zI (i + 1))), (1, .int (zI (mkE (hdK g p e c) (mkF (hdK g p e c) g t old N S m)))), (0, .ref (eA E 44))]) 2 rfl (by decide) rfl d_Rd_readWindows_77 ?_
              refine G_goto hX (tgt := 12) d_Rd_readWindows_80 rfl ?_
              refine G_iload_n hX 0 rfl rfl d_Rd_readWindows_12 ?_
              refine G_sipush hX (by decide) d_Rd_readWindows_13 ?_
              refine G_icmp_ge_z hX (tgt := 83) d_Rd_readWindows_16 rfl (by omega) (fun c49 => ?_) (fun c50 => ?_)
              · skip
                refine G_iload_n hX 1 rfl rfl d_Rd_readWindows_83 ?_
                rw [e9] at hE
                have h51 : f44 51 = ob 1 [.ref (eA E 7), .int (zI (wE g p e)), .int (zI e)] := (k47 51 (by decide)).trans h9a
                exact F_iret hX hE d_Rd_readWindows_84 ⟨rfl, ⟨m8, c8, ⟨h8a, h8b⟩, h8c, h8d, fun q => absurd q hme⟩, cuS_c h51, hw8, (Fr.tr (Fr.tr (Fr.tr (Fr.tr Fr.rf k3 (by decide)) k6 (by decide)) k9 (by decide)) k47 (by decide))⟩
              · skip
                refine G_iload_n hX 1 rfl rfl d_Rd_readWindows_19 ?_
                refine G_if_ne_z hX (tgt := 83) d_Rd_readWindows_20 rfl (by omega) (fun c52 => ?_) (fun c53 => by exfalso; omega)
                refine G_iload_n hX 1 rfl rfl d_Rd_readWindows_83 ?_
                rw [e9] at hE
                have h54 : f44 51 = ob 1 [.ref (eA E 7), .int (zI (wE g p e)), .int (zI e)] := (k47 51 (by decide)).trans h9a
                exact F_iret hX hE d_Rd_readWindows_84 ⟨rfl, ⟨m8, c8, ⟨h8a, h8b⟩, h8c, h8d, fun q => absurd q hme⟩, cuS_c h54, hw8, (Fr.tr (Fr.tr (Fr.tr (Fr.tr Fr.rf k3 (by decide)) k6 (by decide)) k9 (by decide)) k47 (by decide))⟩
          · skip
            have hdb := hdA_b g p e c oc 300
            refine G_cast (st' := [.int (zI (hdA g p e c oc 300))]) ?_ rfl rfl rfl rfl
            have e9 : (rdW g t old N S oc 300 e 700 p0 m0 0) = (hdA g p e c oc 300, m, c) := hs.trans (rdW_h (by omega) hlt h9)
            refine G_istore_n hX (lv' := [(1, .int (zI (hdA g p e c oc 300))), (0, .ref (eA E 44)), (2, .int (zI i))]) rfl (by decide) rfl d_Rd_readWindows_52 ?_
            refine G_iload_n hX 0 rfl rfl d_Rd_readWindows_53 ?_
            refine G_if_ne_z hX (tgt := 77) d_Rd_readWindows_54 rfl (by omega) (fun c55 => ?_) (fun c56 => by exfalso; omega)
            refine G_iinc_z hX (lv' := [(2, .int (zI (i + 1))), (1, .int (zI (hdA g p e c oc 300))), (0, .ref (eA E 44))]) 2 rfl (by decide) rfl d_Rd_readWindows_77 ?_
            refine G_goto hX (tgt := 12) d_Rd_readWindows_80 rfl ?_
            refine G_iload_n hX 0 rfl rfl d_Rd_readWindows_12 ?_
            refine G_sipush hX (by decide) d_Rd_readWindows_13 ?_
            refine G_icmp_ge_z hX (tgt := 83) d_Rd_readWindows_16 rfl (by omega) (fun c57 => ?_) (fun c58 => ?_)
            · skip
              refine G_iload_n hX 1 rfl rfl d_Rd_readWindows_83 ?_
              rw [e9] at hE
              have h59 : f26 45 = ob 6 [.ref (eA E 46), .int (zI c)] := (k9 45 (by decide)).trans h10
              have h60 : f26 46 = iz E 300 m := (k9 46 (by decide)).trans h11
              exact F_iret hX hE d_Rd_readWindows_84 ⟨rfl, ⟨m, c, ⟨h59, h60⟩, hm, hc, fun q => absurd q h9⟩, cuS_c h9a, ⟨h9b, h9c, h9d, h9e, h9f, ⟨_, _, _, _, _, ⟨(k9 58 (by decide)).trans hw58.1, (k9 59 (by decide)).trans hw58.2.1, (k9 60 (by decide)).trans hw58.2.2⟩⟩⟩, (Fr.tr (Fr.tr (Fr.tr Fr.rf k3 (by decide)) k6 (by decide)) k9 (by decide))⟩
            · skip
              refine G_iload_n hX 1 rfl rfl d_Rd_readWindows_19 ?_
              refine G_if_ne_z hX (tgt := 83) d_Rd_readWindows_20 rfl (by omega) (fun c61 => ?_) (fun c62 => by exfalso; omega)
              refine G_iload_n hX 1 rfl rfl d_Rd_readWindows_83 ?_
              rw [e9] at hE
              have h63 : f26 45 = ob 6 [.ref (eA E 46), .int (zI c)] := (k9 45 (by decide)).trans h10
              have h64 : f26 46 = iz E 300 m := (k9 46 (by decide)).trans h11
              exact F_iret hX hE d_Rd_readWindows_84 ⟨rfl, ⟨m, c, ⟨h63, h64⟩, hm, hc, fun q => absurd q h9⟩, cuS_c h9a, ⟨h9b, h9c, h9d, h9e, h9f, ⟨_, _, _, _, _, ⟨(k9 58 (by decide)).trans hw58.1, (k9 59 (by decide)).trans hw58.2.1, (k9 60 (by decide)).trans hw58.2.2⟩⟩⟩, (Fr.tr (Fr.tr (Fr.tr Fr.rf k3 (by decide)) k6 (by decide)) k9 (by decide))⟩
  have h65 : f1 51 = ob 1 [.ref (eA E 7), .int (zI p0), .int (zI e)] := (k3 51 (by decide)).trans hC
  have h66 : f1 46 = iz E 300 m0 := (k3 46 (by decide)).trans hM.2
  refine G_loc (lv' := [(0, .ref (eA E 44)), (1, .int (zI 0)), (2, .int (zI 0))]) [2, 1, 0] rfl ?_
  exact loop4 (_ + 1) 0 p0 m0 0 f1 (Nat.lt_succ_self _) (by omega) (by omega) hm0 (by omega) rfl hws9 h65 h2 h66 Fr.rf
theorem c_Rd_readWindowsR47 (E : EV) (f : Nat → va_E) (g old m0 : Int → Int) (p0 e c0 oc N S : Int) (x1 x2 x3 : Int32) (v4 : Value) (t : Int → Int) (tc : Int) (hRd : f 44 = ob 5 [.ref (eA E 45), .ref (eA E 47), .ref (eA E 49), .ref (eA E 51), .ref (eA E 52), .ref (eA E 53), .int x1, .int x2, .int x3, v4, .ref (eA E 51), .ref (eA E 2), .ref (eA E 45), .ref (eA E 47), .int (zI N), .int (zI S)]) (hg : f 7 = iz E 700 g) (hB : isB g) (hC : isC E f 51 7 p0 e) (hM : isR E f 45 46 300 m0 c0) (hm0 : isB m0) (hO : isR E f 2 3 300 old oc) (hoB : isB old) (hws : wdS E f) (hb : 0 ≤ p0 ∧ p0 ≤ e ∧ e ≤ 700 ∧ 0 ≤ oc ∧ oc ≤ 300) (hTb : isR E f 47 48 1536 t tc) (htB : isB t) (ht3 : ∀ k, 0 ≤ k → k < 512 → t k ≤ 3) (hN : 0 ≤ N ∧ N ≤ 8 ∧ 0 ≤ S ∧ S ≤ 4) : CF yn_Rd_readWindows cd_Rd_readWindows 3 (some (.int)) 4 E [.ref (eA E 44)] f (fun r f' => r = some (.int (zI (rdW g t old N S oc 300 e 700 p0 m0 0).1)) ∧ (∃ (m1 : Int → Int) (c1 : Int), isR E f' 45 46 300 m1 c1 ∧ isB m1 ∧ (0 ≤ c1 ∧ c1 ≤ 300) ∧ ((rdW g t old N S oc 300 e 700 p0 m0 0).1 = 0 → m1 = (rdW g t old N S oc 300 e 700 p0 m0 0).2.1 ∧ c1 = (rdW g t old N S oc 300 e 700 p0 m0 0).2.2)) ∧ cuS E f' 51 ∧ wdS E f' ∧ Fr [53, 54, 55, 56, 57, 58, 59, 60, 51, 45, 46] f f') := by
  refine CF.of (by decide +kernel) (Nat.le_of_ble_eq_true rfl) fun X hX hE => ?_
  have hX : Ok E X "DeltaFerry$Reader" "readWindows" cd_Rd_readWindows 3 (some (.int)) (rl 4) := hX
  refine G_cast (lv' := [(0, .ref (eA E 44))]) ?_ rfl rfl rfl rfl
  refine G_aload_n hX 0 rfl rfl d_Rd_readWindows_0 ?_
  refine F_get hX fg_Rd_56 d_Rd_readWindows_1 44 (by decide) hRd rfl ?_
  refine G_iconst hX d_Rd_readWindows_4 ?_
  refine F_put hX fg_Rd_66 fp_Ro_1 d_Rd_readWindows_5 45 (fs' := [.ref (eA E 46), .int (zI 0)]) (by decide) hM.1 rfl rfl (Nat.le_of_ble_eq_true rfl) rfl (fun f1 h2 k3 => ?_)
  refine G_iconst hX d_Rd_readWindows_8 ?_
  refine G_istore_n hX (lv' := [(1, .int (zI 0)), (0, .ref (eA E 44))]) rfl (by decide) rfl d_Rd_readWindows_9 ?_
  refine G_iconst hX d_Rd_readWindows_10 ?_
  refine G_istore_n hX (lv' := [(2, .int (zI 0)), (1, .int (zI 0)), (0, .ref (eA E 44))]) rfl (by decide) rfl d_Rd_readWindows_11 ?_
  have hws9 : wdS E f1 := by obtain ⟨⟨v5, v6, y1, y2, y3, y4, y5, l, h1⟩, ⟨a1, a2, a3, h2⟩, ⟨b1, b2, b3, h3⟩, ⟨d1, d2, d3, h4⟩, ⟨e1, e2, e3, h5⟩, ⟨n1, n2, n3, n4, n5, h6⟩⟩ := hws; exact ⟨⟨_, _, _, _, _, _, _, _, (k3 53 (by decide)).trans h1⟩, ⟨_, _, _, (k3 54 (by decide)).trans h2⟩, ⟨_, _, _, (k3 55 (by decide)).trans h3⟩, ⟨_, _, _, (k3 56 (by decide)).trans h4⟩, ⟨_, _, _, (k3 57 (by decide)).trans h5⟩, ⟨_, _, _, _, _, ⟨(k3 58 (by decide)).trans h6.1, (k3 59 (by decide)).trans h6.2.1, (k3 60 (by decide)).trans h6.2.2⟩⟩⟩
  have loop4 : ∀ (q : Nat) (i : Int) (p : Int) (m : Int → Int) (c : Int) (f5 : Nat → va_E), (700 - i).toNat < q → (0 ≤ i ∧ i ≤ 700) → (0 ≤ p ∧ p ≤ e) → (isB m) → (0 ≤ c ∧ c ≤ 300) → ((rdW g t old N S oc 300 e 700 p0 m0 0) = rdW g t old N S oc 300 e (700 - i).toNat p m c) → (wdS E f5) → f5 51 = ob 1 [.ref (eA E 7), .int (zI p), .int (zI e)] → f5 45 = ob 6 [.ref (eA E 46), .int (zI c)] → f5 46 = iz E 300 m → Fr [53, 54, 55, 56, 57, 58, 59, 60, 51, 45, 46] f1 f5 → G E X 0 0 12 [(0, .ref (eA E 44)), (1, .int (zI 0)), (2, .int (zI i))] [] (wl E f5) := by
    intro q
    induction q with
    | zero => intro i p m c f5 hms7; exact absurd hms7 (Nat.not_lt_zero _)
    | succ q ih8 =>
      intro i p m c f5 hms7 hi hpb hm hc hs hws1 h9 h10 h11 k6
      obtain ⟨hw53, hw54, hw55, hw56, hw57, ⟨nr9, sm9, N9, S9, T9, hw58⟩⟩ := id hws1
      obtain ⟨v5, v6, y1, y2, y3, y4, y5, l5, h53o⟩ := id hw53
      refine G_iload_n hX 2 rfl rfl d_Rd_readWindows_12 ?_
      refine G_sipush hX (by decide) d_Rd_readWindows_13 ?_
      refine G_icmp_ge_z hX (tgt := 83) d_Rd_readWindows_16 rfl (by omega) (fun c12 => ?_) (fun c13 => ?_)
      · skip
        refine G_iload_n hX 1 rfl rfl d_Rd_readWindows_83 ?_
        have e1 : (rdW g t old N S oc 300 e 700 p0 m0 0) = (0, m, c) := hs.trans (rdW_e (by omega))
        rw [e1] at hE
        exact F_iret hX hE d_Rd_readWindows_84 ⟨rfl, ⟨m, c, ⟨h10, h11⟩, hm, hc, fun _ => ⟨rfl, rfl⟩⟩, cuS_c h9, hws1, (Fr.tr (Fr.tr Fr.rf k3 (by decide)) k6 (by decide))⟩
      · skip
        refine G_iload_n hX 1 rfl rfl d_Rd_readWindows_19 ?_
        refine G_if_ne_z hX (tgt := 83) d_Rd_readWindows_20 rfl (by omega) (fun c14 => by exfalso; omega) (fun c15 => ?_)
        refine G_aload_n hX 0 rfl rfl d_Rd_readWindows_23 ?_
        have h16 : f5 44 = ob 5 [.ref (eA E 45), .ref (eA E 47), .ref (eA E 49), .ref (eA E 51), .ref (eA E 52), .ref (eA E 53), .int x1, .int x2, .int x3, v4, .ref (eA E 51), .ref (eA E 2), .ref (eA E 45), .ref (eA E 47), .int (zI N), .int (zI S)] := (k6 44 (by decide)).trans ((k3 44 (by decide)).trans hRd)
        refine F_get hX fg_Rd_50 d_Rd_readWindows_24 44 (by decide) h16 rfl ?_
        have h17 : f5 7 = iz E 700 g := (k6 7 (by decide)).trans ((k3 7 (by decide)).trans hg)
        refine F_callV hX (st := []) (c_Cu_left E f5 51 7 700 g p e (by decide) (by decide) (by decide) h9 h17 (by omega)) cm_Cu_left im_Cu_left se_Cu_left rfl ml_Rd_91 d_Rd_readWindows_27 (by decide) h9 rfl rfl (Nat.le_of_ble_eq_true rfl) (by decide) ?_
        rintro _ f18 ⟨rfl, e21⟩
        obtain rfl := e21.symm
        refine G_cast (st' := [.int (zI (e - p))]) ?_ rfl rfl rfl rfl
        refine G_if_le_z hX (tgt := 83) d_Rd_readWindows_30 rfl (by omega) (fun c22 => ?_) (fun c23 => ?_)
        · skip
          refine G_iload_n hX 1 rfl rfl d_Rd_readWindows_83 ?_
          have e1 : (rdW g t old N S oc 300 e 700 p0 m0 0) = (0, m, c) := hs.trans (rdW_e (by omega))
          rw [e1] at hE
          exact F_iret hX hE d_Rd_readWindows_84 ⟨rfl, ⟨m, c, ⟨h10, h11⟩, hm, hc, fun _ => ⟨rfl, rfl⟩⟩, cuS_c h9, hws1, (Fr.tr (Fr.tr Fr.rf k3 (by decide)) k6 (by decide))⟩
        · skip
          refine G_aload_n hX 0 rfl rfl d_Rd_readWindows_33 ?_
          refine F_get hX fg_Rd_43 d_Rd_readWindows_34 44 (by decide) h16 rfl ?_
          refine G_aload_n hX 0 rfl rfl d_Rd_readWindows_37 ?_
          refine F_get hX fg_Rd_50 d_Rd_readWindows_38 44 (by decide) h16 rfl ?_
          refine G_aload_n hX 0 rfl rfl d_Rd_readWindows_41 ?_
          refine F_get hX fg_Rd_53 d_Rd_readWindows_42 44 (by decide) h16 rfl ?_
          refine G_aload_n hX 0 rfl rfl d_Rd_readWindows_45 ?_
          refine F_get hX fg_Rd_56 d_Rd_readWindows_46 44 (by decide) h16 rfl ?_
          have hlt : p < e := by omega
          have h24 : f5 2 = ob 6 [.ref (eA E 3), .int (zI oc)] := (k6 2 (by decide)).trans ((k3 2 (by decide)).trans hO.1)
          have h25 : f5 3 = iz E 300 old := (k6 3 (by decide)).trans ((k3 3 (by decide)).trans hO.2)
          refine F_callV hX (st := []) (c_Wr_readHeadR E f5 g old m p e c oc hw53 h17 hB h9 hw54 hw55 hw56 hw57 ⟨h24, h25⟩ ⟨h10, h11⟩ (by omega)) cm_Wr_readHead im_Wr_readHead se_Wr_readHead rfl ml_Rd_111 d_Rd_readWindows_49 (by decide) h53o rfl rfl (Nat.le_of_ble_eq_true rfl) (by decide) ?_
          rintro _ f26 (⟨h9, rfl, h9a, h9b, h9c, h9d, h9e, h9f, k9⟩ | ⟨h9, rfl, ⟨p9, h9a, h9p⟩, h9b, h9c, h9d, h9e, h9f, k9⟩)
          · skip
            have hko := hdK_ok (oc := oc) (nm := 300) hB (by omega) h9
            have hkt : kT (hdK g p e c) = c := hko.2.1
            refine G_cast (st' := [.int (zI 0)]) ?_ rfl rfl rfl rfl
            refine G_istore_n hX (lv' := [(1, .int (zI 0)), (0, .ref (eA E 44)), (2, .int (zI i))]) rfl (by decide) rfl d_Rd_readWindows_52 ?_
            refine G_iload_n hX 0 rfl rfl d_Rd_readWindows_53 ?_
            refine G_if_ne_z hX (tgt := 77) d_Rd_readWindows_54 rfl (by omega) (fun c31 => by exfalso; omega) (fun c32 => ?_)
            refine G_aload_n hX 1 rfl rfl d_Rd_readWindows_57 ?_
            have h33 : f26 44 = ob 5 [.ref (eA E 45), .ref (eA E 47), .ref (eA E 49), .ref (eA E 51), .ref (eA E 52), .ref (eA E 53), .int x1, .int x2, .int x3, v4, .ref (eA E 51), .ref (eA E 2), .ref (eA E 45), .ref (eA E 47), .int (zI N), .int (zI S)] := (k9 44 (by decide)).trans h16
            refine F_get hX fg_Rd_43 d_Rd_readWindows_58 44 (by decide) h33 rfl ?_
            refine G_aload_n hX 1 rfl rfl d_Rd_readWindows_61 ?_
            refine F_get hX fg_Rd_59 d_Rd_readWindows_62 44 (by decide) h33 rfl ?_
            refine G_aload_n hX 1 rfl rfl d_Rd_readWindows_65 ?_
            refine F_get hX fg_Rd_101 d_Rd_readWindows_66 44 (by decide) h33 rfl ?_
            refine G_aload_n hX 1 rfl rfl d_Rd_readWindows_69 ?_
            refine F_get hX fg_Rd_104 d_Rd_readWindows_70 44 (by decide) h33 rfl ?_
            have hksm : kS (hdK g p e c) ≤ 1536 := (Decidable.em (kO (hdK g p e c) = 2)).elim (fun q9 => by have := hko.2.2.2.2.2.2.2.1 q9; omega) (fun q9 => by have := hko.2.2.2.2.2.2.2.2 q9; omega)
            have h34 : f26 7 = iz E 700 g := (k9 7 (by decide)).trans h17
            have h35 : f26 58 = ob 0 [.ref (eA E 59), .ref (eA E 60), .int (zI N9), .int (zI S9), .int (zI T9)] := (k9 58 (by decide)).trans hw58.1
            have h36 : f26 59 = iz E 8 nr9 := (k9 59 (by decide)).trans hw58.2.1
            have h37 : f26 60 = iz E 1024 sm9 := (k9 60 (by decide)).trans hw58.2.2
            have h38 : f26 45 = ob 6 [.ref (eA E 46), .int (zI c)] := (k9 45 (by decide)).trans h10
            have h39 : f26 46 = iz E 300 m := (k9 46 (by decide)).trans h11
            have h40 : f26 2 = ob 6 [.ref (eA E 3), .int (zI oc)] := (k9 2 (by decide)).trans h24
            have h41 : f26 3 = iz E 300 old := (k9 3 (by decide)).trans h25
            have h42 : f26 47 = ob 6 [.ref (eA E 48), .int (zI tc)] := (k9 47 (by decide)).trans ((k6 47 (by decide)).trans ((k3 47 (by decide)).trans hTb.1))
            have h43 : f26 48 = iz E 1536 t := (k9 48 (by decide)).trans ((k6 48 (by decide)).trans ((k3 48 (by decide)).trans hTb.2))
            have hMT : isR E f26 45 46 300 m (kT (hdK g p e c)) := by rw [hkt]; exact ⟨h38, h39⟩
            refine F_callV hX (st := []) (c_Wr_makeR47 E f26 (hdK g p e c) g old m nr9 sm9 oc N S N9 S9 T9 t tc h9b h34 hB hMT hm (by omega) (by omega) h9c h9d h9e ⟨h35, h36, h37⟩ ⟨h40, h41⟩ hoB ⟨by omega, by omega, by rw [hkt]; exact hko.2.2.2.2.2.2.2.1, fun q9 => by have := hko.2.2.2.2.2.2.2.2 q9; omega⟩ hksm ⟨h42, h43⟩ htB ht3 hN) cm_Wr_make im_Wr_make se_Wr_make rfl ml_Rd_115 d_Rd_readWindows_73 (by decide) h9b rfl rfl (Nat.le_of_ble_eq_true rfl) (by decide) ?_
            rintro _ f44 ⟨rfl, ⟨m8, c8, ⟨h8a, h8b⟩, h8c, h8d, h8e⟩, ⟨p81, e81, h8f⟩, ⟨p82, e82, h8g⟩, ⟨p83, e83, h8h⟩, ⟨nr8, sm8, N8, S8, T8, h8i⟩, k47⟩
            have h53 : wrS E f44 := ⟨_, _, _, _, _, _, _, _, (k47 53 (by decide)).trans h9b⟩
            obtain ⟨u9, a9, b9, h54⟩ := h9f
            have h54b : cuS E f44 54 := ⟨u9, a9, b9, (k47 54 (by decide)).trans h54⟩
            have hw8 : wdS E f44 := ⟨h53, h54b, cuS_c h8f, cuS_c h8g, cuS_c h8h, ⟨nr8, sm8, N8, S8, T8, h8i⟩⟩
            have hmb := mkE_b (hdK g p e c) (mkF (hdK g p e c) g t old N S m)
            by_cases hme : mkE (hdK g p e c) (mkF (hdK g p e c) g t old N S m) = 0
            · skip
              obtain ⟨e8m, e8c⟩ := h8e hme
              refine G_cast (st' := [.int (zI (mkE (hdK g p e c) (mkF (hdK g p e c) g t old N S m)))]) ?_ rfl rfl rfl rfl
              refine G_top (show zI (mkE (hdK g p e c) (mkF (hdK g p e c) g t old N S m)) = zI 0 from by rw [hme]) ?_
              refine G_istore_n hX (lv' := [(1, .int (zI 0)), (0, .ref (eA E 44)), (2, .int (zI i))]) rfl (by decide) rfl d_Rd_readWindows_76 ?_
              refine G_iinc_z hX (lv' := [(2, .int (zI (i + 1))), (1, .int (zI 0)), (0, .ref (eA E 44))]) 2 rfl (by decide) rfl d_Rd_readWindows_77 ?_
              refine G_goto hX (tgt := 12) d_Rd_readWindows_80 rfl ?_
              have h48 : f44 51 = ob 1 [.ref (eA E 7), .int (zI (wE g p e)), .int (zI e)] := (k47 51 (by decide)).trans h9a
              refine G_loc (lv' := [(0, .ref (eA E 44)), (1, .int (zI 0)), (2, .int (zI (i + 1)))]) [2, 1, 0] rfl ?_
              exact ih8 (i + 1) (wE g p e) m8 c8 f44 (by omega) (by omega) (by omega) h8c (by omega) (by rw [hs, rdW_s (by omega) hlt h9 hme, e8m, e8c, hkt]) hw8 h48 h8a h8b (Fr.tr (Fr.tr (Fr.tr Fr.rf k6 (by decide)) k9 (by decide)) k47 (by decide))
            · skip
              refine G_cast (st' := [.int (zI (mkE (hdK g p e c) (mkF (hdK g p e c) g t old N S m)))]) ?_ rfl rfl rfl rfl
              have e9 : (rdW g t old N S oc 300 e 700 p0 m0 0) = (mkE (hdK g p e c) (mkF (hdK g p e c) g t old N S m), m, c) := hs.trans (rdW_m (by omega) hlt h9 hme)
              refine G_istore_n hX (lv' := [(1, .int (zI (mkE (hdK g p e c) (mkF (hdK g p e c) g t old N S m)))), (0, .ref (eA E 44)), (2, .int (zI i))]) rfl (by decide) rfl d_Rd_readWindows_76 ?_
              refine G_iinc_z hX (lv' := [(2, .int (zI (i + 1))), (1, .int (zI (mkE (hdK g p e c) (mkF (hdK g p e c) g t old N S m)))), (0, .ref (eA E 44))]) 2 rfl (by decide) rfl d_Rd_readWindows_77 ?_
              refine G_goto hX (tgt := 12) d_Rd_readWindows_80 rfl ?_
              refine G_iload_n hX 0 rfl rfl d_Rd_readWindows_12 ?_
              refine G_sipush hX (by decide) d_Rd_readWindows_13 ?_
              refine G_icmp_ge_z hX (tgt := 83) d_Rd_readWindows_16 rfl (by omega) (fun c49 => ?_) (fun c50 => ?_)
              · skip
                refine G_iload_n hX 1 rfl rfl d_Rd_readWindows_83 ?_
                rw [e9] at hE
                have h51 : f44 51 = ob 1 [.ref (eA E 7), .int (zI (wE g p e)), .int (zI e)] := (k47 51 (by decide)).trans h9a
                exact F_iret hX hE d_Rd_readWindows_84 ⟨rfl, ⟨m8, c8, ⟨h8a, h8b⟩, h8c, h8d, fun q => absurd q hme⟩, cuS_c h51, hw8, (Fr.tr (Fr.tr (Fr.tr (Fr.tr Fr.rf k3 (by decide)) k6 (by decide)) k9 (by decide)) k47 (by decide))⟩
              · skip
                refine G_iload_n hX 1 rfl rfl d_Rd_readWindows_19 ?_
                refine G_if_ne_z hX (tgt := 83) d_Rd_readWindows_20 rfl (by omega) (fun c52 => ?_) (fun c53 => by exfalso; omega)
                refine G_iload_n hX 1 rfl rfl d_Rd_readWindows_83 ?_
                rw [e9] at hE
                have h54 : f44 51 = ob 1 [.ref (eA E 7), .int (zI (wE g p e)), .int (zI e)] := (k47 51 (by decide)).trans h9a
                exact F_iret hX hE d_Rd_readWindows_84 ⟨rfl, ⟨m8, c8, ⟨h8a, h8b⟩, h8c, h8d, fun q => absurd q hme⟩, cuS_c h54, hw8, (Fr.tr (Fr.tr (Fr.tr (Fr.tr Fr.rf k3 (by decide)) k6 (by decide)) k9 (by decide)) k47 (by decide))⟩
          · skip
            have hdb := hdA_b g p e c oc 300
            refine G_cast (st' := [.int (zI (hdA g p e c oc 300))]) ?_ rfl rfl rfl rfl
            have e9 : (rdW g t old N S oc 300 e 700 p0 m0 0) = (hdA g p e c oc 300, m, c) := hs.trans (rdW_h (by omega) hlt h9)
            refine G_istore_n hX (lv' := [(1, .int (zI (hdA g p e c oc 300))), (0, .ref (eA E 44)), (2, .int (zI i))]) rfl (by decide) rfl d_Rd_readWindows_52 ?_
            refine G_iload_n hX 0 rfl rfl d_Rd_readWindows_53 ?_
            refine G_if_ne_z hX (tgt := 77) d_Rd_readWindows_54 rfl (by omega) (fun c55 => ?_) (fun c56 => by exfalso; omega)
            refine G_iinc_z hX (lv' := [(2, .int (zI (i + 1))), (1, .int (zI (hdA g p e c oc 300))), (0, .ref (eA E 44))]) 2 rfl (by decide) rfl d_Rd_readWindows_77 ?_
            refine G_goto hX (tgt := 12) d_Rd_readWindows_80 rfl ?_
            refine G_iload_n hX 0 rfl rfl d_Rd_readWindows_12 ?_
            refine G_sipush hX (by decide) d_Rd_readWindows_13 ?_
            refine G_icmp_ge_z hX (tgt := 83) d_Rd_readWindows_16 rfl (by omega) (fun c57 => ?_) (fun c58 => ?_)
            · skip
              refine G_iload_n hX 1 rfl rfl d_Rd_readWindows_83 ?_
              rw [e9] at hE
              have h59 : f26 45 = ob 6 [.ref (eA E 46), .int (zI c)] := (k9 45 (by decide)).trans h10
              have h60 : f26 46 = iz E 300 m := (k9 46 (by decide)).trans h11
              exact F_iret hX hE d_Rd_readWindows_84 ⟨rfl, ⟨m, c, ⟨h59, h60⟩, hm, hc, fun q => absurd q h9⟩, cuS_c h9a, ⟨h9b, h9c, h9d, h9e, h9f, ⟨_, _, _, _, _, ⟨(k9 58 (by decide)).trans hw58.1, (k9 59 (by decide)).trans hw58.2.1, (k9 60 (by decide)).trans hw58.2.2⟩⟩⟩, (Fr.tr (Fr.tr (Fr.tr Fr.rf k3 (by decide)) k6 (by decide)) k9 (by decide))⟩
            · skip
              refine G_iload_n hX 1 rfl rfl d_Rd_readWindows_19 ?_
              refine G_if_ne_z hX (tgt := 83) d_Rd_readWindows_20 rfl (by omega) (fun c61 => ?_) (fun c62 => by exfalso; omega)
              refine G_iload_n hX 1 rfl rfl d_Rd_readWindows_83 ?_
              rw [e9] at hE
              have h63 : f26 45 = ob 6 [.ref (eA E 46), .int (zI c)] := (k9 45 (by decide)).trans h10
              have h64 : f26 46 = iz E 300 m := (k9 46 (by decide)).trans h11
              exact F_iret hX hE d_Rd_readWindows_84 ⟨rfl, ⟨m, c, ⟨h63, h64⟩, hm, hc, fun q => absurd q h9⟩, cuS_c h9a, ⟨h9b, h9c, h9d, h9e, h9f, ⟨_, _, _, _, _, ⟨(k9 58 (by decide)).trans hw58.1, (k9 59 (by decide)).trans hw58.2.1, (k9 60 (by decide)).trans hw58.2.2⟩⟩⟩, (Fr.tr (Fr.tr (Fr.tr Fr.rf k3 (by decide)) k6 (by decide)) k9 (by decide))⟩
  have h65 : f1 51 = ob 1 [.ref (eA E 7), .int (zI p0), .int (zI e)] := (k3 51 (by decide)).trans hC
  have h66 : f1 46 = iz E 300 m0 := (k3 46 (by decide)).trans hM.2
  refine G_loc (lv' := [(0, .ref (eA E 44)), (1, .int (zI 0)), (2, .int (zI 0))]) [2, 1, 0] rfl ?_
  exact loop4 (_ + 1) 0 p0 m0 0 f1 (Nat.lt_succ_self _) (by omega) (by omega) hm0 (by omega) rfl hws9 h65 h2 h66 Fr.rf
theorem c_Rd_readWindowsT49 (E : EV) (f : Nat → va_E) (g old m0 : Int → Int) (p0 e c0 oc N S : Int) (x1 x2 x3 : Int32) (v4 : Value) (hRd : f 44 = ob 5 [.ref (eA E 45), .ref (eA E 47), .ref (eA E 49), .ref (eA E 51), .ref (eA E 52), .ref (eA E 53), .int x1, .int x2, .int x3, v4, .ref (eA E 52), .ref (eA E 49), .ref (eA E 47), .ref (eA E 49), .int (zI N), .int (zI S)]) (hg : f 7 = iz E 700 g) (hB : isB g) (hC : isC E f 52 7 p0 e) (hM : isR E f 47 48 1536 m0 c0) (hm0 : isB m0) (hO : isR E f 49 50 1536 old oc) (hoB : isB old) (hws : wdS E f) (hb : 0 ≤ p0 ∧ p0 ≤ e ∧ e ≤ 700 ∧ 0 ≤ oc ∧ oc ≤ 1536) (ht3 : ∀ k, 0 ≤ k → k < 512 → old k ≤ 3) (hN : 0 ≤ N ∧ N ≤ 8 ∧ 0 ≤ S ∧ S ≤ 4) : CF yn_Rd_readWindows cd_Rd_readWindows 3 (some (.int)) 4 E [.ref (eA E 44)] f (fun r f' => r = some (.int (zI (rdW g old old N S oc 1536 e 700 p0 m0 0).1)) ∧ (∃ (m1 : Int → Int) (c1 : Int), isR E f' 47 48 1536 m1 c1 ∧ isB m1 ∧ (0 ≤ c1 ∧ c1 ≤ 1536) ∧ ((rdW g old old N S oc 1536 e 700 p0 m0 0).1 = 0 → m1 = (rdW g old old N S oc 1536 e 700 p0 m0 0).2.1 ∧ c1 = (rdW g old old N S oc 1536 e 700 p0 m0 0).2.2)) ∧ cuS E f' 52 ∧ wdS E f' ∧ Fr [53, 54, 55, 56, 57, 58, 59, 60, 52, 47, 48] f f') := by
  refine CF.of (by decide +kernel) (Nat.le_of_ble_eq_true rfl) fun X hX hE => ?_
  have hX : Ok E X "DeltaFerry$Reader" "readWindows" cd_Rd_readWindows 3 (some (.int)) (rl 4) := hX
  refine G_cast (lv' := [(0, .ref (eA E 44))]) ?_ rfl rfl rfl rfl
  refine G_aload_n hX 0 rfl rfl d_Rd_readWindows_0 ?_
  refine F_get hX fg_Rd_56 d_Rd_readWindows_1 44 (by decide) hRd rfl ?_
  refine G_iconst hX d_Rd_readWindows_4 ?_
  refine F_put hX fg_Rd_66 fp_Ro_1 d_Rd_readWindows_5 47 (fs' := [.ref (eA E 48), .int (zI 0)]) (by decide) hM.1 rfl rfl (Nat.le_of_ble_eq_true rfl) rfl (fun f1 h2 k3 => ?_)
  refine G_iconst hX d_Rd_readWindows_8 ?_
  refine G_istore_n hX (lv' := [(1, .int (zI 0)), (0, .ref (eA E 44))]) rfl (by decide) rfl d_Rd_readWindows_9 ?_
  refine G_iconst hX d_Rd_readWindows_10 ?_
  refine G_istore_n hX (lv' := [(2, .int (zI 0)), (1, .int (zI 0)), (0, .ref (eA E 44))]) rfl (by decide) rfl d_Rd_readWindows_11 ?_
  have hws9 : wdS E f1 := by obtain ⟨⟨v5, v6, y1, y2, y3, y4, y5, l, h1⟩, ⟨a1, a2, a3, h2⟩, ⟨b1, b2, b3, h3⟩, ⟨d1, d2, d3, h4⟩, ⟨e1, e2, e3, h5⟩, ⟨n1, n2, n3, n4, n5, h6⟩⟩ := hws; exact ⟨⟨_, _, _, _, _, _, _, _, (k3 53 (by decide)).trans h1⟩, ⟨_, _, _, (k3 54 (by decide)).trans h2⟩, ⟨_, _, _, (k3 55 (by decide)).trans h3⟩, ⟨_, _, _, (k3 56 (by decide)).trans h4⟩, ⟨_, _, _, (k3 57 (by decide)).trans h5⟩, ⟨_, _, _, _, _, ⟨(k3 58 (by decide)).trans h6.1, (k3 59 (by decide)).trans h6.2.1, (k3 60 (by decide)).trans h6.2.2⟩⟩⟩
  have loop4 : ∀ (q : Nat) (i : Int) (p : Int) (m : Int → Int) (c : Int) (f5 : Nat → va_E), (700 - i).toNat < q → (0 ≤ i ∧ i ≤ 700) → (0 ≤ p ∧ p ≤ e) → (isB m) → (0 ≤ c ∧ c ≤ 1536) → ((rdW g old old N S oc 1536 e 700 p0 m0 0) = rdW g old old N S oc 1536 e (700 - i).toNat p m c) → (wdS E f5) → f5 52 = ob 1 [.ref (eA E 7), .int (zI p), .int (zI e)] → f5 47 = ob 6 [.ref (eA E 48), .int (zI c)] → f5 48 = iz E 1536 m → Fr [53, 54, 55, 56, 57, 58, 59, 60, 52, 47, 48] f1 f5 → G E X 0 0 12 [(0, .ref (eA E 44)), (1, .int (zI 0)), (2, .int (zI i))] [] (wl E f5) := by
    intro q
    induction q with
    | zero => intro i p m c f5 hms7; exact absurd hms7 (Nat.not_lt_zero _)
    | succ q ih8 =>
      intro i p m c f5 hms7 hi hpb hm hc hs hws1 h9 h10 h11 k6
      obtain ⟨hw53, hw54, hw55, hw56, hw57, ⟨nr9, sm9, N9, S9, T9, hw58⟩⟩ := id hws1
      obtain ⟨v5, v6, y1, y2, y3, y4, y5, l5, h53o⟩ := id hw53
      refine G_iload_n hX 2 rfl rfl d_Rd_readWindows_12 ?_
      refine G_sipush hX (by decide) d_Rd_readWindows_13 ?_
      refine G_icmp_ge_z hX (tgt := 83) d_Rd_readWindows_16 rfl (by omega) (fun c12 => ?_) (fun c13 => ?_)
      · skip
        refine G_iload_n hX 1 rfl rfl d_Rd_readWindows_83 ?_
        have e1 : (rdW g old old N S oc 1536 e 700 p0 m0 0) = (0, m, c) := hs.trans (rdW_e (by omega))
        rw [e1] at hE
        exact F_iret hX hE d_Rd_readWindows_84 ⟨rfl, ⟨m, c, ⟨h10, h11⟩, hm, hc, fun _ => ⟨rfl, rfl⟩⟩, cuS_c h9, hws1, (Fr.tr (Fr.tr Fr.rf k3 (by decide)) k6 (by decide))⟩
      · skip
        refine G_iload_n hX 1 rfl rfl d_Rd_readWindows_19 ?_
        refine G_if_ne_z hX (tgt := 83) d_Rd_readWindows_20 rfl (by omega) (fun c14 => by exfalso; omega) (fun c15 => ?_)
        refine G_aload_n hX 0 rfl rfl d_Rd_readWindows_23 ?_
        have h16 : f5 44 = ob 5 [.ref (eA E 45), .ref (eA E 47), .ref (eA E 49), .ref (eA E 51), .ref (eA E 52), .ref (eA E 53), .int x1, .int x2, .int x3, v4, .ref (eA E 52), .ref (eA E 49), .ref (eA E 47), .ref (eA E 49), .int (zI N), .int (zI S)] := (k6 44 (by decide)).trans ((k3 44 (by decide)).trans hRd)
        refine F_get hX fg_Rd_50 d_Rd_readWindows_24 44 (by decide) h16 rfl ?_
        have h17 : f5 7 = iz E 700 g := (k6 7 (by decide)).trans ((k3 7 (by decide)).trans hg)
        refine F_callV hX (st := []) (c_Cu_left E f5 52 7 700 g p e (by decide) (by decide) (by decide) h9 h17 (by omega)) cm_Cu_left im_Cu_left se_Cu_left rfl ml_Rd_91 d_Rd_readWindows_27 (by decide) h9 rfl rfl (Nat.le_of_ble_eq_true rfl) (by decide) ?_
        rintro _ f18 ⟨rfl, e21⟩
        obtain rfl := e21.symm
        refine G_cast (st' := [.int (zI (e - p))]) ?_ rfl rfl rfl rfl
        refine G_if_le_z hX (tgt := 83) d_Rd_readWindows_30 rfl (by omega) (fun c22 => ?_) (fun c23 => ?_)
        · skip
          refine G_iload_n hX 1 rfl rfl d_Rd_readWindows_83 ?_
          have e1 : (rdW g old old N S oc 1536 e 700 p0 m0 0) = (0, m, c) := hs.trans (rdW_e (by omega))
          rw [e1] at hE
          exact F_iret hX hE d_Rd_readWindows_84 ⟨rfl, ⟨m, c, ⟨h10, h11⟩, hm, hc, fun _ => ⟨rfl, rfl⟩⟩, cuS_c h9, hws1, (Fr.tr (Fr.tr Fr.rf k3 (by decide)) k6 (by decide))⟩
        · skip
          refine G_aload_n hX 0 rfl rfl d_Rd_readWindows_33 ?_
          refine F_get hX fg_Rd_43 d_Rd_readWindows_34 44 (by decide) h16 rfl ?_
          refine G_aload_n hX 0 rfl rfl d_Rd_readWindows_37 ?_
          refine F_get hX fg_Rd_50 d_Rd_readWindows_38 44 (by decide) h16 rfl ?_
          refine G_aload_n hX 0 rfl rfl d_Rd_readWindows_41 ?_
          refine F_get hX fg_Rd_53 d_Rd_readWindows_42 44 (by decide) h16 rfl ?_
          refine G_aload_n hX 0 rfl rfl d_Rd_readWindows_45 ?_
          refine F_get hX fg_Rd_56 d_Rd_readWindows_46 44 (by decide) h16 rfl ?_
          have hlt : p < e := by omega
          have h24 : f5 49 = ob 6 [.ref (eA E 50), .int (zI oc)] := (k6 49 (by decide)).trans ((k3 49 (by decide)).trans hO.1)
          have h25 : f5 50 = iz E 1536 old := (k6 50 (by decide)).trans ((k3 50 (by decide)).trans hO.2)
          refine F_callV hX (st := []) (c_Wr_readHeadT E f5 g old m p e c oc hw53 h17 hB h9 hw54 hw55 hw56 hw57 ⟨h24, h25⟩ ⟨h10, h11⟩ (by omega)) cm_Wr_readHead im_Wr_readHead se_Wr_readHead rfl ml_Rd_111 d_Rd_readWindows_49 (by decide) h53o rfl rfl (Nat.le_of_ble_eq_true rfl) (by decide) ?_
          rintro _ f26 (⟨h9, rfl, h9a, h9b, h9c, h9d, h9e, h9f, k9⟩ | ⟨h9, rfl, ⟨p9, h9a, h9p⟩, h9b, h9c, h9d, h9e, h9f, k9⟩)
          · skip
            have hko := hdK_ok (oc := oc) (nm := 1536) hB (by omega) h9
            have hkt : kT (hdK g p e c) = c := hko.2.1
            refine G_cast (st' := [.int (zI 0)]) ?_ rfl rfl rfl rfl
            refine G_istore_n hX (lv' := [(1, .int (zI 0)), (0, .ref (eA E 44)), (2, .int (zI i))]) rfl (by decide) rfl d_Rd_readWindows_52 ?_
            refine G_iload_n hX 0 rfl rfl d_Rd_readWindows_53 ?_
            refine G_if_ne_z hX (tgt := 77) d_Rd_readWindows_54 rfl (by omega) (fun c31 => by exfalso; omega) (fun c32 => ?_)
            refine G_aload_n hX 1 rfl rfl d_Rd_readWindows_57 ?_
            have h33 : f26 44 = ob 5 [.ref (eA E 45), .ref (eA E 47), .ref (eA E 49), .ref (eA E 51), .ref (eA E 52), .ref (eA E 53), .int x1, .int x2, .int x3, v4, .ref (eA E 52), .ref (eA E 49), .ref (eA E 47), .ref (eA E 49), .int (zI N), .int (zI S)] := (k9 44 (by decide)).trans h16
            refine F_get hX fg_Rd_43 d_Rd_readWindows_58 44 (by decide) h33 rfl ?_
            refine G_aload_n hX 1 rfl rfl d_Rd_readWindows_61 ?_
            refine F_get hX fg_Rd_59 d_Rd_readWindows_62 44 (by decide) h33 rfl ?_
            refine G_aload_n hX 1 rfl rfl d_Rd_readWindows_65 ?_
            refine F_get hX fg_Rd_101 d_Rd_readWindows_66 44 (by decide) h33 rfl ?_
            refine G_aload_n hX 1 rfl rfl d_Rd_readWindows_69 ?_
            refine F_get hX fg_Rd_104 d_Rd_readWindows_70 44 (by decide) h33 rfl ?_
            have hksm : kS (hdK g p e c) ≤ 1536 := (Decidable.em (kO (hdK g p e c) = 2)).elim (fun q9 => by have := hko.2.2.2.2.2.2.2.1 q9; omega) (fun q9 => by have := hko.2.2.2.2.2.2.2.2 q9; omega)
            have h34 : f26 7 = iz E 700 g := (k9 7 (by decide)).trans h17
            have h35 : f26 58 = ob 0 [.ref (eA E 59), .ref (eA E 60), .int (zI N9), .int (zI S9), .int (zI T9)] := (k9 58 (by decide)).trans hw58.1
            have h36 : f26 59 = iz E 8 nr9 := (k9 59 (by decide)).trans hw58.2.1
            have h37 : f26 60 = iz E 1024 sm9 := (k9 60 (by decide)).trans hw58.2.2
            have h38 : f26 47 = ob 6 [.ref (eA E 48), .int (zI c)] := (k9 47 (by decide)).trans h10
            have h39 : f26 48 = iz E 1536 m := (k9 48 (by decide)).trans h11
            have h40 : f26 49 = ob 6 [.ref (eA E 50), .int (zI oc)] := (k9 49 (by decide)).trans h24
            have h41 : f26 50 = iz E 1536 old := (k9 50 (by decide)).trans h25
            have hMT : isR E f26 47 48 1536 m (kT (hdK g p e c)) := by rw [hkt]; exact ⟨h38, h39⟩
            refine F_callV hX (st := []) (c_Wr_makeT49 E f26 (hdK g p e c) g old m nr9 sm9 oc N S N9 S9 T9 h9b h34 hB hMT hm (by omega) (by omega) h9c h9d h9e ⟨h35, h36, h37⟩ ⟨h40, h41⟩ hoB ⟨by omega, by omega, by rw [hkt]; exact hko.2.2.2.2.2.2.2.1, fun q9 => by have := hko.2.2.2.2.2.2.2.2 q9; omega⟩ hksm ht3 hN) cm_Wr_make im_Wr_make se_Wr_make rfl ml_Rd_115 d_Rd_readWindows_73 (by decide) h9b rfl rfl (Nat.le_of_ble_eq_true rfl) (by decide) ?_
            rintro _ f42 ⟨rfl, ⟨m8, c8, ⟨h8a, h8b⟩, h8c, h8d, h8e⟩, ⟨p81, e81, h8f⟩, ⟨p82, e82, h8g⟩, ⟨p83, e83, h8h⟩, ⟨nr8, sm8, N8, S8, T8, h8i⟩, k45⟩
            have h53 : wrS E f42 := ⟨_, _, _, _, _, _, _, _, (k45 53 (by decide)).trans h9b⟩
            obtain ⟨u9, a9, b9, h54⟩ := h9f
            have h54b : cuS E f42 54 := ⟨u9, a9, b9, (k45 54 (by decide)).trans h54⟩
            have hw8 : wdS E f42 := ⟨h53, h54b, cuS_c h8f, cuS_c h8g, cuS_c h8h, ⟨nr8, sm8, N8, S8, T8, h8i⟩⟩
            have hmb := mkE_b (hdK g p e c) (mkF (hdK g p e c) g old old N S m)
            by_cases hme : mkE (hdK g p e c) (mkF (hdK g p e c) g old old N S m) = 0
            · skip
              obtain ⟨e8m, e8c⟩ := h8e hme
              refine G_cast (st' := [.int (zI (mkE (hdK g p e c) (mkF (hdK g p e c) g old old N S m)))]) ?_ rfl rfl rfl rfl
              refine G_top (show zI (mkE (hdK g p e c) (mkF (hdK g p e c) g old old N S m)) = zI 0 from by rw [hme]) ?_
              refine G_istore_n hX (lv' := [(1, .int (zI 0)), (0, .ref (eA E 44)), (2, .int (zI i))]) rfl (by decide) rfl d_Rd_readWindows_76 ?_
              refine G_iinc_z hX (lv' := [(2, .int (zI (i + 1))), (1, .int (zI 0)), (0, .ref (eA E 44))]) 2 rfl (by decide) rfl d_Rd_readWindows_77 ?_
              refine G_goto hX (tgt := 12) d_Rd_readWindows_80 rfl ?_
              have h46 : f42 52 = ob 1 [.ref (eA E 7), .int (zI (wE g p e)), .int (zI e)] := (k45 52 (by decide)).trans h9a
              refine G_loc (lv' := [(0, .ref (eA E 44)), (1, .int (zI 0)), (2, .int (zI (i + 1)))]) [2, 1, 0] rfl ?_
              exact ih8 (i + 1) (wE g p e) m8 c8 f42 (by omega) (by omega) (by omega) h8c (by omega) (by rw [hs, rdW_s (by omega) hlt h9 hme, e8m, e8c, hkt]) hw8 h46 h8a h8b (Fr.tr (Fr.tr (Fr.tr Fr.rf k6 (by decide)) k9 (by decide)) k45 (by decide))
            · skip
              refine G_cast (st' := [.int (zI (mkE (hdK g p e c) (mkF (hdK g p e c) g old old N S m)))]) ?_ rfl rfl rfl rfl
              have e9 : (rdW g old old N S oc 1536 e 700 p0 m0 0) = (mkE (hdK g p e c) (mkF (hdK g p e c) g old old N S m), m, c) := hs.trans (rdW_m (by omega) hlt h9 hme)
              refine G_istore_n hX (lv' := [(1, .int (zI (mkE (hdK g p e c) (mkF (hdK g p e c) g old old N S m)))), (0, .ref (eA E 44)), (2, .int (zI i))]) rfl (by decide) rfl d_Rd_readWindows_76 ?_
              refine G_iinc_z hX (lv' := [(2, .int (zI (i + 1))), (1, .int (zI (mkE (hdK g p e c) (mkF (hdK g p e c) g old old N S m)))), (0, .ref (eA E 44))]) 2 rfl (by decide) rfl d_Rd_readWindows_77 ?_
              refine G_goto hX (tgt := 12) d_Rd_readWindows_80 rfl ?_
              refine G_iload_n hX 0 rfl rfl d_Rd_readWindows_12 ?_
              refine G_sipush hX (by decide) d_Rd_readWindows_13 ?_
              refine G_icmp_ge_z hX (tgt := 83) d_Rd_readWindows_16 rfl (by omega) (fun c47 => ?_) (fun c48 => ?_)
              · skip
                refine G_iload_n hX 1 rfl rfl d_Rd_readWindows_83 ?_
                rw [e9] at hE
                have h49 : f42 52 = ob 1 [.ref (eA E 7), .int (zI (wE g p e)), .int (zI e)] := (k45 52 (by decide)).trans h9a
                exact F_iret hX hE d_Rd_readWindows_84 ⟨rfl, ⟨m8, c8, ⟨h8a, h8b⟩, h8c, h8d, fun q => absurd q hme⟩, cuS_c h49, hw8, (Fr.tr (Fr.tr (Fr.tr (Fr.tr Fr.rf k3 (by decide)) k6 (by decide)) k9 (by decide)) k45 (by decide))⟩
              · skip
                refine G_iload_n hX 1 rfl rfl d_Rd_readWindows_19 ?_
                refine G_if_ne_z hX (tgt := 83) d_Rd_readWindows_20 rfl (by omega) (fun c50 => ?_) (fun c51 => by exfalso; omega)
                refine G_iload_n hX 1 rfl rfl d_Rd_readWindows_83 ?_
                rw [e9] at hE
                have h52 : f42 52 = ob 1 [.ref (eA E 7), .int (zI (wE g p e)), .int (zI e)] := (k45 52 (by decide)).trans h9a
                exact F_iret hX hE d_Rd_readWindows_84 ⟨rfl, ⟨m8, c8, ⟨h8a, h8b⟩, h8c, h8d, fun q => absurd q hme⟩, cuS_c h52, hw8, (Fr.tr (Fr.tr (Fr.tr (Fr.tr Fr.rf k3 (by decide)) k6 (by decide)) k9 (by decide)) k45 (by decide))⟩
          · skip
            have hdb := hdA_b g p e c oc 1536
            refine G_cast (st' := [.int (zI (hdA g p e c oc 1536))]) ?_ rfl rfl rfl rfl
            have e9 : (rdW g old old N S oc 1536 e 700 p0 m0 0) = (hdA g p e c oc 1536, m, c) := hs.trans (rdW_h (by omega) hlt h9)
            refine G_istore_n hX (lv' := [(1, .int (zI (hdA g p e c oc 1536))), (0, .ref (eA E 44)), (2, .int (zI i))]) rfl (by decide) rfl d_Rd_readWindows_52 ?_
            refine G_iload_n hX 0 rfl rfl d_Rd_readWindows_53 ?_
            refine G_if_ne_z hX (tgt := 77) d_Rd_readWindows_54 rfl (by omega) (fun c53 => ?_) (fun c54 => by exfalso; omega)
            refine G_iinc_z hX (lv' := [(2, .int (zI (i + 1))), (1, .int (zI (hdA g p e c oc 1536))), (0, .ref (eA E 44))]) 2 rfl (by decide) rfl d_Rd_readWindows_77 ?_
            refine G_goto hX (tgt := 12) d_Rd_readWindows_80 rfl ?_
            refine G_iload_n hX 0 rfl rfl d_Rd_readWindows_12 ?_
            refine G_sipush hX (by decide) d_Rd_readWindows_13 ?_
            refine G_icmp_ge_z hX (tgt := 83) d_Rd_readWindows_16 rfl (by omega) (fun c55 => ?_) (fun c56 => ?_)
            · skip
              refine G_iload_n hX 1 rfl rfl d_Rd_readWindows_83 ?_
              rw [e9] at hE
              have h57 : f26 47 = ob 6 [.ref (eA E 48), .int (zI c)] := (k9 47 (by decide)).trans h10
              have h58 : f26 48 = iz E 1536 m := (k9 48 (by decide)).trans h11
              exact F_iret hX hE d_Rd_readWindows_84 ⟨rfl, ⟨m, c, ⟨h57, h58⟩, hm, hc, fun q => absurd q h9⟩, cuS_c h9a, ⟨h9b, h9c, h9d, h9e, h9f, ⟨_, _, _, _, _, ⟨(k9 58 (by decide)).trans hw58.1, (k9 59 (by decide)).trans hw58.2.1, (k9 60 (by decide)).trans hw58.2.2⟩⟩⟩, (Fr.tr (Fr.tr (Fr.tr Fr.rf k3 (by decide)) k6 (by decide)) k9 (by decide))⟩
            · skip
              refine G_iload_n hX 1 rfl rfl d_Rd_readWindows_19 ?_
              refine G_if_ne_z hX (tgt := 83) d_Rd_readWindows_20 rfl (by omega) (fun c59 => ?_) (fun c60 => by exfalso; omega)
              refine G_iload_n hX 1 rfl rfl d_Rd_readWindows_83 ?_
              rw [e9] at hE
              have h61 : f26 47 = ob 6 [.ref (eA E 48), .int (zI c)] := (k9 47 (by decide)).trans h10
              have h62 : f26 48 = iz E 1536 m := (k9 48 (by decide)).trans h11
              exact F_iret hX hE d_Rd_readWindows_84 ⟨rfl, ⟨m, c, ⟨h61, h62⟩, hm, hc, fun q => absurd q h9⟩, cuS_c h9a, ⟨h9b, h9c, h9d, h9e, h9f, ⟨_, _, _, _, _, ⟨(k9 58 (by decide)).trans hw58.1, (k9 59 (by decide)).trans hw58.2.1, (k9 60 (by decide)).trans hw58.2.2⟩⟩⟩, (Fr.tr (Fr.tr (Fr.tr Fr.rf k3 (by decide)) k6 (by decide)) k9 (by decide))⟩
  have h63 : f1 52 = ob 1 [.ref (eA E 7), .int (zI p0), .int (zI e)] := (k3 52 (by decide)).trans hC
  have h64 : f1 48 = iz E 1536 m0 := (k3 48 (by decide)).trans hM.2
  refine G_loc (lv' := [(0, .ref (eA E 44)), (1, .int (zI 0)), (2, .int (zI 0))]) [2, 1, 0] rfl ?_
  exact loop4 (_ + 1) 0 p0 m0 0 f1 (Nat.lt_succ_self _) (by omega) (by omega) hm0 (by omega) rfl hws9 h63 h2 h64 Fr.rf
