/-! DeltaFerry$WindowReader: printed by wip/tools/m_wr.py -/
abbrev WK := Int × Int × Int × Int × Int × Int × Int × Int × Int × Int × Int
def kB (K : WK) : Int := K.1
def kD (K : WK) : Int := K.2.1
def kC (K : WK) : Int := K.2.2.1
def kA (K : WK) : Int := K.2.2.2.1
def kO (K : WK) : Int := K.2.2.2.2.1
def kF (K : WK) : Int := K.2.2.2.2.2.1
def kS (K : WK) : Int := K.2.2.2.2.2.2.1
def kT (K : WK) : Int := K.2.2.2.2.2.2.2.1
def kZ (K : WK) : Int := K.2.2.2.2.2.2.2.2.1
def kK (K : WK) : Int := K.2.2.2.2.2.2.2.2.2.1
def kV (K : WK) : Int := K.2.2.2.2.2.2.2.2.2.2
/-- the size of an instruction, and the place behind it -/
def szR (g : Int → Int) (e ic p : Int) : Int × Int := if ic = 0 then numL g e 4 p 0 else (ic, p)
def sbW (K : WK) (old m : Int → Int) (a : Int) : Int := if a < kS K then (if kO K = 2 then m (kF K + a) else old (kF K + a)) else m (kT K + a - kS K)
def cpL (K : WK) (old : Int → Int) : Nat → Int → (Int → Int) → Int → (Int → Int)
  | 0, _, m, _ => m
  | k + 1, a, m, c => cpL K old k (a + 1) (uz m c (sbW K old m a)) (c + 1)
theorem cpL_go {K : WK} {old m : Int → Int} {a c b : Int} (h : a < b) : cpL K old (b - a).toNat a m c = cpL K old (b - (a + 1)).toNat (a + 1) (uz m c (sbW K old m a)) (c + 1) := by
  rw [show (b - a).toNat = (b - (a + 1)).toNat + 1 by omega]
  rfl
theorem cpL_e {K : WK} {old m : Int → Int} {a c b : Int} (h : b ≤ a) : cpL K old (b - a).toNat a m c = m := by
  rw [show (b - a).toNat = 0 by omega]
  rfl
theorem isB_pz {g : Int → Int} {c n : Int} {b : Int → Int} (h : isB g) (hb : ∀ k, 0 ≤ b k ∧ b k < 256) : isB (pz g c b n) := fun k => by
  unfold pz
  split
  · exact hb _
  · exact h k
theorem isB_sb {K : WK} {old m : Int → Int} (ho : isB old) (hm : isB m) (a : Int) : 0 ≤ sbW K old m a ∧ sbW K old m a < 256 := by
  unfold sbW
  split
  · split
    · exact hm _
    · exact ho _
  · exact hm _
theorem isB_cp {K : WK} {old : Int → Int} (ho : isB old) : ∀ (k : Nat) (a : Int) (m : Int → Int) (c : Int), isB m → isB (cpL K old k a m c) := by
  intro k
  induction k with
  | zero => intro a m c h; exact h
  | succ k ih => intro a m c h; exact ih _ _ _ (isB_uz h (isB_sb ho h a))
theorem pz_0 (g b : Int → Int) (c : Int) : pz g c b 0 = g := by
  funext j
  unfold pz
  rw [if_neg (by omega)]
theorem pz_uz {g : Int → Int} {c n v : Int} (h : 0 ≤ n) : uz (pz g c (fun _ => v) n) (c + n) v = pz g c (fun _ => v) (n + 1) := by
  funext j
  unfold uz pz
  by_cases h1 : j = c + n
  · rw [if_pos h1, if_pos (by omega)]
  · rw [if_neg h1]
    by_cases h2 : c ≤ j ∧ j < c + n
    · rw [if_pos h2, if_pos (by omega)]
    · rw [if_neg h2, if_neg (by omega)]
def isWrR (E : EV) (f : Nat → va_E) (K : WK) : Prop := f 53 = ob 9 [.ref (eA E 54), .ref (eA E 55), .ref (eA E 56), .ref (eA E 57), .ref (eA E 58), .ref (eA E 45), .ref (eA E (if kO K = 2 then 45 else 2)), .int (zI (kF K)), .int (zI (kS K)), .int (zI (kT K)), .int (zI (kZ K)), .int (zI (kK K)), .long (zL (kV K))]
def isWrT (E : EV) (f : Nat → va_E) (K : WK) : Prop := f 53 = ob 9 [.ref (eA E 54), .ref (eA E 55), .ref (eA E 56), .ref (eA E 57), .ref (eA E 58), .ref (eA E 47), .ref (eA E (if kO K = 2 then 47 else 49)), .int (zI (kF K)), .int (zI (kS K)), .int (zI (kT K)), .int (zI (kZ K)), .int (zI (kK K)), .long (zL (kV K))]
theorem c_Wr_readSizeR (E : EV) (f : Nat → va_E) (K : WK) (g m : Int → Int) (pc c ic : Int) (hW : isWrR E f K) (hg : f 7 = iz E 700 g) (hB : isB g) (hM : isR E f 45 46 300 m c) (hm : isB m) (hk : 0 ≤ kT K ∧ 0 ≤ kZ K ∧ kT K + kZ K ≤ 300 ∧ kT K ≤ c ∧ c ≤ kT K + kZ K) (hC : isC E f 56 7 pc (kC K)) (hpc : 0 ≤ pc ∧ pc ≤ kC K ∧ kC K ≤ 700) (hic : 0 ≤ ic ∧ ic < 256) : CF yn_Wr_readSize cd_Wr_readSize 3 (some (.int)) 1 E [.ref (eA E 53), .int (zI ic)] f (fun r f' => r = some (.int (zI (if (szR g (kC K) ic pc).1 ≤ kT K + kZ K - c then (szR g (kC K) ic pc).1 else -1))) ∧ isC E f' 56 7 (szR g (kC K) ic pc).2 (kC K) ∧ Fr [56] f f') := by
  refine CF.of (by decide +kernel) (Nat.le_of_ble_eq_true rfl) fun X hX hE => ?_
  have hX : Ok E X "DeltaFerry$WindowReader" "readSize" cd_Wr_readSize 3 (some (.int)) (rl 1) := hX
  refine G_cast (lv' := [(0, .ref (eA E 53)), (1, .int (zI ic))]) ?_ rfl rfl rfl rfl
  have hnb := num_b (g := g) (e := kC K) (p := pc) hB (by omega)
  refine G_iload_n hX 1 rfl rfl d_Wr_readSize_0 ?_
  refine G_if_ne_z hX (tgt := 14) d_Wr_readSize_1 rfl (by omega) (fun c1 => ?_) (fun c2 => ?_)
  · skip
    refine G_iload_n hX 1 rfl rfl d_Wr_readSize_14 ?_
    refine G_istore_n hX (lv' := [(2, .int (zI ic)), (0, .ref (eA E 53)), (1, .int (zI ic))]) rfl (by decide) rfl d_Wr_readSize_15 ?_
    refine G_iload_n hX 0 rfl rfl d_Wr_readSize_16 ?_
    refine G_aload_n hX 1 rfl rfl d_Wr_readSize_17 ?_
    refine F_get hX fg_Wr_50 d_Wr_readSize_18 53 (by decide) hW rfl ?_
    refine G_aload_n hX 1 rfl rfl d_Wr_readSize_21 ?_
    refine F_get hX fg_Wr_82 d_Wr_readSize_22 53 (by decide) hW rfl ?_
    refine G_iadd_z hX d_Wr_readSize_25 ?_
    refine G_aload_n hX 1 rfl rfl d_Wr_readSize_26 ?_
    refine F_get hX fg_Wr_39 d_Wr_readSize_27 53 (by decide) hW rfl ?_
    refine F_get hX fg_Wr_46 d_Wr_readSize_30 45 (by decide) hM.1 rfl ?_
    refine G_isub_z hX d_Wr_readSize_33 ?_
    refine G_icmp_gt_z hX (tgt := 41) d_Wr_readSize_34 rfl (by omega) (fun c3 => ?_) (fun c4 => ?_)
    · skip
      refine G_iconst hX d_Wr_readSize_41 ?_
      have e9 : szR g (kC K) ic pc = (ic, pc) := by unfold szR; rw [if_neg (by omega)]
      rw [e9] at hE
      exact F_iret hX hE d_Wr_readSize_42 ⟨by rw [if_neg (by first | omega | (dsimp only; omega))], hC, Fr.rf⟩
    · skip
      refine G_iload_n hX 0 rfl rfl d_Wr_readSize_37 ?_
      refine G_goto hX (tgt := 42) d_Wr_readSize_38 rfl ?_
      have e9 : szR g (kC K) ic pc = (ic, pc) := by unfold szR; rw [if_neg (by omega)]
      rw [e9] at hE
      exact F_iret hX hE d_Wr_readSize_42 ⟨by rw [if_pos (by first | omega | (dsimp only; omega))], hC, Fr.rf⟩
  · skip
    refine G_aload_n hX 0 rfl rfl d_Wr_readSize_4 ?_
    refine F_get hX fg_Wr_21 d_Wr_readSize_5 53 (by decide) hW rfl ?_
    refine F_callV hX (st := []) (c_Cu_number E f 56 7 700 g pc (kC K) (by decide) (by decide) (by decide) hC hg (by omega) hB) cm_Cu_number im_Cu_number se_Cu_number rfl ml_Wr_65 d_Wr_readSize_8 (by decide) hC rfl rfl (Nat.le_of_ble_eq_true rfl) (by decide) ?_
    rintro _ f5 ⟨rfl, h8, k9⟩
    refine G_cast (st' := [.int (zI ((numL g (kC K) 4 pc 0).1))]) ?_ rfl rfl rfl rfl
    refine G_goto hX (tgt := 15) d_Wr_readSize_11 rfl ?_
    refine G_istore_n hX (lv' := [(2, .int (zI ((numL g (kC K) 4 pc 0).1))), (0, .ref (eA E 53)), (1, .int (zI ic))]) rfl (by decide) rfl d_Wr_readSize_15 ?_
    refine G_iload_n hX 0 rfl rfl d_Wr_readSize_16 ?_
    refine G_aload_n hX 1 rfl rfl d_Wr_readSize_17 ?_
    have h10 : f5 53 = ob 9 [.ref (eA E 54), .ref (eA E 55), .ref (eA E 56), .ref (eA E 57), .ref (eA E 58), .ref (eA E 45), .ref (eA E (if kO K = 2 then 45 else 2)), .int (zI (kF K)), .int (zI (kS K)), .int (zI (kT K)), .int (zI (kZ K)), .int (zI (kK K)), .long (zL (kV K))] := (k9 53 (by decide)).trans hW
    refine F_get hX fg_Wr_50 d_Wr_readSize_18 53 (by decide) h10 rfl ?_
    refine G_aload_n hX 1 rfl rfl d_Wr_readSize_21 ?_
    refine F_get hX fg_Wr_82 d_Wr_readSize_22 53 (by decide) h10 rfl ?_
    refine G_iadd_z hX d_Wr_readSize_25 ?_
    refine G_aload_n hX 1 rfl rfl d_Wr_readSize_26 ?_
    refine F_get hX fg_Wr_39 d_Wr_readSize_27 53 (by decide) h10 rfl ?_
    have h11 : f5 45 = ob 6 [.ref (eA E 46), .int (zI c)] := (k9 45 (by decide)).trans hM.1
    refine F_get hX fg_Wr_46 d_Wr_readSize_30 45 (by decide) h11 rfl ?_
    refine G_isub_z hX d_Wr_readSize_33 ?_
    refine G_icmp_gt_z hX (tgt := 41) d_Wr_readSize_34 rfl (by omega) (fun c12 => ?_) (fun c13 => ?_)
    · skip
      refine G_iconst hX d_Wr_readSize_41 ?_
      have e9 : szR g (kC K) ic pc = numL g (kC K) 4 pc 0 := by unfold szR; rw [if_pos (by omega)]
      rw [e9] at hE
      exact F_iret hX hE d_Wr_readSize_42 ⟨by rw [if_neg (by first | omega | (dsimp only; omega))], h8, (Fr.tr Fr.rf k9 (by decide))⟩
    · skip
      refine G_iload_n hX 0 rfl rfl d_Wr_readSize_37 ?_
      refine G_goto hX (tgt := 42) d_Wr_readSize_38 rfl ?_
      have e9 : szR g (kC K) ic pc = numL g (kC K) 4 pc 0 := by unfold szR; rw [if_pos (by omega)]
      rw [e9] at hE
      exact F_iret hX hE d_Wr_readSize_42 ⟨by rw [if_pos (by first | omega | (dsimp only; omega))], h8, (Fr.tr Fr.rf k9 (by decide))⟩
theorem c_Wr_makeAddR (E : EV) (f : Nat → va_E) (K : WK) (g m : Int → Int) (pd c n : Int) (hW : isWrR E f K) (hg : f 7 = iz E 700 g) (hB : isB g) (hM : isR E f 45 46 300 m c) (hm : isB m) (hk : 0 ≤ kT K ∧ 0 ≤ kZ K ∧ kT K + kZ K ≤ 300 ∧ kT K ≤ c ∧ c ≤ kT K + kZ K) (hD : isC E f 55 7 pd (kD K)) (hpd : 0 ≤ pd ∧ pd ≤ kD K ∧ kD K ≤ 700) (hn : 0 ≤ n ∧ n ≤ kT K + kZ K - c) : CF yn_Wr_makeAdd cd_Wr_makeAdd 2 (some (.boolean)) 2 E [.ref (eA E 53), .int (zI n)] f (fun r f' => (n ≤ kD K - pd ∧ r = some (.int (zI 1)) ∧ isR E f' 45 46 300 (cz g m pd c n) (c + n) ∧ isC E f' 55 7 (pd + n) (kD K) ∧ Fr [55, 45, 46] f f') ∨ (kD K - pd < n ∧ r = some (.int (zI 0)) ∧ f' = f)) := by
  refine CF.of (by decide +kernel) (Nat.le_of_ble_eq_true rfl) fun X hX hE => ?_
  have hX : Ok E X "DeltaFerry$WindowReader" "makeAdd" cd_Wr_makeAdd 2 (some (.boolean)) (rl 2) := hX
  refine G_cast (lv' := [(0, .ref (eA E 53)), (1, .int (zI n))]) ?_ rfl rfl rfl rfl
  refine G_iload_n hX 1 rfl rfl d_Wr_makeAdd_0 ?_
  refine G_aload_n hX 0 rfl rfl d_Wr_makeAdd_1 ?_
  refine F_get hX fg_Wr_18 d_Wr_makeAdd_2 53 (by decide) hW rfl ?_
  refine F_callV hX (st := [.int (zI n)]) (c_Cu_left E f 55 7 700 g pd (kD K) (by decide) (by decide) (by decide) hD hg (by omega)) cm_Cu_left im_Cu_left se_Cu_left rfl ml_Wr_68 d_Wr_makeAdd_5 (by decide) hD rfl rfl (Nat.le_of_ble_eq_true rfl) (by decide) ?_
  rintro _ f1 ⟨rfl, e4⟩
  obtain rfl := e4.symm
  refine G_cast (st' := [.int (zI ((kD K) - pd)), .int (zI n)]) ?_ rfl rfl rfl rfl
  refine G_icmp_le_z hX (tgt := 13) d_Wr_makeAdd_8 rfl (by omega) (fun c5 => ?_) (fun c6 => ?_)
  · skip
    refine G_aload_n hX 0 rfl rfl d_Wr_makeAdd_13 ?_
    refine F_get hX fg_Wr_39 d_Wr_makeAdd_14 53 (by decide) hW rfl ?_
    refine G_aload_n hX 0 rfl rfl d_Wr_makeAdd_17 ?_
    refine F_get hX fg_Wr_18 d_Wr_makeAdd_18 53 (by decide) hW rfl ?_
    refine F_get hX fg_Wr_71 d_Wr_makeAdd_21 55 (by decide) hD rfl ?_
    refine G_aload_n hX 0 rfl rfl d_Wr_makeAdd_24 ?_
    refine F_get hX fg_Wr_18 d_Wr_makeAdd_25 53 (by decide) hW rfl ?_
    refine F_get hX fg_Wr_75 d_Wr_makeAdd_28 55 (by decide) hD rfl ?_
    refine G_iload_n hX 1 rfl rfl d_Wr_makeAdd_31 ?_
    refine F_callV hX (st := []) (c_Ro_pushPart E f 45 46 300 m c 7 700 g pd n (by decide) (by decide) (by decide) ⟨hM.1, hM.2⟩ (by omega) (by decide) (by decide) hg (by omega)) cm_Ro_pushPart im_Ro_pushPart se_Ro_pushPart rfl ml_Wr_128 d_Wr_makeAdd_32 (by decide) hM.1 rfl rfl (Nat.le_of_ble_eq_true rfl) (by decide) ?_
    rintro _ f7 ⟨rfl, ⟨h10, h11⟩, k12⟩
    refine G_cast (st' := []) ?_ rfl rfl rfl rfl
    refine G_aload_n hX 0 rfl rfl d_Wr_makeAdd_35 ?_
    have h13 : f7 53 = ob 9 [.ref (eA E 54), .ref (eA E 55), .ref (eA E 56), .ref (eA E 57), .ref (eA E 58), .ref (eA E 45), .ref (eA E (if kO K = 2 then 45 else 2)), .int (zI (kF K)), .int (zI (kS K)), .int (zI (kT K)), .int (zI (kZ K)), .int (zI (kK K)), .long (zL (kV K))] := (k12 53 (by decide)).trans hW
    refine F_get hX fg_Wr_18 d_Wr_makeAdd_36 53 (by decide) h13 rfl ?_
    refine G_dup hX rfl d_Wr_makeAdd_39 ?_
    have h14 : f7 55 = ob 1 [.ref (eA E 7), .int (zI pd), .int (zI (kD K))] := (k12 55 (by decide)).trans hD
    refine F_get hX fg_Wr_75 d_Wr_makeAdd_40 55 (by decide) h14 rfl ?_
    refine G_iload_n hX 1 rfl rfl d_Wr_makeAdd_43 ?_
    refine G_iadd_z hX d_Wr_makeAdd_44 ?_
    refine F_put hX fg_Wr_75 fp_Cu_1 d_Wr_makeAdd_45 55 (fs' := [.ref (eA E 7), .int (zI (pd + n)), .int (zI (kD K))]) (by decide) h14 rfl rfl (Nat.le_of_ble_eq_true rfl) rfl (fun f15 h16 k17 => ?_)
    refine G_iconst hX d_Wr_makeAdd_48 ?_
    have h18 : f15 45 = ob 6 [.ref (eA E 46), .int (zI (c + n))] := (k17 45 (by decide)).trans h10
    have h19 : f15 46 = iz E 300 (cz g m pd c n) := (k17 46 (by decide)).trans h11
    exact F_zret hX hE (by decide) d_Wr_makeAdd_49 (Or.inl ⟨by omega, rfl, ⟨h18, h19⟩, h16, (Fr.tr (Fr.tr Fr.rf k12 (by decide)) k17 (by decide))⟩)
  · skip
    refine G_iconst hX d_Wr_makeAdd_11 ?_
    exact F_zret hX hE (by decide) d_Wr_makeAdd_12 (Or.inr ⟨by omega, rfl, rfl⟩)
theorem c_Wr_makeRunR (E : EV) (f : Nat → va_E) (K : WK) (g m : Int → Int) (pd c n : Int) (hW : isWrR E f K) (hg : f 7 = iz E 700 g) (hB : isB g) (hM : isR E f 45 46 300 m c) (hm : isB m) (hk : 0 ≤ kT K ∧ 0 ≤ kZ K ∧ kT K + kZ K ≤ 300 ∧ kT K ≤ c ∧ c ≤ kT K + kZ K) (hD : isC E f 55 7 pd (kD K)) (hpd : 0 ≤ pd ∧ pd ≤ kD K ∧ kD K ≤ 700) (hn : 0 ≤ n ∧ n ≤ kT K + kZ K - c) : CF yn_Wr_makeRun cd_Wr_makeRun 4 (some (.boolean)) 1 E [.ref (eA E 53), .int (zI n)] f (fun r f' => (pd < kD K ∧ r = some (.int (zI 1)) ∧ isR E f' 45 46 300 (pz m c (fun _ => g pd) n) (c + n) ∧ isC E f' 55 7 (pd + 1) (kD K) ∧ Fr [55, 45, 46] f f') ∨ (kD K ≤ pd ∧ r = some (.int (zI 0)) ∧ isC E f' 55 7 pd (kD K) ∧ Fr [55] f f')) := by
  refine CF.of (by decide +kernel) (Nat.le_of_ble_eq_true rfl) fun X hX hE => ?_
  have hX : Ok E X "DeltaFerry$WindowReader" "makeRun" cd_Wr_makeRun 4 (some (.boolean)) (rl 1) := hX
  refine G_cast (lv' := [(0, .ref (eA E 53)), (1, .int (zI n))]) ?_ rfl rfl rfl rfl
  have hxb := nxV_b hB pd (kD K)
  refine G_aload_n hX 0 rfl rfl d_Wr_makeRun_0 ?_
  refine F_get hX fg_Wr_18 d_Wr_makeRun_1 53 (by decide) hW rfl ?_
  refine F_callV hX (st := []) (c_Cu_next E f 55 7 700 g pd (kD K) (by decide) (by decide) (by decide) hD hg (by omega)) cm_Cu_next im_Cu_next se_Cu_next rfl ml_Wr_53 d_Wr_makeRun_4 (by decide) hD rfl rfl (Nat.le_of_ble_eq_true rfl) (by decide) ?_
  rintro _ f1 ⟨rfl, h4, k5⟩
  refine G_cast (st' := [.int (zI (nxV g pd (kD K)))]) ?_ rfl rfl rfl rfl
  by_cases hlt : pd < kD K
  · skip
    have h9 : isC E f1 55 7 (pd + 1) (kD K) := by have := h4; rw [nxP_lt hlt] at this; exact this
    refine G_top (show zI (nxV g pd (kD K)) = zI (g pd) from by rw [nxV_lt hlt]) ?_
    have hgp := hB pd
    refine G_istore_n hX (lv' := [(2, .int (zI (g pd))), (0, .ref (eA E 53)), (1, .int (zI n))]) rfl (by decide) rfl d_Wr_makeRun_7 ?_
    refine G_iconst hX d_Wr_makeRun_8 ?_
    refine G_istore_n hX (lv' := [(3, .int (zI 0)), (2, .int (zI (g pd))), (0, .ref (eA E 53)), (1, .int (zI n))]) rfl (by decide) rfl d_Wr_makeRun_9 ?_
    have loop6 : ∀ (q : Nat) (t : Int) (f7 : Nat → va_E), (n - t).toNat < q → (0 ≤ t ∧ t ≤ n) → f7 45 = ob 6 [.ref (eA E 46), .int (zI (c + t))] → f7 46 = iz E 300 (pz m c (fun _ => g pd) t) → Fr [45, 46] f1 f7 → G E X 0 0 10 [(0, .ref (eA E 53)), (1, .int (zI n)), (2, .int (zI (g pd))), (3, .int (zI t))] [] (wl E f7) := by
      intro q
      induction q with
      | zero => intro t f7 hms9; exact absurd hms9 (Nat.not_lt_zero _)
      | succ q ih10 =>
        intro t f7 hms9 ht h11 h12 k8
        refine G_iload_n hX 3 rfl rfl d_Wr_makeRun_10 ?_
        refine G_iload_n hX 1 rfl rfl d_Wr_makeRun_11 ?_
        refine G_icmp_ge_z hX (tgt := 33) d_Wr_makeRun_12 rfl (by omega) (fun c13 => ?_) (fun c14 => ?_)
        · skip
          refine G_iload_n hX 2 rfl rfl d_Wr_makeRun_33 ?_
          refine G_if_lt_z hX (tgt := 41) d_Wr_makeRun_34 rfl (by omega) (fun c15 => by exfalso; omega) (fun c16 => ?_)
          refine G_iconst hX d_Wr_makeRun_37 ?_
          refine G_goto hX (tgt := 42) d_Wr_makeRun_38 rfl ?_
          obtain rfl : t = n := by omega
          have h17 : f7 55 = ob 1 [.ref (eA E 7), .int (zI (pd + 1)), .int (zI (kD K))] := (k8 55 (by decide)).trans h9
          exact F_zret hX hE (by decide) d_Wr_makeRun_42 (Or.inl ⟨by omega, rfl, ⟨h11, h12⟩, h17, (Fr.tr (Fr.tr Fr.rf k5 (by decide)) k8 (by decide))⟩)
        · skip
          refine G_iload_n hX 2 rfl rfl d_Wr_makeRun_15 ?_
          refine G_if_lt_z hX (tgt := 33) d_Wr_makeRun_16 rfl (by omega) (fun c18 => by exfalso; omega) (fun c19 => ?_)
          refine G_aload_n hX 0 rfl rfl d_Wr_makeRun_19 ?_
          have h20 : f7 53 = ob 9 [.ref (eA E 54), .ref (eA E 55), .ref (eA E 56), .ref (eA E 57), .ref (eA E 58), .ref (eA E 45), .ref (eA E (if kO K = 2 then 45 else 2)), .int (zI (kF K)), .int (zI (kS K)), .int (zI (kT K)), .int (zI (kZ K)), .int (zI (kK K)), .long (zL (kV K))] := (k8 53 (by decide)).trans ((k5 53 (by decide)).trans hW)
          refine F_get hX fg_Wr_39 d_Wr_makeRun_20 53 (by decide) h20 rfl ?_
          refine G_iload_n hX 2 rfl rfl d_Wr_makeRun_23 ?_
          refine F_callV hX (st := []) (c_Ro_push E f7 45 46 300 (pz m c (fun _ => g pd) t) (c + t) (g pd) (by decide) (by decide) (by decide) ⟨h11, h12⟩ (by omega) (by omega)) cm_Ro_push im_Ro_push se_Ro_push rfl ml_Wr_131 d_Wr_makeRun_24 (by decide) h11 rfl rfl (Nat.le_of_ble_eq_true rfl) (by decide) ?_
          rintro _ f21 ⟨rfl, ⟨h24, h25⟩, k26⟩
          refine G_cast (st' := []) ?_ rfl rfl rfl rfl
          refine G_iinc_z hX (lv' := [(3, .int (zI (t + 1))), (0, .ref (eA E 53)), (1, .int (zI n)), (2, .int (zI (g pd)))]) 3 rfl (by decide) rfl d_Wr_makeRun_27 ?_
          refine G_goto hX (tgt := 10) d_Wr_makeRun_30 rfl ?_
          refine G_loc (lv' := [(0, .ref (eA E 53)), (1, .int (zI n)), (2, .int (zI (g pd))), (3, .int (zI (t + 1)))]) [1, 2, 3, 0] rfl ?_
          exact ih10 (t + 1) f21 (by omega) (by omega) (by rw [← Int.add_assoc]; exact h24) (by rw [← pz_uz (by omega)]; exact h25) (Fr.tr (Fr.tr Fr.rf k8 (by decide)) k26 (by decide))
    have h27 : f1 45 = ob 6 [.ref (eA E 46), .int (zI c)] := (k5 45 (by decide)).trans hM.1
    have h28 : f1 46 = iz E 300 m := (k5 46 (by decide)).trans hM.2
    refine G_loc (lv' := [(0, .ref (eA E 53)), (1, .int (zI n)), (2, .int (zI (g pd))), (3, .int (zI 0))]) [2, 3, 1, 0] rfl ?_
    exact loop6 (_ + 1) 0 f1 (Nat.lt_succ_self _) (by omega) (by rw [Int.add_zero]; exact h27) (by rw [pz_0]; exact h28) Fr.rf
  · skip
    have e8 : nxP pd (kD K) = pd := by unfold nxP; rw [if_neg hlt]
    have h9 : isC E f1 55 7 pd (kD K) := by have := h4; rw [e8] at this; exact this
    refine G_top (show zI (nxV g pd (kD K)) = zI (-1) from by unfold nxV; rw [if_neg hlt]) ?_
    refine G_istore_n hX (lv' := [(2, .int (zI (-1))), (0, .ref (eA E 53)), (1, .int (zI n))]) rfl (by decide) rfl d_Wr_makeRun_7 ?_
    refine G_iconst hX d_Wr_makeRun_8 ?_
    refine G_istore_n hX (lv' := [(3, .int (zI 0)), (2, .int (zI (-1))), (0, .ref (eA E 53)), (1, .int (zI n))]) rfl (by decide) rfl d_Wr_makeRun_9 ?_
    refine G_iload_n hX 0 rfl rfl d_Wr_makeRun_10 ?_
    refine G_iload_n hX 3 rfl rfl d_Wr_makeRun_11 ?_
    refine G_icmp_ge_z hX (tgt := 33) d_Wr_makeRun_12 rfl (by omega) (fun c29 => ?_) (fun c30 => ?_)
    · skip
      refine G_iload_n hX 1 rfl rfl d_Wr_makeRun_33 ?_
      refine G_if_lt_z hX (tgt := 41) d_Wr_makeRun_34 rfl (by omega) (fun c31 => ?_) (fun c32 => by exfalso; omega)
      refine G_iconst hX d_Wr_makeRun_41 ?_
      exact F_zret hX hE (by decide) d_Wr_makeRun_42 (Or.inr ⟨by omega, rfl, h9, (Fr.tr Fr.rf k5 (by decide))⟩)
    · skip
      refine G_iload_n hX 1 rfl rfl d_Wr_makeRun_15 ?_
      refine G_if_lt_z hX (tgt := 33) d_Wr_makeRun_16 rfl (by omega) (fun c33 => ?_) (fun c34 => by exfalso; omega)
      refine G_iload_n hX 1 rfl rfl d_Wr_makeRun_33 ?_
      refine G_if_lt_z hX (tgt := 41) d_Wr_makeRun_34 rfl (by omega) (fun c35 => ?_) (fun c36 => by exfalso; omega)
      refine G_iconst hX d_Wr_makeRun_41 ?_
      exact F_zret hX hE (by decide) d_Wr_makeRun_42 (Or.inr ⟨by omega, rfl, h9, (Fr.tr Fr.rf k5 (by decide))⟩)
theorem c_Wr_makeCopyR (E : EV) (f : Nat → va_E) (K : WK) (g old m nr sm : Int → Int) (pa c oc n mode N S T : Int) (hW : isWrR E f K) (hg : f 7 = iz E 700 g) (hB : isB g) (hM : isR E f 45 46 300 m c) (hm : isB m) (hk : 0 ≤ kT K ∧ 0 ≤ kZ K ∧ kT K + kZ K ≤ 300 ∧ kT K ≤ c ∧ c ≤ kT K + kZ K) (hA : isC E f 57 7 pa (kA K)) (hpa : 0 ≤ pa ∧ pa ≤ kA K ∧ kA K ≤ 700) (hR : isA E f 58 59 60 nr sm N S T) (hN : 0 ≤ N ∧ N ≤ 8 ∧ 0 ≤ S ∧ S ≤ 4 ∧ 0 ≤ T ∧ T < 8) (hsm : ∀ k, 0 ≤ sm k ∧ sm k < 100000) (hnr : ∀ k, 0 ≤ nr k ∧ nr k < 100000) (hO : isR E f 2 3 300 old oc) (hoB : isB old) (hso : 0 ≤ kF K ∧ 0 ≤ kS K ∧ (kO K = 2 → kF K + kS K ≤ kT K) ∧ (¬ kO K = 2 → kF K + kS K ≤ 300)) (hn : 0 ≤ n ∧ n ≤ kT K + kZ K - c) (hmo : 0 ≤ mode ∧ mode < 256) : CF yn_Wr_makeCopy cd_Wr_makeCopy 5 (some (.boolean)) 2 E [.ref (eA E 53), .int (zI n), .int (zI mode)] f (fun r f' => (hrOk (hrR nr sm N S mode (kS K + c - kT K) g pa (kA K)).1 (kS K + c - kT K) ∧ r = some (.int (zI 1)) ∧ isR E f' 45 46 300 (cpL K old n.toNat (hrR nr sm N S mode (kS K + c - kT K) g pa (kA K)).1 m c) (c + n) ∧ isC E f' 57 7 (hrR nr sm N S mode (kS K + c - kT K) g pa (kA K)).2 (kA K) ∧ isA E f' 58 59 60 (rmN nr N T (hrR nr sm N S mode (kS K + c - kT K) g pa (kA K)).1) (rmS sm S (hrR nr sm N S mode (kS K + c - kT K) g pa (kA K)).1) N S (rmT N T) ∧ Fr [57, 58, 59, 60, 45, 46] f f') ∨ (¬ hrOk (hrR nr sm N S mode (kS K + c - kT K) g pa (kA K)).1 (kS K + c - kT K) ∧ r = some (.int (zI 0)) ∧ isC E f' 57 7 (hrR nr sm N S mode (kS K + c - kT K) g pa (kA K)).2 (kA K) ∧ isA E f' 58 59 60 nr sm N S T ∧ Fr [57, 58, 59, 60] f f')) := by
  refine CF.of (by decide +kernel) (Nat.le_of_ble_eq_true rfl) fun X hX hE => ?_
  have hX : Ok E X "DeltaFerry$WindowReader" "makeCopy" cd_Wr_makeCopy 5 (some (.boolean)) (rl 2) := hX
  refine G_cast (lv' := [(0, .ref (eA E 53)), (1, .int (zI n)), (2, .int (zI mode))]) ?_ rfl rfl rfl rfl
  by_cases ho : kO K = 2
  · skip
    have hW2 : f 53 = ob 9 [.ref (eA E 54), .ref (eA E 55), .ref (eA E 56), .ref (eA E 57), .ref (eA E 58), .ref (eA E 45), .ref (eA E 45), .int (zI (kF K)), .int (zI (kS K)), .int (zI (kT K)), .int (zI (kZ K)), .int (zI (kK K)), .long (zL (kV K))] := by have := hW; unfold isWrR at this; rw [if_pos ho] at this; exact this
    have hsB : kF K + kS K ≤ 300 := by first | exact hso.2.2.2 ho | (have := hso.2.2.1 ho; omega)
    have hsT : kF K + kS K ≤ kT K := hso.2.2.1 ho
    refine G_aload_n hX 0 rfl rfl d_Wr_makeCopy_0 ?_
    refine F_get hX fg_Wr_30 d_Wr_makeCopy_1 53 (by decide) hW2 rfl ?_
    refine G_iload_n hX 2 rfl rfl d_Wr_makeCopy_4 ?_
    refine G_aload_n hX 0 rfl rfl d_Wr_makeCopy_5 ?_
    refine F_get hX fg_Wr_93 d_Wr_makeCopy_6 53 (by decide) hW2 rfl ?_
    refine G_aload_n hX 0 rfl rfl d_Wr_makeCopy_9 ?_
    refine F_get hX fg_Wr_39 d_Wr_makeCopy_10 53 (by decide) hW2 rfl ?_
    refine F_get hX fg_Wr_46 d_Wr_makeCopy_13 45 (by decide) hM.1 rfl ?_
    refine G_iadd_z hX d_Wr_makeCopy_16 ?_
    refine G_aload_n hX 0 rfl rfl d_Wr_makeCopy_17 ?_
    refine F_get hX fg_Wr_50 d_Wr_makeCopy_18 53 (by decide) hW2 rfl ?_
    refine G_isub_z hX d_Wr_makeCopy_21 ?_
    refine G_aload_n hX 0 rfl rfl d_Wr_makeCopy_22 ?_
    refine F_get hX fg_Wr_24 d_Wr_makeCopy_23 53 (by decide) hW2 rfl ?_
    refine F_callV hX (st := []) (c_Ad_hear E f nr sm N S T g pa (kA K) mode (((kS K) + c) - (kT K)) ⟨hR.1, hR.2.1, hR.2.2⟩ hN hA hg hB (by omega) (by omega) (by omega) hsm hnr) cm_Ad_hear im_Ad_hear se_Ad_hear rfl ml_Wr_134 d_Wr_makeCopy_26 (by decide) hR.1 rfl rfl (Nat.le_of_ble_eq_true rfl) (by decide) ?_
    rintro r13 f1 ⟨nr4, sm5, T6, h7, ⟨h8, h9, h10⟩, h11, k12⟩
    by_cases hok : hrOk (hrR nr sm N S mode (((kS K) + c) - (kT K)) g pa (kA K)).1 (((kS K) + c) - (kT K))
    · skip
      rw [if_pos hok] at h7
      obtain ⟨e1, e2, e3, e4⟩ := h7
      obtain rfl := e1
      refine G_cast (st' := [.int (zI ((hrR nr sm N S mode (((kS K) + c) - (kT K)) g pa (kA K)).1))]) ?_ rfl rfl rfl rfl
      have hok2 := hok.1
      have hok3 := hok.2
      generalize hHR : hrR nr sm N S mode (kS K + c - kT K) g pa (kA K) = HR at *
      refine G_istore_n hX (lv' := [(3, .int (zI HR.1)), (0, .ref (eA E 53)), (1, .int (zI n)), (2, .int (zI mode))]) rfl (by decide) rfl d_Wr_makeCopy_29 ?_
      refine G_iload_n hX 0 rfl rfl d_Wr_makeCopy_30 ?_
      refine G_if_ge_z hX (tgt := 36) d_Wr_makeCopy_31 rfl (by omega) (fun c14 => ?_) (fun c15 => by exfalso; omega)
      refine G_iload_n hX 0 rfl rfl d_Wr_makeCopy_36 ?_
      refine G_istore hX (lv' := [(4, .int (zI HR.1)), (3, .int (zI HR.1)), (0, .ref (eA E 53)), (1, .int (zI n)), (2, .int (zI mode))]) (by decide) rfl d_Wr_makeCopy_37 ?_
      have loop16 : ∀ (q : Nat) (a : Int) (m1 : Int → Int) (c1 : Int) (f17 : Nat → va_E), (HR.1 + n - a).toNat < q → (HR.1 ≤ a ∧ a ≤ HR.1 + n ∧ c1 = c + (a - HR.1)) → (cpL K old n.toNat HR.1 m c = cpL K old (HR.1 + n - a).toNat a m1 c1) → (isB m1) → f17 45 = ob 6 [.ref (eA E 46), .int (zI c1)] → f17 46 = iz E 300 m1 → Fr [45, 46] f1 f17 → G E X 0 0 39 [(0, .ref (eA E 53)), (1, .int (zI n)), (3, .int (zI HR.1)), (4, .int (zI a))] [] (wl E f17) := by
        intro q
        induction q with
        | zero => intro a m1 c1 f17 hms19; exact absurd hms19 (Nat.not_lt_zero _)
        | succ q ih20 =>
          intro a m1 c1 f17 hms19 ha hs hm1 h21 h22 k18
          refine G_iload hX 3 rfl d_Wr_makeCopy_39 ?_
          refine G_iload_n hX 2 rfl rfl d_Wr_makeCopy_41 ?_
          refine G_iload_n hX 1 rfl rfl d_Wr_makeCopy_42 ?_
          refine G_iadd_z hX d_Wr_makeCopy_43 ?_
          refine G_icmp_ge_z hX (tgt := 107) d_Wr_makeCopy_44 rfl (by omega) (fun c23 => ?_) (fun c24 => ?_)
          · skip
            refine G_iconst hX d_Wr_makeCopy_107 ?_
            have h25 : f17 57 = ob 1 [.ref (eA E 7), .int (zI HR.2), .int (zI (kA K))] := (k18 57 (by decide)).trans h11
            have h26 : f17 58 = ob 0 [.ref (eA E 59), .ref (eA E 60), .int (zI N), .int (zI S), .int (zI T6)] := (k18 58 (by decide)).trans h8
            have h27 : f17 59 = iz E 8 nr4 := (k18 59 (by decide)).trans h9
            have h28 : f17 60 = iz E 1024 sm5 := (k18 60 (by decide)).trans h10
            rw [e4] at h26; rw [e2] at h27; rw [e3] at h28
            have e1 : cpL K old n.toNat HR.1 m c = m1 := by rw [hs, cpL_e (by omega)]
            have e5 : c1 = c + n := by omega
            rw [e1, ← e5] at hE
            exact F_zret hX hE (by decide) d_Wr_makeCopy_108 (Or.inl ⟨hok, rfl, ⟨h21, h22⟩, h25, ⟨h26, h27, h28⟩, (Fr.tr (Fr.tr Fr.rf k12 (by decide)) k18 (by decide))⟩)
          · skip
            refine G_aload_n hX 0 rfl rfl d_Wr_makeCopy_47 ?_
            have h29 : f17 53 = ob 9 [.ref (eA E 54), .ref (eA E 55), .ref (eA E 56), .ref (eA E 57), .ref (eA E 58), .ref (eA E 45), .ref (eA E 45), .int (zI (kF K)), .int (zI (kS K)), .int (zI (kT K)), .int (zI (kZ K)), .int (zI (kK K)), .long (zL (kV K))] := (k18 53 (by decide)).trans ((k12 53 (by decide)).trans hW2)
            refine F_get hX fg_Wr_39 d_Wr_makeCopy_48 53 (by decide) h29 rfl ?_
            refine G_iload hX 3 rfl d_Wr_makeCopy_51 ?_
            refine G_aload_n hX 0 rfl rfl d_Wr_makeCopy_53 ?_
            refine F_get hX fg_Wr_93 d_Wr_makeCopy_54 53 (by decide) h29 rfl ?_
            refine G_icmp_ge_z hX (tgt := 78) d_Wr_makeCopy_57 rfl (by omega) (fun c30 => ?_) (fun c31 => ?_)
            · skip
              refine G_aload_n hX 0 rfl rfl d_Wr_makeCopy_78 ?_
              refine F_get hX fg_Wr_39 d_Wr_makeCopy_79 53 (by decide) h29 rfl ?_
              refine F_get hX fg_Wr_108 d_Wr_makeCopy_82 45 (by decide) h21 rfl ?_
              refine G_aload_n hX 0 rfl rfl d_Wr_makeCopy_85 ?_
              refine F_get hX fg_Wr_50 d_Wr_makeCopy_86 53 (by decide) h29 rfl ?_
              refine G_iload hX 3 rfl d_Wr_makeCopy_89 ?_
              refine G_iadd_z hX d_Wr_makeCopy_91 ?_
              refine G_aload_n hX 0 rfl rfl d_Wr_makeCopy_92 ?_
              refine F_get hX fg_Wr_93 d_Wr_makeCopy_93 53 (by decide) h29 rfl ?_
              refine G_isub_z hX d_Wr_makeCopy_96 ?_
              refine F_iald hX d_Wr_makeCopy_97 46 (by decide) h22 (by omega) ?_
              have e98 : sbW K old m1 a = m1 (((kT K) + a) - (kS K)) := by unfold sbW; first | rw [if_neg (by omega)] | rw [if_pos (by omega), if_pos ho]
              have hvB : 0 ≤ m1 (((kT K) + a) - (kS K)) ∧ m1 (((kT K) + a) - (kS K)) < 256 := by first | exact hm1 _ | exact hoB _
              refine F_callV hX (st := []) (c_Ro_push E f17 45 46 300 m1 c1 (m1 (((kT K) + a) - (kS K))) (by decide) (by decide) (by decide) ⟨h21, h22⟩ (by omega) (by omega)) cm_Ro_push im_Ro_push se_Ro_push rfl ml_Wr_131 d_Wr_makeCopy_98 (by decide) h21 rfl rfl (Nat.le_of_ble_eq_true rfl) (by decide) ?_
              rintro _ f32 ⟨rfl, ⟨h35, h36⟩, k37⟩
              refine G_cast (st' := []) ?_ rfl rfl rfl rfl
              refine G_iinc_z hX (lv' := [(4, .int (zI (a + 1))), (0, .ref (eA E 53)), (1, .int (zI n)), (3, .int (zI HR.1))]) 3 rfl (by decide) rfl d_Wr_makeCopy_101 ?_
              refine G_goto hX (tgt := 39) d_Wr_makeCopy_104 rfl ?_
              refine G_loc (lv' := [(0, .ref (eA E 53)), (1, .int (zI n)), (3, .int (zI HR.1)), (4, .int (zI (a + 1)))]) [1, 2, 3, 0] rfl ?_
              exact ih20 (a + 1) (uz m1 c1 (m1 (((kT K) + a) - (kS K)))) (c1 + 1) f32 (by omega) (by omega) (hs.trans (by rw [cpL_go (by omega)]; exact congrArg (fun z => cpL K old (HR.1 + n - (a + 1)).toNat (a + 1) (uz m1 c1 z) (c1 + 1)) e98)) (isB_uz hm1 hvB) h35 h36 (Fr.tr (Fr.tr Fr.rf k18 (by decide)) k37 (by decide))
            · skip
              refine G_aload_n hX 0 rfl rfl d_Wr_makeCopy_60 ?_
              refine F_get hX fg_Wr_43 d_Wr_makeCopy_61 53 (by decide) h29 rfl ?_
              refine F_get hX fg_Wr_108 d_Wr_makeCopy_64 45 (by decide) h21 rfl ?_
              refine G_aload_n hX 0 rfl rfl d_Wr_makeCopy_67 ?_
              refine F_get hX fg_Wr_90 d_Wr_makeCopy_68 53 (by decide) h29 rfl ?_
              refine G_iload hX 3 rfl d_Wr_makeCopy_71 ?_
              refine G_iadd_z hX d_Wr_makeCopy_73 ?_
              refine F_iald hX d_Wr_makeCopy_74 46 (by decide) h22 (by omega) ?_
              refine G_goto hX (tgt := 98) d_Wr_makeCopy_75 rfl ?_
              have e98 : sbW K old m1 a = m1 ((kF K) + a) := by unfold sbW; first | rw [if_neg (by omega)] | rw [if_pos (by omega), if_pos ho]
              have hvB : 0 ≤ m1 ((kF K) + a) ∧ m1 ((kF K) + a) < 256 := by first | exact hm1 _ | exact hoB _
              refine F_callV hX (st := []) (c_Ro_push E f17 45 46 300 m1 c1 (m1 ((kF K) + a)) (by decide) (by decide) (by decide) ⟨h21, h22⟩ (by omega) (by omega)) cm_Ro_push im_Ro_push se_Ro_push rfl ml_Wr_131 d_Wr_makeCopy_98 (by decide) h21 rfl rfl (Nat.le_of_ble_eq_true rfl) (by decide) ?_
              rintro _ f38 ⟨rfl, ⟨h41, h42⟩, k43⟩
              refine G_cast (st' := []) ?_ rfl rfl rfl rfl
              refine G_iinc_z hX (lv' := [(4, .int (zI (a + 1))), (0, .ref (eA E 53)), (1, .int (zI n)), (3, .int (zI HR.1))]) 3 rfl (by decide) rfl d_Wr_makeCopy_101 ?_
              refine G_goto hX (tgt := 39) d_Wr_makeCopy_104 rfl ?_
              refine G_loc (lv' := [(0, .ref (eA E 53)), (1, .int (zI n)), (3, .int (zI HR.1)), (4, .int (zI (a + 1)))]) [1, 2, 3, 0] rfl ?_
              exact ih20 (a + 1) (uz m1 c1 (m1 ((kF K) + a))) (c1 + 1) f38 (by omega) (by omega) (hs.trans (by rw [cpL_go (by omega)]; exact congrArg (fun z => cpL K old (HR.1 + n - (a + 1)).toNat (a + 1) (uz m1 c1 z) (c1 + 1)) e98)) (isB_uz hm1 hvB) h41 h42 (Fr.tr (Fr.tr Fr.rf k18 (by decide)) k43 (by decide))
      have h44 : f1 45 = ob 6 [.ref (eA E 46), .int (zI c)] := (k12 45 (by decide)).trans hM.1
      have h45 : f1 46 = iz E 300 m := (k12 46 (by decide)).trans hM.2
      refine G_loc (lv' := [(0, .ref (eA E 53)), (1, .int (zI n)), (3, .int (zI HR.1)), (4, .int (zI HR.1))]) [2, 3, 1, 0] rfl ?_
      exact loop16 (_ + 1) HR.1 m c f1 (Nat.lt_succ_self _) (by omega) (by rw [show HR.1 + n - HR.1 = n by omega]) hm h44 h45 Fr.rf
    · skip
      rw [if_neg hok] at h7
      obtain ⟨e1, e2, e3, e4⟩ := h7
      obtain rfl := e1
      refine G_cast (st' := [.int (zI (-1))]) ?_ rfl rfl rfl rfl
      refine G_istore_n hX (lv' := [(3, .int (zI (-1))), (0, .ref (eA E 53)), (1, .int (zI n)), (2, .int (zI mode))]) rfl (by decide) rfl d_Wr_makeCopy_29 ?_
      refine G_iload_n hX 0 rfl rfl d_Wr_makeCopy_30 ?_
      refine G_if_ge_z hX (tgt := 36) d_Wr_makeCopy_31 rfl (by omega) (fun c46 => by exfalso; omega) (fun c47 => ?_)
      refine G_iconst hX d_Wr_makeCopy_34 ?_
      rw [e4] at h8; rw [e2] at h9; rw [e3] at h10
      exact F_zret hX hE (by decide) d_Wr_makeCopy_35 (Or.inr ⟨hok, rfl, h11, ⟨h8, h9, h10⟩, (Fr.tr Fr.rf k12 (by decide))⟩)
  · skip
    have hW2 : f 53 = ob 9 [.ref (eA E 54), .ref (eA E 55), .ref (eA E 56), .ref (eA E 57), .ref (eA E 58), .ref (eA E 45), .ref (eA E 2), .int (zI (kF K)), .int (zI (kS K)), .int (zI (kT K)), .int (zI (kZ K)), .int (zI (kK K)), .long (zL (kV K))] := by have := hW; unfold isWrR at this; rw [if_neg ho] at this; exact this
    have hsB : kF K + kS K ≤ 300 := by first | exact hso.2.2.2 ho | (have := hso.2.2.1 ho; omega)
    refine G_aload_n hX 0 rfl rfl d_Wr_makeCopy_0 ?_
    refine F_get hX fg_Wr_30 d_Wr_makeCopy_1 53 (by decide) hW2 rfl ?_
    refine G_iload_n hX 2 rfl rfl d_Wr_makeCopy_4 ?_
    refine G_aload_n hX 0 rfl rfl d_Wr_makeCopy_5 ?_
    refine F_get hX fg_Wr_93 d_Wr_makeCopy_6 53 (by decide) hW2 rfl ?_
    refine G_aload_n hX 0 rfl rfl d_Wr_makeCopy_9 ?_
    refine F_get hX fg_Wr_39 d_Wr_makeCopy_10 53 (by decide) hW2 rfl ?_
    refine F_get hX fg_Wr_46 d_Wr_makeCopy_13 45 (by decide) hM.1 rfl ?_
    refine G_iadd_z hX d_Wr_makeCopy_16 ?_
    refine G_aload_n hX 0 rfl rfl d_Wr_makeCopy_17 ?_
    refine F_get hX fg_Wr_50 d_Wr_makeCopy_18 53 (by decide) hW2 rfl ?_
    refine G_isub_z hX d_Wr_makeCopy_21 ?_
    refine G_aload_n hX 0 rfl rfl d_Wr_makeCopy_22 ?_
    refine F_get hX fg_Wr_24 d_Wr_makeCopy_23 53 (by decide) hW2 rfl ?_
    refine F_callV hX (st := []) (c_Ad_hear E f nr sm N S T g pa (kA K) mode (((kS K) + c) - (kT K)) ⟨hR.1, hR.2.1, hR.2.2⟩ hN hA hg hB (by omega) (by omega) (by omega) hsm hnr) cm_Ad_hear im_Ad_hear se_Ad_hear rfl ml_Wr_134 d_Wr_makeCopy_26 (by decide) hR.1 rfl rfl (Nat.le_of_ble_eq_true rfl) (by decide) ?_
    rintro r60 f48 ⟨nr51, sm52, T53, h54, ⟨h55, h56, h57⟩, h58, k59⟩
    by_cases hok : hrOk (hrR nr sm N S mode (((kS K) + c) - (kT K)) g pa (kA K)).1 (((kS K) + c) - (kT K))
    · skip
      rw [if_pos hok] at h54
      obtain ⟨e1, e2, e3, e4⟩ := h54
      obtain rfl := e1
      refine G_cast (st' := [.int (zI ((hrR nr sm N S mode (((kS K) + c) - (kT K)) g pa (kA K)).1))]) ?_ rfl rfl rfl rfl
      have hok2 := hok.1
      have hok3 := hok.2
      generalize hHR : hrR nr sm N S mode (kS K + c - kT K) g pa (kA K) = HR at *
      refine G_istore_n hX (lv' := [(3, .int (zI HR.1)), (0, .ref (eA E 53)), (1, .int (zI n)), (2, .int (zI mode))]) rfl (by decide) rfl d_Wr_makeCopy_29 ?_
      refine G_iload_n hX 0 rfl rfl d_Wr_makeCopy_30 ?_
      refine G_if_ge_z hX (tgt := 36) d_Wr_makeCopy_31 rfl (by omega) (fun c61 => ?_) (fun c62 => by exfalso; omega)
      refine G_iload_n hX 0 rfl rfl d_Wr_makeCopy_36 ?_
      refine G_istore hX (lv' := [(4, .int (zI HR.1)), (3, .int (zI HR.1)), (0, .ref (eA E 53)), (1, .int (zI n)), (2, .int (zI mode))]) (by decide) rfl d_Wr_makeCopy_37 ?_
      have loop63 : ∀ (q : Nat) (a : Int) (m1 : Int → Int) (c1 : Int) (f64 : Nat → va_E), (HR.1 + n - a).toNat < q → (HR.1 ≤ a ∧ a ≤ HR.1 + n ∧ c1 = c + (a - HR.1)) → (cpL K old n.toNat HR.1 m c = cpL K old (HR.1 + n - a).toNat a m1 c1) → (isB m1) → f64 45 = ob 6 [.ref (eA E 46), .int (zI c1)] → f64 46 = iz E 300 m1 → Fr [45, 46] f48 f64 → G E X 0 0 39 [(0, .ref (eA E 53)), (1, .int (zI n)), (3, .int (zI HR.1)), (4, .int (zI a))] [] (wl E f64) := by
        intro q
        induction q with
        | zero => intro a m1 c1 f64 hms66; exact absurd hms66 (Nat.not_lt_zero _)
        | succ q ih67 =>
          intro a m1 c1 f64 hms66 ha hs hm1 h68 h69 k65
          refine G_iload hX 3 rfl d_Wr_makeCopy_39 ?_
          refine G_iload_n hX 2 rfl rfl d_Wr_makeCopy_41 ?_
          refine G_iload_n hX 1 rfl rfl d_Wr_makeCopy_42 ?_
          refine G_iadd_z hX d_Wr_makeCopy_43 ?_
          refine G_icmp_ge_z hX (tgt := 107) d_Wr_makeCopy_44 rfl (by omega) (fun c70 => ?_) (fun c71 => ?_)
          · skip
            refine G_iconst hX d_Wr_makeCopy_107 ?_
            have h72 : f64 57 = ob 1 [.ref (eA E 7), .int (zI HR.2), .int (zI (kA K))] := (k65 57 (by decide)).trans h58
            have h73 : f64 58 = ob 0 [.ref (eA E 59), .ref (eA E 60), .int (zI N), .int (zI S), .int (zI T53)] := (k65 58 (by decide)).trans h55
            have h74 : f64 59 = iz E 8 nr51 := (k65 59 (by decide)).trans h56
            have h75 : f64 60 = iz E 1024 sm52 := (k65 60 (by decide)).trans h57
            rw [e4] at h73; rw [e2] at h74; rw [e3] at h75
            have e1 : cpL K old n.toNat HR.1 m c = m1 := by rw [hs, cpL_e (by omega)]
            have e5 : c1 = c + n := by omega
            rw [e1, ← e5] at hE
            exact F_zret hX hE (by decide) d_Wr_makeCopy_108 (Or.inl ⟨hok, rfl, ⟨h68, h69⟩, h72, ⟨h73, h74, h75⟩, (Fr.tr (Fr.tr Fr.rf k59 (by decide)) k65 (by decide))⟩)
          · skip
            refine G_aload_n hX 0 rfl rfl d_Wr_makeCopy_47 ?_
            have h76 : f64 53 = ob 9 [.ref (eA E 54), .ref (eA E 55), .ref (eA E 56), .ref (eA E 57), .ref (eA E 58), .ref (eA E 45), .ref (eA E 2), .int (zI (kF K)), .int (zI (kS K)), .int (zI (kT K)), .int (zI (kZ K)), .int (zI (kK K)), .long (zL (kV K))] := (k65 53 (by decide)).trans ((k59 53 (by decide)).trans hW2)
            refine F_get hX fg_Wr_39 d_Wr_makeCopy_48 53 (by decide) h76 rfl ?_
            refine G_iload hX 3 rfl d_Wr_makeCopy_51 ?_
            refine G_aload_n hX 0 rfl rfl d_Wr_makeCopy_53 ?_
            refine F_get hX fg_Wr_93 d_Wr_makeCopy_54 53 (by decide) h76 rfl ?_
            refine G_icmp_ge_z hX (tgt := 78) d_Wr_makeCopy_57 rfl (by omega) (fun c77 => ?_) (fun c78 => ?_)
            · skip
              refine G_aload_n hX 0 rfl rfl d_Wr_makeCopy_78 ?_
              refine F_get hX fg_Wr_39 d_Wr_makeCopy_79 53 (by decide) h76 rfl ?_
              refine F_get hX fg_Wr_108 d_Wr_makeCopy_82 45 (by decide) h68 rfl ?_
              refine G_aload_n hX 0 rfl rfl d_Wr_makeCopy_85 ?_
              refine F_get hX fg_Wr_50 d_Wr_makeCopy_86 53 (by decide) h76 rfl ?_
              refine G_iload hX 3 rfl d_Wr_makeCopy_89 ?_
              refine G_iadd_z hX d_Wr_makeCopy_91 ?_
              refine G_aload_n hX 0 rfl rfl d_Wr_makeCopy_92 ?_
              refine F_get hX fg_Wr_93 d_Wr_makeCopy_93 53 (by decide) h76 rfl ?_
              refine G_isub_z hX d_Wr_makeCopy_96 ?_
              refine F_iald hX d_Wr_makeCopy_97 46 (by decide) h69 (by omega) ?_
              have e98 : sbW K old m1 a = m1 (((kT K) + a) - (kS K)) := by unfold sbW; first | rw [if_neg (by omega)] | rw [if_pos (by omega), if_neg ho]
              have hvB : 0 ≤ m1 (((kT K) + a) - (kS K)) ∧ m1 (((kT K) + a) - (kS K)) < 256 := by first | exact hm1 _ | exact hoB _
              refine F_callV hX (st := []) (c_Ro_push E f64 45 46 300 m1 c1 (m1 (((kT K) + a) - (kS K))) (by decide) (by decide) (by decide) ⟨h68, h69⟩ (by omega) (by omega)) cm_Ro_push im_Ro_push se_Ro_push rfl ml_Wr_131 d_Wr_makeCopy_98 (by decide) h68 rfl rfl (Nat.le_of_ble_eq_true rfl) (by decide) ?_
              rintro _ f79 ⟨rfl, ⟨h82, h83⟩, k84⟩
              refine G_cast (st' := []) ?_ rfl rfl rfl rfl
              refine G_iinc_z hX (lv' := [(4, .int (zI (a + 1))), (0, .ref (eA E 53)), (1, .int (zI n)), (3, .int (zI HR.1))]) 3 rfl (by decide) rfl d_Wr_makeCopy_101 ?_
              refine G_goto hX (tgt := 39) d_Wr_makeCopy_104 rfl ?_
              refine G_loc (lv' := [(0, .ref (eA E 53)), (1, .int (zI n)), (3, .int (zI HR.1)), (4, .int (zI (a + 1)))]) [1, 2, 3, 0] rfl ?_
              exact ih67 (a + 1) (uz m1 c1 (m1 (((kT K) + a) - (kS K)))) (c1 + 1) f79 (by omega) (by omega) (hs.trans (by rw [cpL_go (by omega)]; exact congrArg (fun z => cpL K old (HR.1 + n - (a + 1)).toNat (a + 1) (uz m1 c1 z) (c1 + 1)) e98)) (isB_uz hm1 hvB) h82 h83 (Fr.tr (Fr.tr Fr.rf k65 (by decide)) k84 (by decide))
            · skip
              refine G_aload_n hX 0 rfl rfl d_Wr_makeCopy_60 ?_
              refine F_get hX fg_Wr_43 d_Wr_makeCopy_61 53 (by decide) h76 rfl ?_
              have h85 : f64 2 = ob 6 [.ref (eA E 3), .int (zI oc)] := (k65 2 (by decide)).trans ((k59 2 (by decide)).trans hO.1)
              refine F_get hX fg_Wr_108 d_Wr_makeCopy_64 2 (by decide) h85 rfl ?_
              refine G_aload_n hX 0 rfl rfl d_Wr_makeCopy_67 ?_
              refine F_get hX fg_Wr_90 d_Wr_makeCopy_68 53 (by decide) h76 rfl ?_
              refine G_iload hX 3 rfl d_Wr_makeCopy_71 ?_
              refine G_iadd_z hX d_Wr_makeCopy_73 ?_
              have h86 : f64 3 = iz E 300 old := (k65 3 (by decide)).trans ((k59 3 (by decide)).trans hO.2)
              refine F_iald hX d_Wr_makeCopy_74 3 (by decide) h86 (by omega) ?_
              refine G_goto hX (tgt := 98) d_Wr_makeCopy_75 rfl ?_
              have e98 : sbW K old m1 a = old ((kF K) + a) := by unfold sbW; first | rw [if_neg (by omega)] | rw [if_pos (by omega), if_neg ho]
              have hvB : 0 ≤ old ((kF K) + a) ∧ old ((kF K) + a) < 256 := by first | exact hm1 _ | exact hoB _
              refine F_callV hX (st := []) (c_Ro_push E f64 45 46 300 m1 c1 (old ((kF K) + a)) (by decide) (by decide) (by decide) ⟨h68, h69⟩ (by omega) (by omega)) cm_Ro_push im_Ro_push se_Ro_push rfl ml_Wr_131 d_Wr_makeCopy_98 (by decide) h68 rfl rfl (Nat.le_of_ble_eq_true rfl) (by decide) ?_
              rintro _ f87 ⟨rfl, ⟨h90, h91⟩, k92⟩
              refine G_cast (st' := []) ?_ rfl rfl rfl rfl
              refine G_iinc_z hX (lv' := [(4, .int (zI (a + 1))), (0, .ref (eA E 53)), (1, .int (zI n)), (3, .int (zI HR.1))]) 3 rfl (by decide) rfl d_Wr_makeCopy_101 ?_
              refine G_goto hX (tgt := 39) d_Wr_makeCopy_104 rfl ?_
              refine G_loc (lv' := [(0, .ref (eA E 53)), (1, .int (zI n)), (3, .int (zI HR.1)), (4, .int (zI (a + 1)))]) [1, 2, 3, 0] rfl ?_
              exact ih67 (a + 1) (uz m1 c1 (old ((kF K) + a))) (c1 + 1) f87 (by omega) (by omega) (hs.trans (by rw [cpL_go (by omega)]; exact congrArg (fun z => cpL K old (HR.1 + n - (a + 1)).toNat (a + 1) (uz m1 c1 z) (c1 + 1)) e98)) (isB_uz hm1 hvB) h90 h91 (Fr.tr (Fr.tr Fr.rf k65 (by decide)) k92 (by decide))
      have h93 : f48 45 = ob 6 [.ref (eA E 46), .int (zI c)] := (k59 45 (by decide)).trans hM.1
      have h94 : f48 46 = iz E 300 m := (k59 46 (by decide)).trans hM.2
      refine G_loc (lv' := [(0, .ref (eA E 53)), (1, .int (zI n)), (3, .int (zI HR.1)), (4, .int (zI HR.1))]) [2, 3, 1, 0] rfl ?_
      exact loop63 (_ + 1) HR.1 m c f48 (Nat.lt_succ_self _) (by omega) (by rw [show HR.1 + n - HR.1 = n by omega]) hm h93 h94 Fr.rf
    · skip
      rw [if_neg hok] at h54
      obtain ⟨e1, e2, e3, e4⟩ := h54
      obtain rfl := e1
      refine G_cast (st' := [.int (zI (-1))]) ?_ rfl rfl rfl rfl
      refine G_istore_n hX (lv' := [(3, .int (zI (-1))), (0, .ref (eA E 53)), (1, .int (zI n)), (2, .int (zI mode))]) rfl (by decide) rfl d_Wr_makeCopy_29 ?_
      refine G_iload_n hX 0 rfl rfl d_Wr_makeCopy_30 ?_
      refine G_if_ge_z hX (tgt := 36) d_Wr_makeCopy_31 rfl (by omega) (fun c95 => by exfalso; omega) (fun c96 => ?_)
      refine G_iconst hX d_Wr_makeCopy_34 ?_
      rw [e4] at h55; rw [e2] at h56; rw [e3] at h57
      exact F_zret hX hE (by decide) d_Wr_makeCopy_35 (Or.inr ⟨hok, rfl, h58, ⟨h55, h56, h57⟩, (Fr.tr Fr.rf k59 (by decide))⟩)
theorem c_Wr_readSizeT (E : EV) (f : Nat → va_E) (K : WK) (g m : Int → Int) (pc c ic : Int) (hW : isWrT E f K) (hg : f 7 = iz E 700 g) (hB : isB g) (hM : isR E f 47 48 1536 m c) (hm : isB m) (hk : 0 ≤ kT K ∧ 0 ≤ kZ K ∧ kT K + kZ K ≤ 1536 ∧ kT K ≤ c ∧ c ≤ kT K + kZ K) (hC : isC E f 56 7 pc (kC K)) (hpc : 0 ≤ pc ∧ pc ≤ kC K ∧ kC K ≤ 700) (hic : 0 ≤ ic ∧ ic < 256) : CF yn_Wr_readSize cd_Wr_readSize 3 (some (.int)) 1 E [.ref (eA E 53), .int (zI ic)] f (fun r f' => r = some (.int (zI (if (szR g (kC K) ic pc).1 ≤ kT K + kZ K - c then (szR g (kC K) ic pc).1 else -1))) ∧ isC E f' 56 7 (szR g (kC K) ic pc).2 (kC K) ∧ Fr [56] f f') := by
  refine CF.of (by decide +kernel) (Nat.le_of_ble_eq_true rfl) fun X hX hE => ?_
  have hX : Ok E X "DeltaFerry$WindowReader" "readSize" cd_Wr_readSize 3 (some (.int)) (rl 1) := hX
  refine G_cast (lv' := [(0, .ref (eA E 53)), (1, .int (zI ic))]) ?_ rfl rfl rfl rfl
  have hnb := num_b (g := g) (e := kC K) (p := pc) hB (by omega)
  refine G_iload_n hX 1 rfl rfl d_Wr_readSize_0 ?_
  refine G_if_ne_z hX (tgt := 14) d_Wr_readSize_1 rfl (by omega) (fun c1 => ?_) (fun c2 => ?_)
  · skip
    refine G_iload_n hX 1 rfl rfl d_Wr_readSize_14 ?_
    refine G_istore_n hX (lv' := [(2, .int (zI ic)), (0, .ref (eA E 53)), (1, .int (zI ic))]) rfl (by decide) rfl d_Wr_readSize_15 ?_
    refine G_iload_n hX 0 rfl rfl d_Wr_readSize_16 ?_
    refine G_aload_n hX 1 rfl rfl d_Wr_readSize_17 ?_
    refine F_get hX fg_Wr_50 d_Wr_readSize_18 53 (by decide) hW rfl ?_
    refine G_aload_n hX 1 rfl rfl d_Wr_readSize_21 ?_
    refine F_get hX fg_Wr_82 d_Wr_readSize_22 53 (by decide) hW rfl ?_
    refine G_iadd_z hX d_Wr_readSize_25 ?_
    refine G_aload_n hX 1 rfl rfl d_Wr_readSize_26 ?_
    refine F_get hX fg_Wr_39 d_Wr_readSize_27 53 (by decide) hW rfl ?_
    refine F_get hX fg_Wr_46 d_Wr_readSize_30 47 (by decide) hM.1 rfl ?_
    refine G_isub_z hX d_Wr_readSize_33 ?_
    refine G_icmp_gt_z hX (tgt := 41) d_Wr_readSize_34 rfl (by omega) (fun c3 => ?_) (fun c4 => ?_)
    · skip
      refine G_iconst hX d_Wr_readSize_41 ?_
      have e9 : szR g (kC K) ic pc = (ic, pc) := by unfold szR; rw [if_neg (by omega)]
      rw [e9] at hE
      exact F_iret hX hE d_Wr_readSize_42 ⟨by rw [if_neg (by first | omega | (dsimp only; omega))], hC, Fr.rf⟩
    · skip
      refine G_iload_n hX 0 rfl rfl d_Wr_readSize_37 ?_
      refine G_goto hX (tgt := 42) d_Wr_readSize_38 rfl ?_
      have e9 : szR g (kC K) ic pc = (ic, pc) := by unfold szR; rw [if_neg (by omega)]
      rw [e9] at hE
      exact F_iret hX hE d_Wr_readSize_42 ⟨by rw [if_pos (by first | omega | (dsimp only; omega))], hC, Fr.rf⟩
  · skip
    refine G_aload_n hX 0 rfl rfl d_Wr_readSize_4 ?_
    refine F_get hX fg_Wr_21 d_Wr_readSize_5 53 (by decide) hW rfl ?_
    refine F_callV hX (st := []) (c_Cu_number E f 56 7 700 g pc (kC K) (by decide) (by decide) (by decide) hC hg (by omega) hB) cm_Cu_number im_Cu_number se_Cu_number rfl ml_Wr_65 d_Wr_readSize_8 (by decide) hC rfl rfl (Nat.le_of_ble_eq_true rfl) (by decide) ?_
    rintro _ f5 ⟨rfl, h8, k9⟩
    refine G_cast (st' := [.int (zI ((numL g (kC K) 4 pc 0).1))]) ?_ rfl rfl rfl rfl
    refine G_goto hX (tgt := 15) d_Wr_readSize_11 rfl ?_
    refine G_istore_n hX (lv' := [(2, .int (zI ((numL g (kC K) 4 pc 0).1))), (0, .ref (eA E 53)), (1, .int (zI ic))]) rfl (by decide) rfl d_Wr_readSize_15 ?_
    refine G_iload_n hX 0 rfl rfl d_Wr_readSize_16 ?_
    refine G_aload_n hX 1 rfl rfl d_Wr_readSize_17 ?_
    have h10 : f5 53 = ob 9 [.ref (eA E 54), .ref (eA E 55), .ref (eA E 56), .ref (eA E 57), .ref (eA E 58), .ref (eA E 47), .ref (eA E (if kO K = 2 then 47 else 49)), .int (zI (kF K)), .int (zI (kS K)), .int (zI (kT K)), .int (zI (kZ K)), .int (zI (kK K)), .long (zL (kV K))] := (k9 53 (by decide)).trans hW
    refine F_get hX fg_Wr_50 d_Wr_readSize_18 53 (by decide) h10 rfl ?_
    refine G_aload_n hX 1 rfl rfl d_Wr_readSize_21 ?_
    refine F_get hX fg_Wr_82 d_Wr_readSize_22 53 (by decide) h10 rfl ?_
    refine G_iadd_z hX d_Wr_readSize_25 ?_
    refine G_aload_n hX 1 rfl rfl d_Wr_readSize_26 ?_
    refine F_get hX fg_Wr_39 d_Wr_readSize_27 53 (by decide) h10 rfl ?_
    have h11 : f5 47 = ob 6 [.ref (eA E 48), .int (zI c)] := (k9 47 (by decide)).trans hM.1
    refine F_get hX fg_Wr_46 d_Wr_readSize_30 47 (by decide) h11 rfl ?_
    refine G_isub_z hX d_Wr_readSize_33 ?_
    refine G_icmp_gt_z hX (tgt := 41) d_Wr_readSize_34 rfl (by omega) (fun c12 => ?_) (fun c13 => ?_)
    · skip
      refine G_iconst hX d_Wr_readSize_41 ?_
      have e9 : szR g (kC K) ic pc = numL g (kC K) 4 pc 0 := by unfold szR; rw [if_pos (by omega)]
      rw [e9] at hE
      exact F_iret hX hE d_Wr_readSize_42 ⟨by rw [if_neg (by first | omega | (dsimp only; omega))], h8, (Fr.tr Fr.rf k9 (by decide))⟩
    · skip
      refine G_iload_n hX 0 rfl rfl d_Wr_readSize_37 ?_
      refine G_goto hX (tgt := 42) d_Wr_readSize_38 rfl ?_
      have e9 : szR g (kC K) ic pc = numL g (kC K) 4 pc 0 := by unfold szR; rw [if_pos (by omega)]
      rw [e9] at hE
      exact F_iret hX hE d_Wr_readSize_42 ⟨by rw [if_pos (by first | omega | (dsimp only; omega))], h8, (Fr.tr Fr.rf k9 (by decide))⟩
theorem c_Wr_makeAddT (E : EV) (f : Nat → va_E) (K : WK) (g m : Int → Int) (pd c n : Int) (hW : isWrT E f K) (hg : f 7 = iz E 700 g) (hB : isB g) (hM : isR E f 47 48 1536 m c) (hm : isB m) (hk : 0 ≤ kT K ∧ 0 ≤ kZ K ∧ kT K + kZ K ≤ 1536 ∧ kT K ≤ c ∧ c ≤ kT K + kZ K) (hD : isC E f 55 7 pd (kD K)) (hpd : 0 ≤ pd ∧ pd ≤ kD K ∧ kD K ≤ 700) (hn : 0 ≤ n ∧ n ≤ kT K + kZ K - c) : CF yn_Wr_makeAdd cd_Wr_makeAdd 2 (some (.boolean)) 2 E [.ref (eA E 53), .int (zI n)] f (fun r f' => (n ≤ kD K - pd ∧ r = some (.int (zI 1)) ∧ isR E f' 47 48 1536 (cz g m pd c n) (c + n) ∧ isC E f' 55 7 (pd + n) (kD K) ∧ Fr [55, 47, 48] f f') ∨ (kD K - pd < n ∧ r = some (.int (zI 0)) ∧ f' = f)) := by
  refine CF.of (by decide +kernel) (Nat.le_of_ble_eq_true rfl) fun X hX hE => ?_
  have hX : Ok E X "DeltaFerry$WindowReader" "makeAdd" cd_Wr_makeAdd 2 (some (.boolean)) (rl 2) := hX
  refine G_cast (lv' := [(0, .ref (eA E 53)), (1, .int (zI n))]) ?_ rfl rfl rfl rfl
  refine G_iload_n hX 1 rfl rfl d_Wr_makeAdd_0 ?_
  refine G_aload_n hX 0 rfl rfl d_Wr_makeAdd_1 ?_
  refine F_get hX fg_Wr_18 d_Wr_makeAdd_2 53 (by decide) hW rfl ?_
  refine F_callV hX (st := [.int (zI n)]) (c_Cu_left E f 55 7 700 g pd (kD K) (by decide) (by decide) (by decide) hD hg (by omega)) cm_Cu_left im_Cu_left se_Cu_left rfl ml_Wr_68 d_Wr_makeAdd_5 (by decide) hD rfl rfl (Nat.le_of_ble_eq_true rfl) (by decide) ?_
  rintro _ f1 ⟨rfl, e4⟩
  obtain rfl := e4.symm
  refine G_cast (st' := [.int (zI ((kD K) - pd)), .int (zI n)]) ?_ rfl rfl rfl rfl
  refine G_icmp_le_z hX (tgt := 13) d_Wr_makeAdd_8 rfl (by omega) (fun c5 => ?_) (fun c6 => ?_)
  · skip
    refine G_aload_n hX 0 rfl rfl d_Wr_makeAdd_13 ?_
    refine F_get hX fg_Wr_39 d_Wr_makeAdd_14 53 (by decide) hW rfl ?_
    refine G_aload_n hX 0 rfl rfl d_Wr_makeAdd_17 ?_
    refine F_get hX fg_Wr_18 d_Wr_makeAdd_18 53 (by decide) hW rfl ?_
    refine F_get hX fg_Wr_71 d_Wr_makeAdd_21 55 (by decide) hD rfl ?_
    refine G_aload_n hX 0 rfl rfl d_Wr_makeAdd_24 ?_
    refine F_get hX fg_Wr_18 d_Wr_makeAdd_25 53 (by decide) hW rfl ?_
    refine F_get hX fg_Wr_75 d_Wr_makeAdd_28 55 (by decide) hD rfl ?_
    refine G_iload_n hX 1 rfl rfl d_Wr_makeAdd_31 ?_
    refine F_callV hX (st := []) (c_Ro_pushPart E f 47 48 1536 m c 7 700 g pd n (by decide) (by decide) (by decide) ⟨hM.1, hM.2⟩ (by omega) (by decide) (by decide) hg (by omega)) cm_Ro_pushPart im_Ro_pushPart se_Ro_pushPart rfl ml_Wr_128 d_Wr_makeAdd_32 (by decide) hM.1 rfl rfl (Nat.le_of_ble_eq_true rfl) (by decide) ?_
    rintro _ f7 ⟨rfl, ⟨h10, h11⟩, k12⟩
    refine G_cast (st' := []) ?_ rfl rfl rfl rfl
    refine G_aload_n hX 0 rfl rfl d_Wr_makeAdd_35 ?_
    have h13 : f7 53 = ob 9 [.ref (eA E 54), .ref (eA E 55), .ref (eA E 56), .ref (eA E 57), .ref (eA E 58), .ref (eA E 47), .ref (eA E (if kO K = 2 then 47 else 49)), .int (zI (kF K)), .int (zI (kS K)), .int (zI (kT K)), .int (zI (kZ K)), .int (zI (kK K)), .long (zL (kV K))] := (k12 53 (by decide)).trans hW
    refine F_get hX fg_Wr_18 d_Wr_makeAdd_36 53 (by decide) h13 rfl ?_
    refine G_dup hX rfl d_Wr_makeAdd_39 ?_
    have h14 : f7 55 = ob 1 [.ref (eA E 7), .int (zI pd), .int (zI (kD K))] := (k12 55 (by decide)).trans hD
    refine F_get hX fg_Wr_75 d_Wr_makeAdd_40 55 (by decide) h14 rfl ?_
    refine G_iload_n hX 1 rfl rfl d_Wr_makeAdd_43 ?_
    refine G_iadd_z hX d_Wr_makeAdd_44 ?_
    refine F_put hX fg_Wr_75 fp_Cu_1 d_Wr_makeAdd_45 55 (fs' := [.ref (eA E 7), .int (zI (pd + n)), .int (zI (kD K))]) (by decide) h14 rfl rfl (Nat.le_of_ble_eq_true rfl) rfl (fun f15 h16 k17 => ?_)
    refine G_iconst hX d_Wr_makeAdd_48 ?_
    have h18 : f15 47 = ob 6 [.ref (eA E 48), .int (zI (c + n))] := (k17 47 (by decide)).trans h10
    have h19 : f15 48 = iz E 1536 (cz g m pd c n) := (k17 48 (by decide)).trans h11
    exact F_zret hX hE (by decide) d_Wr_makeAdd_49 (Or.inl ⟨by omega, rfl, ⟨h18, h19⟩, h16, (Fr.tr (Fr.tr Fr.rf k12 (by decide)) k17 (by decide))⟩)
  · skip
    refine G_iconst hX d_Wr_makeAdd_11 ?_
    exact F_zret hX hE (by decide) d_Wr_makeAdd_12 (Or.inr ⟨by omega, rfl, rfl⟩)
theorem c_Wr_makeRunT (E : EV) (f : Nat → va_E) (K : WK) (g m : Int → Int) (pd c n : Int) (hW : isWrT E f K) (hg : f 7 = iz E 700 g) (hB : isB g) (hM : isR E f 47 48 1536 m c) (hm : isB m) (hk : 0 ≤ kT K ∧ 0 ≤ kZ K ∧ kT K + kZ K ≤ 1536 ∧ kT K ≤ c ∧ c ≤ kT K + kZ K) (hD : isC E f 55 7 pd (kD K)) (hpd : 0 ≤ pd ∧ pd ≤ kD K ∧ kD K ≤ 700) (hn : 0 ≤ n ∧ n ≤ kT K + kZ K - c) : CF yn_Wr_makeRun cd_Wr_makeRun 4 (some (.boolean)) 1 E [.ref (eA E 53), .int (zI n)] f (fun r f' => (pd < kD K ∧ r = some (.int (zI 1)) ∧ isR E f' 47 48 1536 (pz m c (fun _ => g pd) n) (c + n) ∧ isC E f' 55 7 (pd + 1) (kD K) ∧ Fr [55, 47, 48] f f') ∨ (kD K ≤ pd ∧ r = some (.int (zI 0)) ∧ isC E f' 55 7 pd (kD K) ∧ Fr [55] f f')) := by
  refine CF.of (by decide +kernel) (Nat.le_of_ble_eq_true rfl) fun X hX hE => ?_
  have hX : Ok E X "DeltaFerry$WindowReader" "makeRun" cd_Wr_makeRun 4 (some (.boolean)) (rl 1) := hX
  refine G_cast (lv' := [(0, .ref (eA E 53)), (1, .int (zI n))]) ?_ rfl rfl rfl rfl
  have hxb := nxV_b hB pd (kD K)
  refine G_aload_n hX 0 rfl rfl d_Wr_makeRun_0 ?_
  refine F_get hX fg_Wr_18 d_Wr_makeRun_1 53 (by decide) hW rfl ?_
  refine F_callV hX (st := []) (c_Cu_next E f 55 7 700 g pd (kD K) (by decide) (by decide) (by decide) hD hg (by omega)) cm_Cu_next im_Cu_next se_Cu_next rfl ml_Wr_53 d_Wr_makeRun_4 (by decide) hD rfl rfl (Nat.le_of_ble_eq_true rfl) (by decide) ?_
  rintro _ f1 ⟨rfl, h4, k5⟩
  refine G_cast (st' := [.int (zI (nxV g pd (kD K)))]) ?_ rfl rfl rfl rfl
  by_cases hlt : pd < kD K
  · skip
    have h9 : isC E f1 55 7 (pd + 1) (kD K) := by have := h4; rw [nxP_lt hlt] at this; exact this
    refine G_top (show zI (nxV g pd (kD K)) = zI (g pd) from by rw [nxV_lt hlt]) ?_
    have hgp := hB pd
    refine G_istore_n hX (lv' := [(2, .int (zI (g pd))), (0, .ref (eA E 53)), (1, .int (zI n))]) rfl (by decide) rfl d_Wr_makeRun_7 ?_
    refine G_iconst hX d_Wr_makeRun_8 ?_
    refine G_istore_n hX (lv' := [(3, .int (zI 0)), (2, .int (zI (g pd))), (0, .ref (eA E 53)), (1, .int (zI n))]) rfl (by decide) rfl d_Wr_makeRun_9 ?_
    have loop6 : ∀ (q : Nat) (t : Int) (f7 : Nat → va_E), (n - t).toNat < q → (0 ≤ t ∧ t ≤ n) → f7 47 = ob 6 [.ref (eA E 48), .int (zI (c + t))] → f7 48 = iz E 1536 (pz m c (fun _ => g pd) t) → Fr [47, 48] f1 f7 → G E X 0 0 10 [(0, .ref (eA E 53)), (1, .int (zI n)), (2, .int (zI (g pd))), (3, .int (zI t))] [] (wl E f7) := by
      intro q
      induction q with
      | zero => intro t f7 hms9; exact absurd hms9 (Nat.not_lt_zero _)
      | succ q ih10 =>
        intro t f7 hms9 ht h11 h12 k8
        refine G_iload_n hX 3 rfl rfl d_Wr_makeRun_10 ?_
        refine G_iload_n hX 1 rfl rfl d_Wr_makeRun_11 ?_
        refine G_icmp_ge_z hX (tgt := 33) d_Wr_makeRun_12 rfl (by omega) (fun c13 => ?_) (fun c14 => ?_)
        · skip
          refine G_iload_n hX 2 rfl rfl d_Wr_makeRun_33 ?_
          refine G_if_lt_z hX (tgt := 41) d_Wr_makeRun_34 rfl (by omega) (fun c15 => by exfalso; omega) (fun c16 => ?_)
          refine G_iconst hX d_Wr_makeRun_37 ?_
          refine G_goto hX (tgt := 42) d_Wr_makeRun_38 rfl ?_
          obtain rfl : t = n := by omega
          have h17 : f7 55 = ob 1 [.ref (eA E 7), .int (zI (pd + 1)), .int (zI (kD K))] := (k8 55 (by decide)).trans h9
          exact F_zret hX hE (by decide) d_Wr_makeRun_42 (Or.inl ⟨by omega, rfl, ⟨h11, h12⟩, h17, (Fr.tr (Fr.tr Fr.rf k5 (by decide)) k8 (by decide))⟩)
        · skip
          refine G_iload_n hX 2 rfl rfl d_Wr_makeRun_15 ?_
          refine G_if_lt_z hX (tgt := 33) d_Wr_makeRun_16 rfl (by omega) (fun c18 => by exfalso; omega) (fun c19 => ?_)
          refine G_aload_n hX 0 rfl rfl d_Wr_makeRun_19 ?_
          have h20 : f7 53 = ob 9 [.ref (eA E 54), .ref (eA E 55), .ref (eA E 56), .ref (eA E 57), .ref (eA E 58), .ref (eA E 47), .ref (eA E (if kO K = 2 then 47 else 49)), .int (zI (kF K)), .int (zI (kS K)), .int (zI (kT K)), .int (zI (kZ K)), .int (zI (kK K)), .long (zL (kV K))] := (k8 53 (by decide)).trans ((k5 53 (by decide)).trans hW)
          refine F_get hX fg_Wr_39 d_Wr_makeRun_20 53 (by decide) h20 rfl ?_
          refine G_iload_n hX 2 rfl rfl d_Wr_makeRun_23 ?_
          refine F_callV hX (st := []) (c_Ro_push E f7 47 48 1536 (pz m c (fun _ => g pd) t) (c + t) (g pd) (by decide) (by decide) (by decide) ⟨h11, h12⟩ (by omega) (by omega)) cm_Ro_push im_Ro_push se_Ro_push rfl ml_Wr_131 d_Wr_makeRun_24 (by decide) h11 rfl rfl (Nat.le_of_ble_eq_true rfl) (by decide) ?_
          rintro _ f21 ⟨rfl, ⟨h24, h25⟩, k26⟩
          refine G_cast (st' := []) ?_ rfl rfl rfl rfl
          refine G_iinc_z hX (lv' := [(3, .int (zI (t + 1))), (0, .ref (eA E 53)), (1, .int (zI n)), (2, .int (zI (g pd)))]) 3 rfl (by decide) rfl d_Wr_makeRun_27 ?_
          refine G_goto hX (tgt := 10) d_Wr_makeRun_30 rfl ?_
          refine G_loc (lv' := [(0, .ref (eA E 53)), (1, .int (zI n)), (2, .int (zI (g pd))), (3, .int (zI (t + 1)))]) [1, 2, 3, 0] rfl ?_
          exact ih10 (t + 1) f21 (by omega) (by omega) (by rw [← Int.add_assoc]; exact h24) (by rw [← pz_uz (by omega)]; exact h25) (Fr.tr (Fr.tr Fr.rf k8 (by decide)) k26 (by decide))
    have h27 : f1 47 = ob 6 [.ref (eA E 48), .int (zI c)] := (k5 47 (by decide)).trans hM.1
    have h28 : f1 48 = iz E 1536 m := (k5 48 (by decide)).trans hM.2
    refine G_loc (lv' := [(0, .ref (eA E 53)), (1, .int (zI n)), (2, .int (zI (g pd))), (3, .int (zI 0))]) [2, 3, 1, 0] rfl ?_
    exact loop6 (_ + 1) 0 f1 (Nat.lt_succ_self _) (by omega) (by rw [Int.add_zero]; exact h27) (by rw [pz_0]; exact h28) Fr.rf
  · skip
    have e8 : nxP pd (kD K) = pd := by unfold nxP; rw [if_neg hlt]
    have h9 : isC E f1 55 7 pd (kD K) := by have := h4; rw [e8] at this; exact this
    refine G_top (show zI (nxV g pd (kD K)) = zI (-1) from by unfold nxV; rw [if_neg hlt]) ?_
    refine G_istore_n hX (lv' := [(2, .int (zI (-1))), (0, .ref (eA E 53)), (1, .int (zI n))]) rfl (by decide) rfl d_Wr_makeRun_7 ?_
    refine G_iconst hX d_Wr_makeRun_8 ?_
    refine G_istore_n hX (lv' := [(3, .int (zI 0)), (2, .int (zI (-1))), (0, .ref (eA E 53)), (1, .int (zI n))]) rfl (by decide) rfl d_Wr_makeRun_9 ?_
    refine G_iload_n hX 0 rfl rfl d_Wr_makeRun_10 ?_
    refine G_iload_n hX 3 rfl rfl d_Wr_makeRun_11 ?_
    refine G_icmp_ge_z hX (tgt := 33) d_Wr_makeRun_12 rfl (by omega) (fun c29 => ?_) (fun c30 => ?_)
    · skip
      refine G_iload_n hX 1 rfl rfl d_Wr_makeRun_33 ?_
      refine G_if_lt_z hX (tgt := 41) d_Wr_makeRun_34 rfl (by omega) (fun c31 => ?_) (fun c32 => by exfalso; omega)
      refine G_iconst hX d_Wr_makeRun_41 ?_
      exact F_zret hX hE (by decide) d_Wr_makeRun_42 (Or.inr ⟨by omega, rfl, h9, (Fr.tr Fr.rf k5 (by decide))⟩)
    · skip
      refine G_iload_n hX 1 rfl rfl d_Wr_makeRun_15 ?_
      refine G_if_lt_z hX (tgt := 33) d_Wr_makeRun_16 rfl (by omega) (fun c33 => ?_) (fun c34 => by exfalso; omega)
      refine G_iload_n hX 1 rfl rfl d_Wr_makeRun_33 ?_
      refine G_if_lt_z hX (tgt := 41) d_Wr_makeRun_34 rfl (by omega) (fun c35 => ?_) (fun c36 => by exfalso; omega)
      refine G_iconst hX d_Wr_makeRun_41 ?_
      exact F_zret hX hE (by decide) d_Wr_makeRun_42 (Or.inr ⟨by omega, rfl, h9, (Fr.tr Fr.rf k5 (by decide))⟩)
theorem c_Wr_makeCopyT (E : EV) (f : Nat → va_E) (K : WK) (g old m nr sm : Int → Int) (pa c oc n mode N S T : Int) (hW : isWrT E f K) (hg : f 7 = iz E 700 g) (hB : isB g) (hM : isR E f 47 48 1536 m c) (hm : isB m) (hk : 0 ≤ kT K ∧ 0 ≤ kZ K ∧ kT K + kZ K ≤ 1536 ∧ kT K ≤ c ∧ c ≤ kT K + kZ K) (hA : isC E f 57 7 pa (kA K)) (hpa : 0 ≤ pa ∧ pa ≤ kA K ∧ kA K ≤ 700) (hR : isA E f 58 59 60 nr sm N S T) (hN : 0 ≤ N ∧ N ≤ 8 ∧ 0 ≤ S ∧ S ≤ 4 ∧ 0 ≤ T ∧ T < 8) (hsm : ∀ k, 0 ≤ sm k ∧ sm k < 100000) (hnr : ∀ k, 0 ≤ nr k ∧ nr k < 100000) (hO : isR E f 49 50 1536 old oc) (hoB : isB old) (hso : 0 ≤ kF K ∧ 0 ≤ kS K ∧ (kO K = 2 → kF K + kS K ≤ kT K) ∧ (¬ kO K = 2 → kF K + kS K ≤ 1536)) (hn : 0 ≤ n ∧ n ≤ kT K + kZ K - c) (hmo : 0 ≤ mode ∧ mode < 256) : CF yn_Wr_makeCopy cd_Wr_makeCopy 5 (some (.boolean)) 2 E [.ref (eA E 53), .int (zI n), .int (zI mode)] f (fun r f' => (hrOk (hrR nr sm N S mode (kS K + c - kT K) g pa (kA K)).1 (kS K + c - kT K) ∧ r = some (.int (zI 1)) ∧ isR E f' 47 48 1536 (cpL K old n.toNat (hrR nr sm N S mode (kS K + c - kT K) g pa (kA K)).1 m c) (c + n) ∧ isC E f' 57 7 (hrR nr sm N S mode (kS K + c - kT K) g pa (kA K)).2 (kA K) ∧ isA E f' 58 59 60 (rmN nr N T (hrR nr sm N S mode (kS K + c - kT K) g pa (kA K)).1) (rmS sm S (hrR nr sm N S mode (kS K + c - kT K) g pa (kA K)).1) N S (rmT N T) ∧ Fr [57, 58, 59, 60, 47, 48] f f') ∨ (¬ hrOk (hrR nr sm N S mode (kS K + c - kT K) g pa (kA K)).1 (kS K + c - kT K) ∧ r = some (.int (zI 0)) ∧ isC E f' 57 7 (hrR nr sm N S mode (kS K + c - kT K) g pa (kA K)).2 (kA K) ∧ isA E f' 58 59 60 nr sm N S T ∧ Fr [57, 58, 59, 60] f f')) := by
  refine CF.of (by decide +kernel) (Nat.le_of_ble_eq_true rfl) fun X hX hE => ?_
  have hX : Ok E X "DeltaFerry$WindowReader" "makeCopy" cd_Wr_makeCopy 5 (some (.boolean)) (rl 2) := hX
  refine G_cast (lv' := [(0, .ref (eA E 53)), (1, .int (zI n)), (2, .int (zI mode))]) ?_ rfl rfl rfl rfl
  by_cases ho : kO K = 2
  · skip
    have hW2 : f 53 = ob 9 [.ref (eA E 54), .ref (eA E 55), .ref (eA E 56), .ref (eA E 57), .ref (eA E 58), .ref (eA E 47), .ref (eA E 47), .int (zI (kF K)), .int (zI (kS K)), .int (zI (kT K)), .int (zI (kZ K)), .int (zI (kK K)), .long (zL (kV K))] := by have := hW; unfold isWrT at this; rw [if_pos ho] at this; exact this
    have hsB : kF K + kS K ≤ 1536 := by first | exact hso.2.2.2 ho | (have := hso.2.2.1 ho; omega)
    have hsT : kF K + kS K ≤ kT K := hso.2.2.1 ho
    refine G_aload_n hX 0 rfl rfl d_Wr_makeCopy_0 ?_
    refine F_get hX fg_Wr_30 d_Wr_makeCopy_1 53 (by decide) hW2 rfl ?_
    refine G_iload_n hX 2 rfl rfl d_Wr_makeCopy_4 ?_
    refine G_aload_n hX 0 rfl rfl d_Wr_makeCopy_5 ?_
    refine F_get hX fg_Wr_93 d_Wr_makeCopy_6 53 (by decide) hW2 rfl ?_
    refine G_aload_n hX 0 rfl rfl d_Wr_makeCopy_9 ?_
    refine F_get hX fg_Wr_39 d_Wr_makeCopy_10 53 (by decide) hW2 rfl ?_
    refine F_get hX fg_Wr_46 d_Wr_makeCopy_13 47 (by decide) hM.1 rfl ?_
    refine G_iadd_z hX d_Wr_makeCopy_16 ?_
    refine G_aload_n hX 0 rfl rfl d_Wr_makeCopy_17 ?_
    refine F_get hX fg_Wr_50 d_Wr_makeCopy_18 53 (by decide) hW2 rfl ?_
    refine G_isub_z hX d_Wr_makeCopy_21 ?_
    refine G_aload_n hX 0 rfl rfl d_Wr_makeCopy_22 ?_
    refine F_get hX fg_Wr_24 d_Wr_makeCopy_23 53 (by decide) hW2 rfl ?_
    refine F_callV hX (st := []) (c_Ad_hear E f nr sm N S T g pa (kA K) mode (((kS K) + c) - (kT K)) ⟨hR.1, hR.2.1, hR.2.2⟩ hN hA hg hB (by omega) (by omega) (by omega) hsm hnr) cm_Ad_hear im_Ad_hear se_Ad_hear rfl ml_Wr_134 d_Wr_makeCopy_26 (by decide) hR.1 rfl rfl (Nat.le_of_ble_eq_true rfl) (by decide) ?_
    rintro r13 f1 ⟨nr4, sm5, T6, h7, ⟨h8, h9, h10⟩, h11, k12⟩
    by_cases hok : hrOk (hrR nr sm N S mode (((kS K) + c) - (kT K)) g pa (kA K)).1 (((kS K) + c) - (kT K))
    · skip
      rw [if_pos hok] at h7
      obtain ⟨e1, e2, e3, e4⟩ := h7
      obtain rfl := e1
      refine G_cast (st' := [.int (zI ((hrR nr sm N S mode (((kS K) + c) - (kT K)) g pa (kA K)).1))]) ?_ rfl rfl rfl rfl
      have hok2 := hok.1
      have hok3 := hok.2
      generalize hHR : hrR nr sm N S mode (kS K + c - kT K) g pa (kA K) = HR at *
      refine G_istore_n hX (lv' := [(3, .int (zI HR.1)), (0, .ref (eA E 53)), (1, .int (zI n)), (2, .int (zI mode))]) rfl (by decide) rfl d_Wr_makeCopy_29 ?_
      refine G_iload_n hX 0 rfl rfl d_Wr_makeCopy_30 ?_
      refine G_if_ge_z hX (tgt := 36) d_Wr_makeCopy_31 rfl (by omega) (fun c14 => ?_) (fun c15 => by exfalso; omega)
      refine G_iload_n hX 0 rfl rfl d_Wr_makeCopy_36 ?_
      refine G_istore hX (lv' := [(4, .int (zI HR.1)), (3, .int (zI HR.1)), (0, .ref (eA E 53)), (1, .int (zI n)), (2, .int (zI mode))]) (by decide) rfl d_Wr_makeCopy_37 ?_
      have loop16 : ∀ (q : Nat) (a : Int) (m1 : Int → Int) (c1 : Int) (f17 : Nat → va_E), (HR.1 + n - a).toNat < q → (HR.1 ≤ a ∧ a ≤ HR.1 + n ∧ c1 = c + (a - HR.1)) → (cpL K old n.toNat HR.1 m c = cpL K old (HR.1 + n - a).toNat a m1 c1) → (isB m1) → f17 47 = ob 6 [.ref (eA E 48), .int (zI c1)] → f17 48 = iz E 1536 m1 → Fr [47, 48] f1 f17 → G E X 0 0 39 [(0, .ref (eA E 53)), (1, .int (zI n)), (3, .int (zI HR.1)), (4, .int (zI a))] [] (wl E f17) := by
        intro q
        induction q with
        | zero => intro a m1 c1 f17 hms19; exact absurd hms19 (Nat.not_lt_zero _)
        | succ q ih20 =>
          intro a m1 c1 f17 hms19 ha hs hm1 h21 h22 k18
          refine G_iload hX 3 rfl d_Wr_makeCopy_39 ?_
          refine G_iload_n hX 2 rfl rfl d_Wr_makeCopy_41 ?_
          refine G_iload_n hX 1 rfl rfl d_Wr_makeCopy_42 ?_
          refine G_iadd_z hX d_Wr_makeCopy_43 ?_
          refine G_icmp_ge_z hX (tgt := 107) d_Wr_makeCopy_44 rfl (by omega) (fun c23 => ?_) (fun c24 => ?_)
          · skip
            refine G_iconst hX d_Wr_makeCopy_107 ?_
            have h25 : f17 57 = ob 1 [.ref (eA E 7), .int (zI HR.2), .int (zI (kA K))] := (k18 57 (by decide)).trans h11
            have h26 : f17 58 = ob 0 [.ref (eA E 59), .ref (eA E 60), .int (zI N), .int (zI S), .int (zI T6)] := (k18 58 (by decide)).trans h8
            have h27 : f17 59 = iz E 8 nr4 := (k18 59 (by decide)).trans h9
            have h28 : f17 60 = iz E 1024 sm5 := (k18 60 (by decide)).trans h10
            rw [e4] at h26; rw [e2] at h27; rw [e3] at h28
            have e1 : cpL K old n.toNat HR.1 m c = m1 := by rw [hs, cpL_e (by omega)]
            have e5 : c1 = c + n := by omega
            rw [e1, ← e5] at hE
            exact F_zret hX hE (by decide) d_Wr_makeCopy_108 (Or.inl ⟨hok, rfl, ⟨h21, h22⟩, h25, ⟨h26, h27, h28⟩, (Fr.tr (Fr.tr Fr.rf k12 (by decide)) k18 (by decide))⟩)
          · skip
            refine G_aload_n hX 0 rfl rfl d_Wr_makeCopy_47 ?_
            have h29 : f17 53 = ob 9 [.ref (eA E 54), .ref (eA E 55), .ref (eA E 56), .ref (eA E 57), .ref (eA E 58), .ref (eA E 47), .ref (eA E 47), .int (zI (kF K)), .int (zI (kS K)), .int (zI (kT K)), .int (zI (kZ K)), .int (zI (kK K)), .long (zL (kV K))] := (k18 53 (by decide)).trans ((k12 53 (by decide)).trans hW2)
            refine F_get hX fg_Wr_39 d_Wr_makeCopy_48 53 (by decide) h29 rfl ?_
            refine G_iload hX 3 rfl d_Wr_makeCopy_51 ?_
            refine G_aload_n hX 0 rfl rfl d_Wr_makeCopy_53 ?_
            refine F_get hX fg_Wr_93 d_Wr_makeCopy_54 53 (by decide) h29 rfl ?_
            refine G_icmp_ge_z hX (tgt := 78) d_Wr_makeCopy_57 rfl (by omega) (fun c30 => ?_) (fun c31 => ?_)
            · skip
              refine G_aload_n hX 0 rfl rfl d_Wr_makeCopy_78 ?_
              refine F_get hX fg_Wr_39 d_Wr_makeCopy_79 53 (by decide) h29 rfl ?_
              refine F_get hX fg_Wr_108 d_Wr_makeCopy_82 47 (by decide) h21 rfl ?_
              refine G_aload_n hX 0 rfl rfl d_Wr_makeCopy_85 ?_
              refine F_get hX fg_Wr_50 d_Wr_makeCopy_86 53 (by decide) h29 rfl ?_
              refine G_iload hX 3 rfl d_Wr_makeCopy_89 ?_
              refine G_iadd_z hX d_Wr_makeCopy_91 ?_
              refine G_aload_n hX 0 rfl rfl d_Wr_makeCopy_92 ?_
              refine F_get hX fg_Wr_93 d_Wr_makeCopy_93 53 (by decide) h29 rfl ?_
              refine G_isub_z hX d_Wr_makeCopy_96 ?_
              refine F_iald hX d_Wr_makeCopy_97 48 (by decide) h22 (by omega) ?_
              have e98 : sbW K old m1 a = m1 (((kT K) + a) - (kS K)) := by unfold sbW; first | rw [if_neg (by omega)] | rw [if_pos (by omega), if_pos ho]
              have hvB : 0 ≤ m1 (((kT K) + a) - (kS K)) ∧ m1 (((kT K) + a) - (kS K)) < 256 := by first | exact hm1 _ | exact hoB _
              refine F_callV hX (st := []) (c_Ro_push E f17 47 48 1536 m1 c1 (m1 (((kT K) + a) - (kS K))) (by decide) (by decide) (by decide) ⟨h21, h22⟩ (by omega) (by omega)) cm_Ro_push im_Ro_push se_Ro_push rfl ml_Wr_131 d_Wr_makeCopy_98 (by decide) h21 rfl rfl (Nat.le_of_ble_eq_true rfl) (by decide) ?_
              rintro _ f32 ⟨rfl, ⟨h35, h36⟩, k37⟩
              refine G_cast (st' := []) ?_ rfl rfl rfl rfl
              refine G_iinc_z hX (lv' := [(4, .int (zI (a + 1))), (0, .ref (eA E 53)), (1, .int (zI n)), (3, .int (zI HR.1))]) 3 rfl (by decide) rfl d_Wr_makeCopy_101 ?_
              refine G_goto hX (tgt := 39) d_Wr_makeCopy_104 rfl ?_
              refine G_loc (lv' := [(0, .ref (eA E 53)), (1, .int (zI n)), (3, .int (zI HR.1)), (4, .int (zI (a + 1)))]) [1, 2, 3, 0] rfl ?_
              exact ih20 (a + 1) (uz m1 c1 (m1 (((kT K) + a) - (kS K)))) (c1 + 1) f32 (by omega) (by omega) (hs.trans (by rw [cpL_go (by omega)]; exact congrArg (fun z => cpL K old (HR.1 + n - (a + 1)).toNat (a + 1) (uz m1 c1 z) (c1 + 1)) e98)) (isB_uz hm1 hvB) h35 h36 (Fr.tr (Fr.tr Fr.rf k18 (by decide)) k37 (by decide))
            · skip
              refine G_aload_n hX 0 rfl rfl d_Wr_makeCopy_60 ?_
              refine F_get hX fg_Wr_43 d_Wr_makeCopy_61 53 (by decide) h29 rfl ?_
              refine F_get hX fg_Wr_108 d_Wr_makeCopy_64 47 (by decide) h21 rfl ?_
              refine G_aload_n hX 0 rfl rfl d_Wr_makeCopy_67 ?_
              refine F_get hX fg_Wr_90 d_Wr_makeCopy_68 53 (by decide) h29 rfl ?_
              refine G_iload hX 3 rfl d_Wr_makeCopy_71 ?_
              refine G_iadd_z hX d_Wr_makeCopy_73 ?_
              refine F_iald hX d_Wr_makeCopy_74 48 (by decide) h22 (by omega) ?_
              refine G_goto hX (tgt := 98) d_Wr_makeCopy_75 rfl ?_
              have e98 : sbW K old m1 a = m1 ((kF K) + a) := by unfold sbW; first | rw [if_neg (by omega)] | rw [if_pos (by omega), if_pos ho]
              have hvB : 0 ≤ m1 ((kF K) + a) ∧ m1 ((kF K) + a) < 256 := by first | exact hm1 _ | exact hoB _
              refine F_callV hX (st := []) (c_Ro_push E f17 47 48 1536 m1 c1 (m1 ((kF K) + a)) (by decide) (by decide) (by decide) ⟨h21, h22⟩ (by omega) (by omega)) cm_Ro_push im_Ro_push se_Ro_push rfl ml_Wr_131 d_Wr_makeCopy_98 (by decide) h21 rfl rfl (Nat.le_of_ble_eq_true rfl) (by decide) ?_
              rintro _ f38 ⟨rfl, ⟨h41, h42⟩, k43⟩
              refine G_cast (st' := []) ?_ rfl rfl rfl rfl
              refine G_iinc_z hX (lv' := [(4, .int (zI (a + 1))), (0, .ref (eA E 53)), (1, .int (zI n)), (3, .int (zI HR.1))]) 3 rfl (by decide) rfl d_Wr_makeCopy_101 ?_
              refine G_goto hX (tgt := 39) d_Wr_makeCopy_104 rfl ?_
              refine G_loc (lv' := [(0, .ref (eA E 53)), (1, .int (zI n)), (3, .int (zI HR.1)), (4, .int (zI (a + 1)))]) [1, 2, 3, 0] rfl ?_
              exact ih20 (a + 1) (uz m1 c1 (m1 ((kF K) + a))) (c1 + 1) f38 (by omega) (by omega) (hs.trans (by rw [cpL_go (by omega)]; exact congrArg (fun z => cpL K old (HR.1 + n - (a + 1)).toNat (a + 1) (uz m1 c1 z) (c1 + 1)) e98)) (isB_uz hm1 hvB) h41 h42 (Fr.tr (Fr.tr Fr.rf k18 (by decide)) k43 (by decide))
      have h44 : f1 47 = ob 6 [.ref (eA E 48), .int (zI c)] := (k12 47 (by decide)).trans hM.1
      have h45 : f1 48 = iz E 1536 m := (k12 48 (by decide)).trans hM.2
      refine G_loc (lv' := [(0, .ref (eA E 53)), (1, .int (zI n)), (3, .int (zI HR.1)), (4, .int (zI HR.1))]) [2, 3, 1, 0] rfl ?_
      exact loop16 (_ + 1) HR.1 m c f1 (Nat.lt_succ_self _) (by omega) (by rw [show HR.1 + n - HR.1 = n by omega]) hm h44 h45 Fr.rf
    · skip
      rw [if_neg hok] at h7
      obtain ⟨e1, e2, e3, e4⟩ := h7
      obtain rfl := e1
      refine G_cast (st' := [.int (zI (-1))]) ?_ rfl rfl rfl rfl
      refine G_istore_n hX (lv' := [(3, .int (zI (-1))), (0, .ref (eA E 53)), (1, .int (zI n)), (2, .int (zI mode))]) rfl (by decide) rfl d_Wr_makeCopy_29 ?_
      refine G_iload_n hX 0 rfl rfl d_Wr_makeCopy_30 ?_
      refine G_if_ge_z hX (tgt := 36) d_Wr_makeCopy_31 rfl (by omega) (fun c46 => by exfalso; omega) (fun c47 => ?_)
      refine G_iconst hX d_Wr_makeCopy_34 ?_
      rw [e4] at h8; rw [e2] at h9; rw [e3] at h10
      exact F_zret hX hE (by decide) d_Wr_makeCopy_35 (Or.inr ⟨hok, rfl, h11, ⟨h8, h9, h10⟩, (Fr.tr Fr.rf k12 (by decide))⟩)
  · skip
    have hW2 : f 53 = ob 9 [.ref (eA E 54), .ref (eA E 55), .ref (eA E 56), .ref (eA E 57), .ref (eA E 58), .ref (eA E 47), .ref (eA E 49), .int (zI (kF K)), .int (zI (kS K)), .int (zI (kT K)), .int (zI (kZ K)), .int (zI (kK K)), .long (zL (kV K))] := by have := hW; unfold isWrT at this; rw [if_neg ho] at this; exact this
    have hsB : kF K + kS K ≤ 1536 := by first | exact hso.2.2.2 ho | (have := hso.2.2.1 ho; omega)
    refine G_aload_n hX 0 rfl rfl d_Wr_makeCopy_0 ?_
    refine F_get hX fg_Wr_30 d_Wr_makeCopy_1 53 (by decide) hW2 rfl ?_
    refine G_iload_n hX 2 rfl rfl d_Wr_makeCopy_4 ?_
    refine G_aload_n hX 0 rfl rfl d_Wr_makeCopy_5 ?_
    refine F_get hX fg_Wr_93 d_Wr_makeCopy_6 53 (by decide) hW2 rfl ?_
    refine G_aload_n hX 0 rfl rfl d_Wr_makeCopy_9 ?_
    refine F_get hX fg_Wr_39 d_Wr_makeCopy_10 53 (by decide) hW2 rfl ?_
    refine F_get hX fg_Wr_46 d_Wr_makeCopy_13 47 (by decide) hM.1 rfl ?_
    refine G_iadd_z hX d_Wr_makeCopy_16 ?_
    refine G_aload_n hX 0 rfl rfl d_Wr_makeCopy_17 ?_
    refine F_get hX fg_Wr_50 d_Wr_makeCopy_18 53 (by decide) hW2 rfl ?_
    refine G_isub_z hX d_Wr_makeCopy_21 ?_
    refine G_aload_n hX 0 rfl rfl d_Wr_makeCopy_22 ?_
    refine F_get hX fg_Wr_24 d_Wr_makeCopy_23 53 (by decide) hW2 rfl ?_
    refine F_callV hX (st := []) (c_Ad_hear E f nr sm N S T g pa (kA K) mode (((kS K) + c) - (kT K)) ⟨hR.1, hR.2.1, hR.2.2⟩ hN hA hg hB (by omega) (by omega) (by omega) hsm hnr) cm_Ad_hear im_Ad_hear se_Ad_hear rfl ml_Wr_134 d_Wr_makeCopy_26 (by decide) hR.1 rfl rfl (Nat.le_of_ble_eq_true rfl) (by decide) ?_
    rintro r60 f48 ⟨nr51, sm52, T53, h54, ⟨h55, h56, h57⟩, h58, k59⟩
    by_cases hok : hrOk (hrR nr sm N S mode (((kS K) + c) - (kT K)) g pa (kA K)).1 (((kS K) + c) - (kT K))
    · skip
      rw [if_pos hok] at h54
      obtain ⟨e1, e2, e3, e4⟩ := h54
      obtain rfl := e1
      refine G_cast (st' := [.int (zI ((hrR nr sm N S mode (((kS K) + c) - (kT K)) g pa (kA K)).1))]) ?_ rfl rfl rfl rfl
      have hok2 := hok.1
      have hok3 := hok.2
      generalize hHR : hrR nr sm N S mode (kS K + c - kT K) g pa (kA K) = HR at *
      refine G_istore_n hX (lv' := [(3, .int (zI HR.1)), (0, .ref (eA E 53)), (1, .int (zI n)), (2, .int (zI mode))]) rfl (by decide) rfl d_Wr_makeCopy_29 ?_
      refine G_iload_n hX 0 rfl rfl d_Wr_makeCopy_30 ?_
      refine G_if_ge_z hX (tgt := 36) d_Wr_makeCopy_31 rfl (by omega) (fun c61 => ?_) (fun c62 => by exfalso; omega)
      refine G_iload_n hX 0 rfl rfl d_Wr_makeCopy_36 ?_
      refine G_istore hX (lv' := [(4, .int (zI HR.1)), (3, .int (zI HR.1)), (0, .ref (eA E 53)), (1, .int (zI n)), (2, .int (zI mode))]) (by decide) rfl d_Wr_makeCopy_37 ?_
      have loop63 : ∀ (q : Nat) (a : Int) (m1 : Int → Int) (c1 : Int) (f64 : Nat → va_E), (HR.1 + n - a).toNat < q → (HR.1 ≤ a ∧ a ≤ HR.1 + n ∧ c1 = c + (a - HR.1)) → (cpL K old n.toNat HR.1 m c = cpL K old (HR.1 + n - a).toNat a m1 c1) → (isB m1) → f64 47 = ob 6 [.ref (eA E 48), .int (zI c1)] → f64 48 = iz E 1536 m1 → Fr [47, 48] f48 f64 → G E X 0 0 39 [(0, .ref (eA E 53)), (1, .int (zI n)), (3, .int (zI HR.1)), (4, .int (zI a))] [] (wl E f64) := by
        intro q
        induction q with
        | zero => intro a m1 c1 f64 hms66; exact absurd hms66 (Nat.not_lt_zero _)
        | succ q ih67 =>
          intro a m1 c1 f64 hms66 ha hs hm1 h68 h69 k65
          refine G_iload hX 3 rfl d_Wr_makeCopy_39 ?_
          refine G_iload_n hX 2 rfl rfl d_Wr_makeCopy_41 ?_
          refine G_iload_n hX 1 rfl rfl d_Wr_makeCopy_42 ?_
          refine G_iadd_z hX d_Wr_makeCopy_43 ?_
          refine G_icmp_ge_z hX (tgt := 107) d_Wr_makeCopy_44 rfl (by omega) (fun c70 => ?_) (fun c71 => ?_)
          · skip
            refine G_iconst hX d_Wr_makeCopy_107 ?_
            have h72 : f64 57 = ob 1 [.ref (eA E 7), .int (zI HR.2), .int (zI (kA K))] := (k65 57 (by decide)).trans h58
            have h73 : f64 58 = ob 0 [.ref (eA E 59), .ref (eA E 60), .int (zI N), .int (zI S), .int (zI T53)] := (k65 58 (by decide)).trans h55
            have h74 : f64 59 = iz E 8 nr51 := (k65 59 (by decide)).trans h56
            have h75 : f64 60 = iz E 1024 sm52 := (k65 60 (by decide)).trans h57
            rw [e4] at h73; rw [e2] at h74; rw [e3] at h75
            have e1 : cpL K old n.toNat HR.1 m c = m1 := by rw [hs, cpL_e (by omega)]
            have e5 : c1 = c + n := by omega
            rw [e1, ← e5] at hE
            exact F_zret hX hE (by decide) d_Wr_makeCopy_108 (Or.inl ⟨hok, rfl, ⟨h68, h69⟩, h72, ⟨h73, h74, h75⟩, (Fr.tr (Fr.tr Fr.rf k59 (by decide)) k65 (by decide))⟩)
          · skip
            refine G_aload_n hX 0 rfl rfl d_Wr_makeCopy_47 ?_
            have h76 : f64 53 = ob 9 [.ref (eA E 54), .ref (eA E 55), .ref (eA E 56), .ref (eA E 57), .ref (eA E 58), .ref (eA E 47), .ref (eA E 49), .int (zI (kF K)), .int (zI (kS K)), .int (zI (kT K)), .int (zI (kZ K)), .int (zI (kK K)), .long (zL (kV K))] := (k65 53 (by decide)).trans ((k59 53 (by decide)).trans hW2)
            refine F_get hX fg_Wr_39 d_Wr_makeCopy_48 53 (by decide) h76 rfl ?_
            refine G_iload hX 3 rfl d_Wr_makeCopy_51 ?_
            refine G_aload_n hX 0 rfl rfl d_Wr_makeCopy_53 ?_
            refine F_get hX fg_Wr_93 d_Wr_makeCopy_54 53 (by decide) h76 rfl ?_
            refine G_icmp_ge_z hX (tgt := 78) d_Wr_makeCopy_57 rfl (by omega) (fun c77 => ?_) (fun c78 => ?_)
            · skip
              refine G_aload_n hX 0 rfl rfl d_Wr_makeCopy_78 ?_
              refine F_get hX fg_Wr_39 d_Wr_makeCopy_79 53 (by decide) h76 rfl ?_
              refine F_get hX fg_Wr_108 d_Wr_makeCopy_82 47 (by decide) h68 rfl ?_
              refine G_aload_n hX 0 rfl rfl d_Wr_makeCopy_85 ?_
              refine F_get hX fg_Wr_50 d_Wr_makeCopy_86 53 (by decide) h76 rfl ?_
              refine G_iload hX 3 rfl d_Wr_makeCopy_89 ?_
              refine G_iadd_z hX d_Wr_makeCopy_91 ?_
              refine G_aload_n hX 0 rfl rfl d_Wr_makeCopy_92 ?_
              refine F_get hX fg_Wr_93 d_Wr_makeCopy_93 53 (by decide) h76 rfl ?_
              refine G_isub_z hX d_Wr_makeCopy_96 ?_
              refine F_iald hX d_Wr_makeCopy_97 48 (by decide) h69 (by omega) ?_
              have e98 : sbW K old m1 a = m1 (((kT K) + a) - (kS K)) := by unfold sbW; first | rw [if_neg (by omega)] | rw [if_pos (by omega), if_neg ho]
              have hvB : 0 ≤ m1 (((kT K) + a) - (kS K)) ∧ m1 (((kT K) + a) - (kS K)) < 256 := by first | exact hm1 _ | exact hoB _
              refine F_callV hX (st := []) (c_Ro_push E f64 47 48 1536 m1 c1 (m1 (((kT K) + a) - (kS K))) (by decide) (by decide) (by decide) ⟨h68, h69⟩ (by omega) (by omega)) cm_Ro_push im_Ro_push se_Ro_push rfl ml_Wr_131 d_Wr_makeCopy_98 (by decide) h68 rfl rfl (Nat.le_of_ble_eq_true rfl) (by decide) ?_
              rintro _ f79 ⟨rfl, ⟨h82, h83⟩, k84⟩
              refine G_cast (st' := []) ?_ rfl rfl rfl rfl
              refine G_iinc_z hX (lv' := [(4, .int (zI (a + 1))), (0, .ref (eA E 53)), (1, .int (zI n)), (3, .int (zI HR.1))]) 3 rfl (by decide) rfl d_Wr_makeCopy_101 ?_
              refine G_goto hX (tgt := 39) d_Wr_makeCopy_104 rfl ?_
              refine G_loc (lv' := [(0, .ref (eA E 53)), (1, .int (zI n)), (3, .int (zI HR.1)), (4, .int (zI (a + 1)))]) [1, 2, 3, 0] rfl ?_
              exact ih67 (a + 1) (uz m1 c1 (m1 (((kT K) + a) - (kS K)))) (c1 + 1) f79 (by omega) (by omega) (hs.trans (by rw [cpL_go (by omega)]; exact congrArg (fun z => cpL K old (HR.1 + n - (a + 1)).toNat (a + 1) (uz m1 c1 z) (c1 + 1)) e98)) (isB_uz hm1 hvB) h82 h83 (Fr.tr (Fr.tr Fr.rf k65 (by decide)) k84 (by decide))
            · skip
              refine G_aload_n hX 0 rfl rfl d_Wr_makeCopy_60 ?_
              refine F_get hX fg_Wr_43 d_Wr_makeCopy_61 53 (by decide) h76 rfl ?_
              have h85 : f64 49 = ob 6 [.ref (eA E 50), .int (zI oc)] := (k65 49 (by decide)).trans ((k59 49 (by decide)).trans hO.1)
              refine F_get hX fg_Wr_108 d_Wr_makeCopy_64 49 (by decide) h85 rfl ?_
              refine G_aload_n hX 0 rfl rfl d_Wr_makeCopy_67 ?_
              refine F_get hX fg_Wr_90 d_Wr_makeCopy_68 53 (by decide) h76 rfl ?_
              refine G_iload hX 3 rfl d_Wr_makeCopy_71 ?_
              refine G_iadd_z hX d_Wr_makeCopy_73 ?_
              have h86 : f64 50 = iz E 1536 old := (k65 50 (by decide)).trans ((k59 50 (by decide)).trans hO.2)
              refine F_iald hX d_Wr_makeCopy_74 50 (by decide) h86 (by omega) ?_
              refine G_goto hX (tgt := 98) d_Wr_makeCopy_75 rfl ?_
              have e98 : sbW K old m1 a = old ((kF K) + a) := by unfold sbW; first | rw [if_neg (by omega)] | rw [if_pos (by omega), if_neg ho]
              have hvB : 0 ≤ old ((kF K) + a) ∧ old ((kF K) + a) < 256 := by first | exact hm1 _ | exact hoB _
              refine F_callV hX (st := []) (c_Ro_push E f64 47 48 1536 m1 c1 (old ((kF K) + a)) (by decide) (by decide) (by decide) ⟨h68, h69⟩ (by omega) (by omega)) cm_Ro_push im_Ro_push se_Ro_push rfl ml_Wr_131 d_Wr_makeCopy_98 (by decide) h68 rfl rfl (Nat.le_of_ble_eq_true rfl) (by decide) ?_
              rintro _ f87 ⟨rfl, ⟨h90, h91⟩, k92⟩
              refine G_cast (st' := []) ?_ rfl rfl rfl rfl
              refine G_iinc_z hX (lv' := [(4, .int (zI (a + 1))), (0, .ref (eA E 53)), (1, .int (zI n)), (3, .int (zI HR.1))]) 3 rfl (by decide) rfl d_Wr_makeCopy_101 ?_
              refine G_goto hX (tgt := 39) d_Wr_makeCopy_104 rfl ?_
              refine G_loc (lv' := [(0, .ref (eA E 53)), (1, .int (zI n)), (3, .int (zI HR.1)), (4, .int (zI (a + 1)))]) [1, 2, 3, 0] rfl ?_
              exact ih67 (a + 1) (uz m1 c1 (old ((kF K) + a))) (c1 + 1) f87 (by omega) (by omega) (hs.trans (by rw [cpL_go (by omega)]; exact congrArg (fun z => cpL K old (HR.1 + n - (a + 1)).toNat (a + 1) (uz m1 c1 z) (c1 + 1)) e98)) (isB_uz hm1 hvB) h90 h91 (Fr.tr (Fr.tr Fr.rf k65 (by decide)) k92 (by decide))
      have h93 : f48 47 = ob 6 [.ref (eA E 48), .int (zI c)] := (k59 47 (by decide)).trans hM.1
      have h94 : f48 48 = iz E 1536 m := (k59 48 (by decide)).trans hM.2
      refine G_loc (lv' := [(0, .ref (eA E 53)), (1, .int (zI n)), (3, .int (zI HR.1)), (4, .int (zI HR.1))]) [2, 3, 1, 0] rfl ?_
      exact loop63 (_ + 1) HR.1 m c f48 (Nat.lt_succ_self _) (by omega) (by rw [show HR.1 + n - HR.1 = n by omega]) hm h93 h94 Fr.rf
    · skip
      rw [if_neg hok] at h54
      obtain ⟨e1, e2, e3, e4⟩ := h54
      obtain rfl := e1
      refine G_cast (st' := [.int (zI (-1))]) ?_ rfl rfl rfl rfl
      refine G_istore_n hX (lv' := [(3, .int (zI (-1))), (0, .ref (eA E 53)), (1, .int (zI n)), (2, .int (zI mode))]) rfl (by decide) rfl d_Wr_makeCopy_29 ?_
      refine G_iload_n hX 0 rfl rfl d_Wr_makeCopy_30 ?_
      refine G_if_ge_z hX (tgt := 36) d_Wr_makeCopy_31 rfl (by omega) (fun c95 => by exfalso; omega) (fun c96 => ?_)
      refine G_iconst hX d_Wr_makeCopy_34 ?_
      rw [e4] at h55; rw [e2] at h56; rw [e3] at h57
      exact F_zret hX hE (by decide) d_Wr_makeCopy_35 (Or.inr ⟨hok, rfl, h58, ⟨h55, h56, h57⟩, (Fr.tr Fr.rf k59 (by decide))⟩)
