/-! AddressRows.tell, hear: printed by wip/tools/m_ad3.py -/
theorem uz_pz (g : Int → Int) (c v : Int) : uz g c v = pz g c (fun _ => v) 1 := by
  funext j
  simp only [uz, pz]
  grind
def tlW (nr sm : Int → Int) (N S ad here : Int) : Int := if 2 + N ≤ mdF nr sm N S ad here then 1 else wid (nbF nr (mdF nr sm N S ad here) ad here)
def tlB (nr sm : Int → Int) (N S ad here : Int) : Int → Int := if 2 + N ≤ mdF nr sm N S ad here then (fun _ => ad % 256) else nby (nbF nr (mdF nr sm N S ad here) ad here)
theorem mdF_b {nr sm : Int → Int} {N S ad here : Int} (h : 0 ≤ ad ∧ 0 ≤ N ∧ 0 ≤ S) : 0 ≤ mdF nr sm N S ad here ∧ mdF nr sm N S ad here < 2 + N + S + (if S = 0 then 1 else 0) ∧ (mdF nr sm N S ad here < 2 + N → 0 ≤ nbF nr (mdF nr sm N S ad here) ad here ∧ nbF nr (mdF nr sm N S ad here) ad here ≤ ad) := by
  have hb := bst_b nr ad here (N + 1).toNat h.1
  unfold mdF
  split
  · rename_i h2
    have h3 := emod_b ad (show 0 < 256 * S by omega)
    have h4 : ad % (256 * S) / 256 < S := by omega
    have h5 : 0 ≤ ad % (256 * S) / 256 := by omega
    refine ⟨by omega, by split <;> omega, fun h6 => by omega⟩
  · refine ⟨by omega, by split <;> omega, fun _ => hb.2.2⟩
theorem wid_b (v : Int) : 1 ≤ wid v ∧ wid v ≤ 4 := by unfold wid; repeat (first | omega | split)
theorem wid_2 {v : Int} (h : v < 16384) : wid v ≤ 2 := by unfold wid; repeat (first | omega | split)
theorem tlW_b {nr sm : Int → Int} {N S ad here : Int} (h : 0 ≤ ad ∧ 0 ≤ N ∧ 0 ≤ S ∧ ad < 16384) : 1 ≤ tlW nr sm N S ad here ∧ tlW nr sm N S ad here ≤ 2 := by
  unfold tlW
  split
  · omega
  · have h1 := (mdF_b (nr := nr) (sm := sm) (N := N) (S := S) (ad := ad) (here := here) ⟨h.1, h.2.1, h.2.2.1⟩).2.2 (by omega)
    exact ⟨(wid_b _).1, wid_2 (by omega)⟩
theorem numL_b {g : Int → Int} {e : Int} (hg : isB g) : ∀ (k : Nat) (p v : Int), 0 ≤ v → p ≤ e → -1 ≤ (numL g e k p v).1 ∧ (numL g e k p v).1 < (v + 1) * 128 ^ k ∧ p ≤ (numL g e k p v).2 ∧ (numL g e k p v).2 ≤ e := by
  intro k
  induction k with
  | zero => intro p v h1 h2; simp only [numL]; omega
  | succ k ih =>
    intro p v h1 h2
    have h3 := hg p
    have h5 : (0 : Int) < 128 ^ k := Int.pow_pos (by decide)
    have h6 : (128 : Int) ^ (k + 1) = 128 * 128 ^ k := by rw [Int.pow_succ, Int.mul_comm]
    have h4 := ih (p + 1) (v * 128 + g p % 128) (by omega)
    have h7 : (v * 128 + g p % 128 + 1) * 128 ^ k ≤ (v + 1) * 128 ^ (k + 1) := by
      rw [h6, ← Int.mul_assoc]
      exact Int.mul_le_mul_of_nonneg_right (by omega) (by omega)
    have h8 : v * 128 + g p % 128 + 1 ≤ (v * 128 + g p % 128 + 1) * 128 ^ k := by
      have := Int.mul_le_mul_of_nonneg_left (show (1 : Int) ≤ 128 ^ k by omega) (show 0 ≤ v * 128 + g p % 128 + 1 by omega)
      omega
    have h9 : 0 < (v + 1) * 128 ^ (k + 1) := Int.mul_pos (by omega) (Int.pow_pos (by decide))
    simp only [numL]
    split
    · split
      · refine ⟨by omega, by omega, by omega, by omega⟩
      · have h10 := h4 (by omega)
        refine ⟨h10.1, by omega, by omega, h10.2.2.2⟩
    · refine ⟨by omega, by omega, by omega, by omega⟩
theorem num_b {g : Int → Int} {e p : Int} (hg : isB g) (hp : p ≤ e) : -1 ≤ (numL g e 4 p 0).1 ∧ (numL g e 4 p 0).1 < 268435456 ∧ p ≤ (numL g e 4 p 0).2 ∧ (numL g e 4 p 0).2 ≤ e := by
  have h := numL_b hg 4 p 0 (by omega) hp
  have e1 : ((0 : Int) + 1) * 128 ^ 4 = 268435456 := by decide
  rw [e1] at h
  exact h
theorem c_Ad_tell (E : EV) (f : Nat → va_E) (nr sm : Int → Int) (N S T : Int) (n : Nat) (g : Int → Int) (c : Int) (ad here : Int) (hA : isA E f 41 42 43 nr sm N S T) (hN : 0 ≤ N ∧ N ≤ 8 ∧ 0 ≤ S ∧ S ≤ 4) (hR : isR E f 38 39 n g c) (hc : 0 ≤ c ∧ c + 2 ≤ n ∧ n ≤ 2000) (hT : 0 ≤ T ∧ T < 8) (had : 0 ≤ ad ∧ ad < 16384) (hhe : 0 ≤ here ∧ here < 16384) (hsm : ∀ k, -1 ≤ sm k ∧ sm k < 100000) (hnr : ∀ k, 0 ≤ nr k ∧ nr k < 100000) : CF yn_Ad_tell cd_Ad_tell 5 (some (.int)) 2 E [.ref (eA E 41), .int (zI ad), .int (zI here), .ref (eA E 38)] f (fun r f' => r = some (.int (zI (mdF nr sm N S ad here))) ∧ isA E f' 41 42 43 (rmN nr N T ad) (rmS sm S ad) N S (rmT N T) ∧ isR E f' 38 39 n (pz g c (tlB nr sm N S ad here) (tlW nr sm N S ad here)) (c + tlW nr sm N S ad here) ∧ Fr [41, 42, 43, 38, 39] f f') := by
  refine CF.of (by decide +kernel) (Nat.le_of_ble_eq_true rfl) fun X hX hE => ?_
  have hX : Ok E X "DeltaFerry$AddressRows" "tell" cd_Ad_tell 5 (some (.int)) (rl 2) := hX
  refine G_cast (lv' := [(0, .ref (eA E 41)), (1, .int (zI ad)), (2, .int (zI here)), (3, .ref (eA E 38))]) ?_ rfl rfl rfl rfl
  have hmd := mdF_b (nr := nr) (sm := sm) (N := N) (S := S) (ad := ad) (here := here) ⟨by omega, by omega, by omega⟩
  have hmd2 : mdF nr sm N S ad here < 1000 := by have := hmd.2.1; split at this <;> omega
  have hwd := tlW_b (nr := nr) (sm := sm) (N := N) (S := S) (ad := ad) (here := here) ⟨by omega, by omega, by omega, by omega⟩
  refine G_aload_n hX 0 rfl rfl d_Ad_tell_0 ?_
  refine G_iload_n hX 1 rfl rfl d_Ad_tell_1 ?_
  refine G_iload_n hX 2 rfl rfl d_Ad_tell_2 ?_
  refine F_callV hX (st := []) (c_Ad_modeFor E f nr sm N S T ad here ⟨hA.1, hA.2.1, hA.2.2⟩ (by omega) (by omega) (by omega) hsm hnr) cm_Ad_modeFor im_Ad_modeFor se_Ad_modeFor rfl ml_Ad_34 d_Ad_tell_3 (by decide) hA.1 rfl rfl (Nat.le_of_ble_eq_true rfl) (by decide) ?_
  rintro _ f1 ⟨rfl, e4⟩
  obtain rfl := e4.symm
  refine G_cast (st' := [.int (zI (mdF nr sm N S ad here))]) ?_ rfl rfl rfl rfl
  refine G_istore hX (lv' := [(4, .int (zI (mdF nr sm N S ad here))), (0, .ref (eA E 41)), (1, .int (zI ad)), (2, .int (zI here)), (3, .ref (eA E 38))]) (by decide) rfl d_Ad_tell_6 ?_
  refine G_iload hX 0 rfl d_Ad_tell_8 ?_
  refine G_iconst hX d_Ad_tell_10 ?_
  refine G_aload_n hX 1 rfl rfl d_Ad_tell_11 ?_
  refine F_get hX fg_Ad_18 d_Ad_tell_12 41 (by decide) hA.1 rfl ?_
  refine G_iadd_z hX d_Ad_tell_15 ?_
  refine G_icmp_lt_z hX (tgt := 31) d_Ad_tell_16 rfl (by omega) (fun c5 => ?_) (fun c6 => ?_)
  · skip
    refine G_aload_n hX 4 rfl rfl d_Ad_tell_31 ?_
    refine G_aload_n hX 1 rfl rfl d_Ad_tell_32 ?_
    refine G_iload hX 0 rfl d_Ad_tell_33 ?_
    refine G_iload_n hX 2 rfl rfl d_Ad_tell_35 ?_
    refine G_iload_n hX 3 rfl rfl d_Ad_tell_36 ?_
    refine F_callV hX (st := [.ref (eA E 38)]) (c_Ad_numberFor E f nr sm N S T (mdF nr sm N S ad here) ad here ⟨hA.1, hA.2.1, hA.2.2⟩ (by omega) (by omega)) cm_Ad_numberFor im_Ad_numberFor se_Ad_numberFor rfl ml_Ad_44 d_Ad_tell_37 (by decide) hA.1 rfl rfl (Nat.le_of_ble_eq_true rfl) (by decide) ?_
    rintro _ f7 ⟨rfl, e10⟩
    obtain rfl := e10.symm
    refine G_cast (st' := [.int (zI (nbF nr (mdF nr sm N S ad here) ad here)), .ref (eA E 38)]) ?_ rfl rfl rfl rfl
    have hnb := hmd.2.2 (by omega)
    have hw2 := wid_2 (show nbF nr (mdF nr sm N S ad here) ad here < 16384 by omega)
    refine F_callV hX (st := []) (c_Ro_pushNumber E f 38 39 n g c (nbF nr (mdF nr sm N S ad here) ad here) (by decide) (by decide) (by decide) ⟨hR.1, hR.2⟩ (by omega) (by omega) (by omega)) cm_Ro_pushNumber im_Ro_pushNumber se_Ro_pushNumber rfl ml_Ad_48 d_Ad_tell_40 (by decide) hR.1 rfl rfl (Nat.le_of_ble_eq_true rfl) (by decide) ?_
    rintro _ f11 ⟨rfl, ⟨h14, h15⟩, k16⟩
    refine G_cast (st' := []) ?_ rfl rfl rfl rfl
    refine G_aload_n hX 1 rfl rfl d_Ad_tell_43 ?_
    refine G_iload_n hX 2 rfl rfl d_Ad_tell_44 ?_
    have h17 : f11 41 = ob 0 [.ref (eA E 42), .ref (eA E 43), .int (zI N), .int (zI S), .int (zI T)] := (k16 41 (by decide)).trans hA.1
    have h18 : f11 42 = iz E 8 nr := (k16 42 (by decide)).trans hA.2.1
    have h19 : f11 43 = iz E 1024 sm := (k16 43 (by decide)).trans hA.2.2
    refine F_callV hX (st := []) (c_Ad_remember E f11 41 42 43 nr sm N S T ad (by decide) (by decide) (by decide) (by decide) (by decide) (by decide) ⟨h17, h18, h19⟩ (by omega)) cm_Ad_remember im_Ad_remember se_Ad_remember rfl ml_Ad_51 d_Ad_tell_45 (by decide) h17 rfl rfl (Nat.le_of_ble_eq_true rfl) (by decide) ?_
    rintro _ f20 ⟨rfl, ⟨h23, h24, h25⟩, k26⟩
    refine G_cast (st' := []) ?_ rfl rfl rfl rfl
    refine G_iload hX 0 rfl d_Ad_tell_48 ?_
    have h27 : f20 38 = ob 6 [.ref (eA E 39), .int (zI (c + wid (nbF nr (mdF nr sm N S ad here) ad here)))] := (k26 38 (by decide)).trans h14
    have h28 : f20 39 = iz E n (pz g c (nby (nbF nr (mdF nr sm N S ad here) ad here)) (wid (nbF nr (mdF nr sm N S ad here) ad here))) := (k26 39 (by decide)).trans h15
    skip
    have e1 : tlW nr sm N S ad here = wid (nbF nr (mdF nr sm N S ad here) ad here) := by unfold tlW; rw [if_neg (by omega)]
    have e2 : tlB nr sm N S ad here = nby (nbF nr (mdF nr sm N S ad here) ad here) := by unfold tlB; rw [if_neg (by omega)]
    refine F_iret hX hE d_Ad_tell_50 ⟨rfl, ⟨h23, h24, h25⟩, ⟨?_, ?_⟩, (Fr.tr (Fr.tr Fr.rf k16 (by decide)) k26 (by decide))⟩
    · rw [e1]; exact h27
    · rw [e1, e2]; exact h28
  · skip
    refine G_aload_n hX 4 rfl rfl d_Ad_tell_19 ?_
    refine G_iload_n hX 2 rfl rfl d_Ad_tell_20 ?_
    refine G_sipush hX (by decide) d_Ad_tell_21 ?_
    refine G_irem_z hX (by omega) d_Ad_tell_24 ?_
    refine F_callV hX (st := []) (c_Ro_push E f 38 39 n g c (ad % 256) (by decide) (by decide) (by decide) ⟨hR.1, hR.2⟩ (by omega) (by omega)) cm_Ro_push im_Ro_push se_Ro_push rfl ml_Ad_38 d_Ad_tell_25 (by decide) hR.1 rfl rfl (Nat.le_of_ble_eq_true rfl) (by decide) ?_
    rintro _ f29 ⟨rfl, ⟨h32, h33⟩, k34⟩
    refine G_cast (st' := []) ?_ rfl rfl rfl rfl
    refine G_goto hX (tgt := 43) d_Ad_tell_28 rfl ?_
    refine G_aload_n hX 1 rfl rfl d_Ad_tell_43 ?_
    refine G_iload_n hX 2 rfl rfl d_Ad_tell_44 ?_
    have h35 : f29 41 = ob 0 [.ref (eA E 42), .ref (eA E 43), .int (zI N), .int (zI S), .int (zI T)] := (k34 41 (by decide)).trans hA.1
    have h36 : f29 42 = iz E 8 nr := (k34 42 (by decide)).trans hA.2.1
    have h37 : f29 43 = iz E 1024 sm := (k34 43 (by decide)).trans hA.2.2
    refine F_callV hX (st := []) (c_Ad_remember E f29 41 42 43 nr sm N S T ad (by decide) (by decide) (by decide) (by decide) (by decide) (by decide) ⟨h35, h36, h37⟩ (by omega)) cm_Ad_remember im_Ad_remember se_Ad_remember rfl ml_Ad_51 d_Ad_tell_45 (by decide) h35 rfl rfl (Nat.le_of_ble_eq_true rfl) (by decide) ?_
    rintro _ f38 ⟨rfl, ⟨h41, h42, h43⟩, k44⟩
    refine G_cast (st' := []) ?_ rfl rfl rfl rfl
    refine G_iload hX 0 rfl d_Ad_tell_48 ?_
    have h45 : f38 38 = ob 6 [.ref (eA E 39), .int (zI (c + 1))] := (k44 38 (by decide)).trans h32
    have h46 : f38 39 = iz E n (uz g c (ad % 256)) := (k44 39 (by decide)).trans h33
    skip
    have e1 : tlW nr sm N S ad here = 1 := by unfold tlW; rw [if_pos (by omega)]
    have e2 : tlB nr sm N S ad here = (fun _ => ad % 256) := by unfold tlB; rw [if_pos (by omega)]
    refine F_iret hX hE d_Ad_tell_50 ⟨rfl, ⟨h41, h42, h43⟩, ⟨?_, ?_⟩, (Fr.tr (Fr.tr Fr.rf k34 (by decide)) k44 (by decide))⟩
    · rw [e1]; exact h45
    · rw [e1, e2, ← uz_pz]; exact h46
