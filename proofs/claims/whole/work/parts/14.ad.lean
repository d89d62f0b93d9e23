/-! AddressRows.tell, hear: printed by wip/tools/m_ad3.py -/
theorem uz_pz (g : Int → Int) (c v : Int) : uz g c v = pz g c (fun _ => v) 1 := by
  funext j
  simp only [uz, pz]
  grind
def tlW (nr sm : Int → Int) (N S ad here : Int) : Int := if 2 + N ≤ mdF nr sm N S ad here then 1 else wid (nbF nr (mdF nr sm N S ad here) ad here)
def tlB (nr sm : Int → Int) (N S ad here : Int) : Int → Int := if 2 + N ≤ mdF nr sm N S ad here then (fun _ => ad % 256) else nby (nbF nr (mdF nr sm N S ad here) ad here)
theorem mdF_b {nr sm : Int → Int} {N S ad here : Int} (h : 0 ≤ ad ∧ 0 ≤ N ∧ 0 ≤ S) : 0 ≤ mdF nr sm N S ad here ∧ mdF nr sm N S ad here < 2 + N + S + (if S = 0 then 1 else 0) ∧ (mdF nr sm N S ad here < 2 + N → 0 ≤ nbF nr (mdF nr sm N S ad here) ad here ∧ nbF nr (mdF nr sm N S ad here) ad here ≤ ad) := by
  have hb := bst_b nr ad here (N + 1).toNat h.1
  unfold mdF
  split
  · rename_i h2
    have h3 := emod_b ad (show 0 < 256 * S by omega)
    have h4 : ad % (256 * S) / 256 < S := by omega
    have h5 : 0 ≤ ad % (256 * S) / 256 := by omega
    refine ⟨by omega, by split <;> omega, fun h6 => by omega⟩
  · refine ⟨by omega, by split <;> omega, fun _ => hb.2.2⟩
theorem wid_b (v : Int) : 1 ≤ wid v ∧ wid v ≤ 4 := by unfold wid; repeat (first | omega | split)
theorem wid_2 {v : Int} (h : v < 16384) : wid v ≤ 2 := by unfold wid; repeat (first | omega | split)
theorem tlW_b {nr sm : Int → Int} {N S ad here : Int} (h : 0 ≤ ad ∧ 0 ≤ N ∧ 0 ≤ S ∧ ad < 16384) : 1 ≤ tlW nr sm N S ad here ∧ tlW nr sm N S ad here ≤ 2 := by
  unfold tlW
  split
  · omega
  · have h1 := (mdF_b (nr := nr) (sm := sm) (N := N) (S := S) (ad := ad) (here := here) ⟨h.1, h.2.1, h.2.2.1⟩).2.2 (by omega)
    exact ⟨(wid_b _).1, wid_2 (by omega)⟩
theorem numL_b {g : Int → Int} {e : Int} (hg : isB g) : ∀ (k : Nat) (p v : Int), 0 ≤ v → p ≤ e → -1 ≤ (numL g e k p v).1 ∧ (numL g e k p v).1 < (v + 1) * 128 ^ k ∧ p ≤ (numL g e k p v).2 ∧ (numL g e k p v).2 ≤ e := by
  intro k
  induction k with
  | zero => intro p v h1 h2; simp only [numL]; omega
  | succ k ih =>
    intro p v h1 h2
    have h3 := hg p
    have h5 : (0 : Int) < 128 ^ k := Int.pow_pos (by decide)
    have h6 : (128 : Int) ^ (k + 1) = 128 * 128 ^ k := by rw [Int.pow_succ, Int.mul_comm]
    have h4 := ih (p + 1) (v * 128 + g p % 128) (by omega)
    have h7 : (v * 128 + g p % 128 + 1) * 128 ^ k ≤ (v + 1) * 128 ^ (k + 1) := by
      rw [h6, ← Int.mul_assoc]
      exact Int.mul_le_mul_of_nonneg_right (by omega) (by omega)
    have h8 : v * 128 + g p % 128 + 1 ≤ (v * 128 + g p % 128 + 1) * 128 ^ k := by
      have := Int.mul_le_mul_of_nonneg_left (show (1 : Int) ≤ 128 ^ k by omega) (show 0 ≤ v * 128 + g p % 128 + 1 by omega)
      omega
    have h9 : 0 < (v + 1) * 128 ^ (k + 1) := Int.mul_pos (by omega) (Int.pow_pos (by decide))
    simp only [numL]
    split
    · split
      · refine ⟨by omega, by omega, by omega, by omega⟩
      · have h10 := h4 (by omega)
        refine ⟨h10.1, by omega, by omega, h10.2.2.2⟩
    · refine ⟨by omega, by omega, by omega, by omega⟩
theorem num_b {g : Int → Int} {e p : Int} (hg : isB g) (hp : p ≤ e) : -1 ≤ (numL g e 4 p 0).1 ∧ (numL g e 4 p 0).1 < 268435456 ∧ p ≤ (numL g e 4 p 0).2 ∧ (numL g e 4 p 0).2 ≤ e := by
  have h := numL_b hg 4 p 0 (by omega) hp
  have e1 : ((0 : Int) + 1) * 128 ^ 4 = 268435456 := by decide
  rw [e1] at h
  exact h
theorem c_Ad_tell (E : EV) (f : Nat → va_E) (nr sm : Int → Int) (N S T : Int) (n : Nat) (g : Int → Int) (c : Int) (ad here : Int) (hA : isA E f 41 42 43 nr sm N S T) (hN : 0 ≤ N ∧ N ≤ 8 ∧ 0 ≤ S ∧ S ≤ 4) (hR : isR E f 38 39 n g c) (hc : 0 ≤ c ∧ c + 2 ≤ n ∧ n ≤ 2000) (hT : 0 ≤ T ∧ T < 8) (had : 0 ≤ ad ∧ ad < 16384) (hhe : 0 ≤ here ∧ here < 16384) (hsm : ∀ k, -1 ≤ sm k ∧ sm k < 100000) (hnr : ∀ k, 0 ≤ nr k ∧ nr k < 100000) : CF yn_Ad_tell cd_Ad_tell 5 (some (.int)) 2 E [.ref (eA E 41), .int (zI ad), .int (zI here), .ref (eA E 38)] f (fun r f' => r = some (.int (zI (mdF nr sm N S ad here))) ∧ isA E f' 41 42 43 (rmN nr N T ad) (rmS sm S ad) N S (rmT N T) ∧ isR E f' 38 39 n (pz g c (tlB nr sm N S ad here) (tlW nr sm N S ad here)) (c + tlW nr sm N S ad here) ∧ Fr [41, 42, 43, 38, 39] f f') := by
  refine CF.of (by decide +kernel) (Nat.le_of_ble_eq_true rfl) fun X hX hE => ?_
  have hX : Ok E X "DeltaFerry$AddressRows" "tell" cd_Ad_tell 5 (some (.int)) (rl 2) := hX
  refine G_cast (lv' := [(0, .ref (eA E 41)), (1, .int (zI ad)), (2, .int (zI here)), (3, .ref (eA E 38))]) ?_ rfl rfl rfl rfl
  have hmd := mdF_b (nr := nr) (sm := sm) (N := N) (S := S) (ad := ad) (here := here) ⟨by omega, by omega, by omega⟩
  have hmd2 : mdF nr sm N S ad here < 1000 := by have := hmd.2.1; split at this <;> omega
  have hwd := tlW_b (nr := nr) (sm := sm) (N := N) (S := S) (ad := ad) (here := here) ⟨by omega, by omega, by omega, by omega⟩
  refine G_aload_n hX 0 rfl rfl d_Ad_tell_0 ?_
  refine G_iload_n hX 1 rfl rfl d_Ad_tell_1 ?_
  refine G_iload_n hX 2 rfl rfl d_Ad_tell_2 ?_
  refine F_callV hX (st := []) (c_Ad_modeFor E f nr sm N S T ad here ⟨hA.1, hA.2.1, hA.2.2⟩ (by omega) (by omega) (by omega) hsm hnr) cm_Ad_modeFor im_Ad_modeFor se_Ad_modeFor rfl ml_Ad_34 d_Ad_tell_3 (by decide) hA.1 rfl rfl (Nat.le_of_ble_eq_true rfl) (by decide) ?_
  rintro _ f1 ⟨rfl, e4⟩
  obtain rfl := e4.symm
  refine G_cast (st' := [.int (zI (mdF nr sm N S ad here))]) ?_ rfl rfl rfl rfl
  refine G_istore hX (lv' := [(4, .int (zI (mdF nr sm N S ad here))), (0, .ref (eA E 41)), (1, .int (zI ad)), (2, .int (zI here)), (3, .ref (eA E 38))]) (by decide) rfl d_Ad_tell_6 ?_
  refine G_iload hX 0 rfl d_Ad_tell_8 ?_
  refine G_iconst hX d_Ad_tell_10 ?_
  refine G_aload_n hX 1 rfl rfl d_Ad_tell_11 ?_
  refine F_get hX fg_Ad_18 d_Ad_tell_12 41 (by decide) hA.1 rfl ?_
  refine G_iadd_z hX d_Ad_tell_15 ?_
  refine G_icmp_lt_z hX (tgt := 31) d_Ad_tell_16 rfl (by omega) (fun c5 => ?_) (fun c6 => ?_)
  · skip
    refine G_aload_n hX 4 rfl rfl d_Ad_tell_31 ?_
    refine G_aload_n hX 1 rfl rfl d_Ad_tell_32 ?_
    refine G_iload hX 0 rfl d_Ad_tell_33 ?_
    refine G_iload_n hX 2 rfl rfl d_Ad_tell_35 ?_
    refine G_iload_n hX 3 rfl rfl d_Ad_tell_36 ?_
    refine F_callV hX (st := [.ref (eA E 38)]) (c_Ad_numberFor E f nr sm N S T (mdF nr sm N S ad here) ad here ⟨hA.1, hA.2.1, hA.2.2⟩ (by omega) (by omega)) cm_Ad_numberFor im_Ad_numberFor se_Ad_numberFor rfl ml_Ad_44 d_Ad_tell_37 (by decide) hA.1 rfl rfl (Nat.le_of_ble_eq_true rfl) (by decide) ?_
    rintro _ f7 ⟨rfl, e10⟩
    obtain rfl := e10.symm
    refine G_cast (st' := [.int (zI (nbF nr (mdF nr sm N S ad here) ad here)), .ref (eA E 38)]) ?_ rfl rfl rfl rfl
    have hnb := hmd.2.2 (by omega)
    have hw2 := wid_2 (show nbF nr (mdF nr sm N S ad here) ad here < 16384 by omega)
    refine F_callV hX (st := []) (c_Ro_pushNumber E f 38 39 n g c (nbF nr (mdF nr sm N S ad here) ad here) (by decide) (by decide) (by decide) ⟨hR.1, hR.2⟩ (by omega) (by omega) (by omega)) cm_Ro_pushNumber im_Ro_pushNumber se_Ro_pushNumber rfl ml_Ad_48 d_Ad_tell_40 (by decide) hR.1 rfl rfl (Nat.le_of_ble_eq_true rfl) (by decide) ?_
    rintro _ f11 ⟨rfl, ⟨h14, h15⟩, k16⟩
    refine G_cast (st' := []) ?_ rfl rfl rfl rfl
    refine G_aload_n hX 1 rfl rfl d_Ad_tell_43 ?_
    refine G_iload_n hX 2 rfl rfl d_Ad_tell_44 ?_
    have h17 : f11 41 = ob 0 [.ref (eA E 42), .ref (eA E 43), .int (zI N), .int (zI S), .int (zI T)] := (k16 41 (by decide)).trans hA.1
    have h18 : f11 42 = iz E 8 nr := (k16 42 (by decide)).trans hA.2.1
    have h19 : f11 43 = iz E 1024 sm := (k16 43 (by decide)).trans hA.2.2
    refine F_callV hX (st := []) (c_Ad_remember E f11 41 42 43 nr sm N S T ad (by decide) (by decide) (by decide) (by decide) (by decide) (by decide) ⟨h17, h18, h19⟩ (by omega)) cm_Ad_remember im_Ad_remember se_Ad_remember rfl ml_Ad_51 d_Ad_tell_45 (by decide) h17 rfl rfl (Nat.le_of_ble_eq_true rfl) (by decide) ?_
    rintro _ f20 ⟨rfl, ⟨h23, h24, h25⟩, k26⟩
    refine G_cast (st' := []) ?_ rfl rfl rfl rfl
    refine G_iload hX 0 rfl d_Ad_tell_48 ?_
    have h27 : f20 38 = ob 6 [.ref (eA E 39), .int (zI (c + wid (nbF nr (mdF nr sm N S ad here) ad here)))] := (k26 38 (by decide)).trans h14
    have h28 : f20 39 = iz E n (pz g c (nby (nbF nr (mdF nr sm N S ad here) ad here)) (wid (nbF nr (mdF nr sm N S ad here) ad here))) := (k26 39 (by decide)).trans h15
    skip
    have e1 : tlW nr sm N S ad here = wid (nbF nr (mdF nr sm N S ad here) ad here) := by unfold tlW; rw [if_neg (by omega)]
    have e2 : tlB nr sm N S ad here = nby (nbF nr (mdF nr sm N S ad here) ad here) := by unfold tlB; rw [if_neg (by omega)]
    refine F_iret hX hE d_Ad_tell_50 ⟨rfl, ⟨h23, h24, h25⟩, ⟨?_, ?_⟩, (Fr.tr (Fr.tr Fr.rf k16 (by decide)) k26 (by decide))⟩
    · rw [e1]; exact h27
    · rw [e1, e2]; exact h28
  · skip
    refine G_aload_n hX 4 rfl rfl d_Ad_tell_19 ?_
    refine G_iload_n hX 2 rfl rfl d_Ad_tell_20 ?_
    refine G_sipush hX (by decide) d_Ad_tell_21 ?_
    refine G_irem_z hX (by omega) d_Ad_tell_24 ?_
    refine F_callV hX (st := []) (c_Ro_push E f 38 39 n g c (ad % 256) (by decide) (by decide) (by decide) ⟨hR.1, hR.2⟩ (by omega) (by omega)) cm_Ro_push im_Ro_push se_Ro_push rfl ml_Ad_38 d_Ad_tell_25 (by decide) hR.1 rfl rfl (Nat.le_of_ble_eq_true rfl) (by decide) ?_
    rintro _ f29 ⟨rfl, ⟨h32, h33⟩, k34⟩
    refine G_cast (st' := []) ?_ rfl rfl rfl rfl
    refine G_goto hX (tgt := 43) d_Ad_tell_28 rfl ?_
    refine G_aload_n hX 1 rfl rfl d_Ad_tell_43 ?_
    refine G_iload_n hX 2 rfl rfl d_Ad_tell_44 ?_
    have h35 : f29 41 = ob 0 [.ref (eA E 42), .ref (eA E 43), .int (zI N), .int (zI S), .int (zI T)] := (k34 41 (by decide)).trans hA.1
    have h36 : f29 42 = iz E 8 nr := (k34 42 (by decide)).trans hA.2.1
    have h37 : f29 43 = iz E 1024 sm := (k34 43 (by decide)).trans hA.2.2
    refine F_callV hX (st := []) (c_Ad_remember E f29 41 42 43 nr sm N S T ad (by decide) (by decide) (by decide) (by decide) (by decide) (by decide) ⟨h35, h36, h37⟩ (by omega)) cm_Ad_remember im_Ad_remember se_Ad_remember rfl ml_Ad_51 d_Ad_tell_45 (by decide) h35 rfl rfl (Nat.le_of_ble_eq_true rfl) (by decide) ?_
    rintro _ f38 ⟨rfl, ⟨h41, h42, h43⟩, k44⟩
    refine G_cast (st' := []) ?_ rfl rfl rfl rfl
    refine G_iload hX 0 rfl d_Ad_tell_48 ?_
    have h45 : f38 38 = ob 6 [.ref (eA E 39), .int (zI (c + 1))] := (k44 38 (by decide)).trans h32
    have h46 : f38 39 = iz E n (uz g c (ad % 256)) := (k44 39 (by decide)).trans h33
    skip
    have e1 : tlW nr sm N S ad here = 1 := by unfold tlW; rw [if_pos (by omega)]
    have e2 : tlB nr sm N S ad here = (fun _ => ad % 256) := by unfold tlB; rw [if_pos (by omega)]
    refine F_iret hX hE d_Ad_tell_50 ⟨rfl, ⟨h41, h42, h43⟩, ⟨?_, ?_⟩, (Fr.tr (Fr.tr Fr.rf k34 (by decide)) k44 (by decide))⟩
    · rw [e1]; exact h45
    · rw [e1, e2, ← uz_pz]; exact h46
/-- the address that a mode tells, and the place behind it: not yet looked at -/
def hrR (nr sm : Int → Int) (N S mode here : Int) (g : Int → Int) (p e : Int) : Int × Int :=
  if mode < 2 + N then (if (numL g e 4 p 0).1 < 0 then (-1, (numL g e 4 p 0).2) else (if mode = 0 then (numL g e 4 p 0).1 else if mode = 1 then here - (numL g e 4 p 0).1 else nr (mode - 2) + (numL g e 4 p 0).1, (numL g e 4 p 0).2))
  else if mode < 2 + N + S then (if p < e then (sm (256 * (mode - 2 - N) + g p), p + 1) else (-1, p)) else (-1, p)
abbrev hrOk (a here : Int) : Prop := 0 ≤ a ∧ a < here
theorem nxV_b {g : Int → Int} (hg : isB g) (p e : Int) : -1 ≤ nxV g p e ∧ nxV g p e < 256 := by
  have := hg p
  unfold nxV
  split <;> omega
theorem nxV_nn {g : Int → Int} {p e : Int} (h : 0 ≤ nxV g p e) : p < e := by
  unfold nxV at h
  split at h
  · assumption
  · omega
theorem nxV_neg {g : Int → Int} {p e : Int} (hg : isB g) (h : nxV g p e < 0) : ¬ p < e := by
  intro q
  unfold nxV at h
  rw [if_pos q] at h
  have := hg p
  omega
theorem nxV_lt {g : Int → Int} {p e : Int} (h : p < e) : nxV g p e = g p := by unfold nxV; rw [if_pos h]
theorem nxP_lt {p e : Int} (h : p < e) : nxP p e = p + 1 := by unfold nxP; rw [if_pos h]
theorem c_Ad_hear (E : EV) (f : Nat → va_E) (nr sm : Int → Int) (N S T : Int) (g : Int → Int) (p e : Int) (mode here : Int) (hA : isA E f 58 59 60 nr sm N S T) (hN : 0 ≤ N ∧ N ≤ 8 ∧ 0 ≤ S ∧ S ≤ 4 ∧ 0 ≤ T ∧ T < 8) (hC : isC E f 57 7 p e) (hg : f 7 = iz E 700 g) (hB : isB g) (hp : 0 ≤ p ∧ p ≤ e ∧ e ≤ 700) (hm : 0 ≤ mode ∧ mode < 256) (hh : 0 ≤ here ∧ here < 100000) (hsm : ∀ k, 0 ≤ sm k ∧ sm k < 100000) (hnr : ∀ k, 0 ≤ nr k ∧ nr k < 100000) : CF yn_Ad_hear cd_Ad_hear 6 (some (.int)) 1 E [.ref (eA E 58), .int (zI mode), .int (zI here), .ref (eA E 57)] f (fun r f' => ∃ (nr2 sm2 : Int → Int) (T2 : Int), (if hrOk (hrR nr sm N S mode here g p e).1 here then r = some (.int (zI (hrR nr sm N S mode here g p e).1)) ∧ nr2 = rmN nr N T (hrR nr sm N S mode here g p e).1 ∧ sm2 = rmS sm S (hrR nr sm N S mode here g p e).1 ∧ T2 = rmT N T else r = some (.int (zI (-1))) ∧ nr2 = nr ∧ sm2 = sm ∧ T2 = T) ∧ isA E f' 58 59 60 nr2 sm2 N S T2 ∧ isC E f' 57 7 (hrR nr sm N S mode here g p e).2 e ∧ Fr [58, 59, 60, 57] f f') := by
  refine CF.of (by decide +kernel) (Nat.le_of_ble_eq_true rfl) fun X hX hE => ?_
  have hX : Ok E X "DeltaFerry$AddressRows" "hear" cd_Ad_hear 6 (some (.int)) (rl 1) := hX
  refine G_cast (lv' := [(0, .ref (eA E 58)), (1, .int (zI mode)), (2, .int (zI here)), (3, .ref (eA E 57))]) ?_ rfl rfl rfl rfl
  have hnb := num_b (g := g) (e := e) (p := p) hB (by omega)
  have hxb := nxV_b hB p e
  have hs1 := hsm (256 * (mode - 2 - N) + nxV g p e)
  have hn1 := hnr (mode - 2)
  have join1 : ∀ (a2 : Int) (p2 : Int) (f2 : Nat → va_E), (hrR nr sm N S mode here g p e = (a2, p2)) → (-400000000 ≤ a2 ∧ a2 < 400000000) → f2 57 = ob 1 [.ref (eA E 7), .int (zI p2), .int (zI e)] → Fr [57] f f2 → G E X 0 0 113 [(0, .ref (eA E 58)), (2, .int (zI here)), (4, .int (zI a2))] [] (wl E f2) := by
    intro a2 p2 f2 ehr hab h4 k3
    refine G_iload hX 2 rfl d_Ad_hear_113 ?_
    refine G_if_lt_z hX (tgt := 124) d_Ad_hear_115 rfl (by omega) (fun c5 => ?_) (fun c6 => ?_)
    · skip
      refine G_iconst hX d_Ad_hear_124 ?_
      have h7 : f2 58 = ob 0 [.ref (eA E 59), .ref (eA E 60), .int (zI N), .int (zI S), .int (zI T)] := (k3 58 (by decide)).trans hA.1
      have h8 : f2 59 = iz E 8 nr := (k3 59 (by decide)).trans hA.2.1
      have h9 : f2 60 = iz E 1024 sm := (k3 60 (by decide)).trans hA.2.2
      have ehr9 : hrR nr sm N S mode here g p e = (a2, p2) := ehr
      exact F_iret hX hE d_Ad_hear_125 ⟨nr, sm, T, by rw [if_neg (by rw [ehr9]; unfold hrOk; dsimp only; omega)]; exact ⟨rfl, rfl, rfl, rfl⟩, ⟨h7, h8, h9⟩, by rw [ehr9]; exact h4, (Fr.tr Fr.rf k3 (by decide))⟩
    · skip
      refine G_iload hX 2 rfl d_Ad_hear_118 ?_
      refine G_iload_n hX 1 rfl rfl d_Ad_hear_120 ?_
      refine G_icmp_lt_z hX (tgt := 126) d_Ad_hear_121 rfl (by omega) (fun c10 => ?_) (fun c11 => ?_)
      · skip
        refine G_aload_n hX 0 rfl rfl d_Ad_hear_126 ?_
        refine G_iload hX 2 rfl d_Ad_hear_127 ?_
        have h12 : f2 58 = ob 0 [.ref (eA E 59), .ref (eA E 60), .int (zI N), .int (zI S), .int (zI T)] := (k3 58 (by decide)).trans hA.1
        have h13 : f2 59 = iz E 8 nr := (k3 59 (by decide)).trans hA.2.1
        have h14 : f2 60 = iz E 1024 sm := (k3 60 (by decide)).trans hA.2.2
        refine F_callV hX (st := []) (c_Ad_remember E f2 58 59 60 nr sm N S T a2 (by decide) (by decide) (by decide) (by decide) (by decide) (by decide) ⟨h12, h13, h14⟩ (by omega)) cm_Ad_remember im_Ad_remember se_Ad_remember rfl ml_Ad_51 d_Ad_hear_129 (by decide) h12 rfl rfl (Nat.le_of_ble_eq_true rfl) (by decide) ?_
        rintro _ f15 ⟨rfl, ⟨h18, h19, h20⟩, k21⟩
        refine G_cast (st' := []) ?_ rfl rfl rfl rfl
        refine G_iload hX 2 rfl d_Ad_hear_132 ?_
        have h22 : f15 57 = ob 1 [.ref (eA E 7), .int (zI p2), .int (zI e)] := (k21 57 (by decide)).trans h4
        exact F_iret hX hE d_Ad_hear_134 ⟨_, _, _, by rw [ehr, if_pos ⟨by omega, by omega⟩]; exact ⟨rfl, rfl, rfl, rfl⟩, ⟨h18, h19, h20⟩, by rw [ehr]; exact h22, (Fr.tr (Fr.tr Fr.rf k3 (by decide)) k21 (by decide))⟩
      · skip
        refine G_iconst hX d_Ad_hear_124 ?_
        have h23 : f2 58 = ob 0 [.ref (eA E 59), .ref (eA E 60), .int (zI N), .int (zI S), .int (zI T)] := (k3 58 (by decide)).trans hA.1
        have h24 : f2 59 = iz E 8 nr := (k3 59 (by decide)).trans hA.2.1
        have h25 : f2 60 = iz E 1024 sm := (k3 60 (by decide)).trans hA.2.2
        have ehr9 : hrR nr sm N S mode here g p e = (a2, p2) := ehr
        exact F_iret hX hE d_Ad_hear_125 ⟨nr, sm, T, by rw [if_neg (by rw [ehr9]; unfold hrOk; dsimp only; omega)]; exact ⟨rfl, rfl, rfl, rfl⟩, ⟨h23, h24, h25⟩, by rw [ehr9]; exact h4, (Fr.tr Fr.rf k3 (by decide))⟩
  refine G_iconst hX d_Ad_hear_0 ?_
  refine G_istore hX (lv' := [(4, .int (zI (-1))), (0, .ref (eA E 58)), (1, .int (zI mode)), (2, .int (zI here)), (3, .ref (eA E 57))]) (by decide) rfl d_Ad_hear_1 ?_
  refine G_iload_n hX 2 rfl rfl d_Ad_hear_3 ?_
  refine G_iconst hX d_Ad_hear_4 ?_
  refine G_aload_n hX 1 rfl rfl d_Ad_hear_5 ?_
  refine F_get hX fg_Ad_18 d_Ad_hear_6 58 (by decide) hA.1 rfl ?_
  refine G_iadd_z hX d_Ad_hear_9 ?_
  refine G_icmp_ge_z hX (tgt := 63) d_Ad_hear_10 rfl (by omega) (fun c26 => ?_) (fun c27 => ?_)
  · skip
    refine G_iload_n hX 2 rfl rfl d_Ad_hear_63 ?_
    refine G_iconst hX d_Ad_hear_64 ?_
    refine G_aload_n hX 1 rfl rfl d_Ad_hear_65 ?_
    refine F_get hX fg_Ad_18 d_Ad_hear_66 58 (by decide) hA.1 rfl ?_
    refine G_iadd_z hX d_Ad_hear_69 ?_
    refine G_aload_n hX 1 rfl rfl d_Ad_hear_70 ?_
    refine F_get hX fg_Ad_22 d_Ad_hear_71 58 (by decide) hA.1 rfl ?_
    refine G_iadd_z hX d_Ad_hear_74 ?_
    refine G_icmp_ge_z hX (tgt := 113) d_Ad_hear_75 rfl (by omega) (fun c28 => ?_) (fun c29 => ?_)
    · skip
      have eh9 : hrR nr sm N S mode here g p e = (-1, p) := by unfold hrR; (repeat (first | rw [if_pos (by omega)] | rw [if_neg (by omega)]))
      refine G_loc (lv' := [(0, .ref (eA E 58)), (2, .int (zI here)), (4, .int (zI (-1)))]) [1, 3, 0] rfl ?_
      exact join1 (-1) p f  eh9 (by omega) hC Fr.rf
    · skip
      refine G_aload_n hX 4 rfl rfl d_Ad_hear_78 ?_
      refine F_callV hX (st := []) (c_Cu_next E f 57 7 700 g p e (by decide) (by decide) (by decide) hC hg (by omega)) cm_Cu_next im_Cu_next se_Cu_next rfl ml_Ad_60 d_Ad_hear_79 (by decide) hC rfl rfl (Nat.le_of_ble_eq_true rfl) (by decide) ?_
      rintro _ f30 ⟨rfl, h33, k34⟩
      refine G_cast (st' := [.int (zI (nxV g p e))]) ?_ rfl rfl rfl rfl
      refine G_istore hX (lv' := [(5, .int (zI (nxV g p e))), (4, .int (zI (-1))), (0, .ref (eA E 58)), (1, .int (zI mode)), (2, .int (zI here)), (3, .ref (eA E 57))]) (by decide) rfl d_Ad_hear_82 ?_
      refine G_iload hX 0 rfl d_Ad_hear_84 ?_
      refine G_if_ge_z hX (tgt := 91) d_Ad_hear_86 rfl (by omega) (fun c35 => ?_) (fun c36 => ?_)
      · skip
        refine G_aload_n hX 2 rfl rfl d_Ad_hear_91 ?_
        have h37 : f30 58 = ob 0 [.ref (eA E 59), .ref (eA E 60), .int (zI N), .int (zI S), .int (zI T)] := (k34 58 (by decide)).trans hA.1
        refine F_get hX fg_Ad_15 d_Ad_hear_92 58 (by decide) h37 rfl ?_
        refine G_sipush hX (by decide) d_Ad_hear_95 ?_
        refine G_iload_n hX 3 rfl rfl d_Ad_hear_98 ?_
        refine G_iconst hX d_Ad_hear_99 ?_
        refine G_isub_z hX d_Ad_hear_100 ?_
        refine G_aload_n hX 2 rfl rfl d_Ad_hear_101 ?_
        refine F_get hX fg_Ad_18 d_Ad_hear_102 58 (by decide) h37 rfl ?_
        refine G_isub_z hX d_Ad_hear_105 ?_
        refine G_imul_z hX d_Ad_hear_106 ?_
        refine G_iload hX 0 rfl d_Ad_hear_107 ?_
        refine G_iadd_z hX d_Ad_hear_109 ?_
        have h38 : f30 60 = iz E 1024 sm := (k34 60 (by decide)).trans hA.2.2
        refine F_iald hX d_Ad_hear_110 60 (by decide) h38 (by omega) ?_
        refine G_istore hX (lv' := [(4, .int (zI (sm ((256 * ((mode - 2) - N)) + (nxV g p e))))), (5, .int (zI (nxV g p e))), (0, .ref (eA E 58)), (1, .int (zI mode)), (2, .int (zI here)), (3, .ref (eA E 57))]) (by decide) rfl d_Ad_hear_111 ?_
        have hlt := nxV_nn (g := g) (p := p) (e := e) (by omega)
        have eh9 : hrR nr sm N S mode here g p e = (sm ((256 * ((mode - 2) - N)) + (nxV g p e)), nxP p e) := by rw [nxV_lt hlt, nxP_lt hlt]; unfold hrR; rw [if_neg (by omega), if_pos (by omega), if_pos hlt]
        refine G_loc (lv' := [(0, .ref (eA E 58)), (2, .int (zI here)), (4, .int (zI (sm ((256 * ((mode - 2) - N)) + (nxV g p e)))))]) [2, 4, 0] rfl ?_
        exact join1 (sm ((256 * ((mode - 2) - N)) + (nxV g p e))) (nxP p e) f30  eh9 (by omega) h33 (Fr.tr Fr.rf k34 (by decide))
      · skip
        refine G_iconst hX d_Ad_hear_89 ?_
        have hge := nxV_neg (g := g) (p := p) (e := e) hB (by omega)
        have h39 : f30 58 = ob 0 [.ref (eA E 59), .ref (eA E 60), .int (zI N), .int (zI S), .int (zI T)] := (k34 58 (by decide)).trans hA.1
        have h40 : f30 59 = iz E 8 nr := (k34 59 (by decide)).trans hA.2.1
        have h41 : f30 60 = iz E 1024 sm := (k34 60 (by decide)).trans hA.2.2
        have ehr9 : hrR nr sm N S mode here g p e = (-1, nxP p e) := by unfold nxP; rw [if_neg (by omega)]; unfold hrR; rw [if_neg (by omega), if_pos (by omega), if_neg (by omega)]
        exact F_iret hX hE d_Ad_hear_90 ⟨nr, sm, T, by rw [if_neg (by rw [ehr9]; unfold hrOk; dsimp only; omega)]; exact ⟨rfl, rfl, rfl, rfl⟩, ⟨h39, h40, h41⟩, by rw [ehr9]; exact h33, (Fr.tr Fr.rf k34 (by decide))⟩
  · skip
    refine G_aload_n hX 4 rfl rfl d_Ad_hear_13 ?_
    refine F_callV hX (st := []) (c_Cu_number E f 57 7 700 g p e (by decide) (by decide) (by decide) hC hg (by omega) hB) cm_Cu_number im_Cu_number se_Cu_number rfl ml_Ad_54 d_Ad_hear_14 (by decide) hC rfl rfl (Nat.le_of_ble_eq_true rfl) (by decide) ?_
    rintro _ f42 ⟨rfl, h45, k46⟩
    refine G_cast (st' := [.int (zI ((numL g e 4 p 0).1))]) ?_ rfl rfl rfl rfl
    refine G_istore hX (lv' := [(5, .int (zI ((numL g e 4 p 0).1))), (4, .int (zI (-1))), (0, .ref (eA E 58)), (1, .int (zI mode)), (2, .int (zI here)), (3, .ref (eA E 57))]) (by decide) rfl d_Ad_hear_17 ?_
    refine G_iload hX 0 rfl d_Ad_hear_19 ?_
    refine G_if_ge_z hX (tgt := 26) d_Ad_hear_21 rfl (by omega) (fun c47 => ?_) (fun c48 => ?_)
    · skip
      refine G_iload_n hX 3 rfl rfl d_Ad_hear_26 ?_
      refine G_if_ne_z hX (tgt := 35) d_Ad_hear_27 rfl (by omega) (fun c49 => ?_) (fun c50 => ?_)
      · skip
        refine G_iload_n hX 3 rfl rfl d_Ad_hear_35 ?_
        refine G_iconst hX d_Ad_hear_36 ?_
        refine G_icmp_ne_z hX (tgt := 47) d_Ad_hear_37 rfl (by omega) (fun c51 => ?_) (fun c52 => ?_)
        · skip
          refine G_aload_n hX 2 rfl rfl d_Ad_hear_47 ?_
          have h53 : f42 58 = ob 0 [.ref (eA E 59), .ref (eA E 60), .int (zI N), .int (zI S), .int (zI T)] := (k46 58 (by decide)).trans hA.1
          refine F_get hX fg_Ad_9 d_Ad_hear_48 58 (by decide) h53 rfl ?_
          refine G_iload_n hX 3 rfl rfl d_Ad_hear_51 ?_
          refine G_iconst hX d_Ad_hear_52 ?_
          refine G_isub_z hX d_Ad_hear_53 ?_
          have h54 : f42 59 = iz E 8 nr := (k46 59 (by decide)).trans hA.2.1
          refine F_iald hX d_Ad_hear_54 59 (by decide) h54 (by omega) ?_
          refine G_iload hX 0 rfl d_Ad_hear_55 ?_
          refine G_iadd_z hX d_Ad_hear_57 ?_
          refine G_istore hX (lv' := [(4, .int (zI ((nr (mode - 2)) + ((numL g e 4 p 0).1)))), (5, .int (zI ((numL g e 4 p 0).1))), (0, .ref (eA E 58)), (1, .int (zI mode)), (2, .int (zI here)), (3, .ref (eA E 57))]) (by decide) rfl d_Ad_hear_58 ?_
          refine G_goto hX (tgt := 113) d_Ad_hear_60 rfl ?_
          have eh9 : hrR nr sm N S mode here g p e = ((nr (mode - 2)) + ((numL g e 4 p 0).1), (numL g e 4 p 0).2) := by unfold hrR; (repeat (first | rw [if_pos (by omega)] | rw [if_neg (by omega)]))
          refine G_loc (lv' := [(0, .ref (eA E 58)), (2, .int (zI here)), (4, .int (zI ((nr (mode - 2)) + ((numL g e 4 p 0).1))))]) [2, 4, 0] rfl ?_
          exact join1 ((nr (mode - 2)) + ((numL g e 4 p 0).1)) ((numL g e 4 p 0).2) f42  eh9 (by omega) h45 (Fr.tr Fr.rf k46 (by decide))
        · skip
          refine G_iload_n hX 4 rfl rfl d_Ad_hear_40 ?_
          refine G_iload hX 0 rfl d_Ad_hear_41 ?_
          refine G_isub_z hX d_Ad_hear_43 ?_
          refine G_goto hX (tgt := 58) d_Ad_hear_44 rfl ?_
          refine G_istore hX (lv' := [(4, .int (zI (here - ((numL g e 4 p 0).1)))), (5, .int (zI ((numL g e 4 p 0).1))), (0, .ref (eA E 58)), (1, .int (zI mode)), (2, .int (zI here)), (3, .ref (eA E 57))]) (by decide) rfl d_Ad_hear_58 ?_
          refine G_goto hX (tgt := 113) d_Ad_hear_60 rfl ?_
          have eh9 : hrR nr sm N S mode here g p e = (here - ((numL g e 4 p 0).1), (numL g e 4 p 0).2) := by unfold hrR; (repeat (first | rw [if_pos (by omega)] | rw [if_neg (by omega)]))
          refine G_loc (lv' := [(0, .ref (eA E 58)), (2, .int (zI here)), (4, .int (zI (here - ((numL g e 4 p 0).1))))]) [2, 4, 0] rfl ?_
          exact join1 (here - ((numL g e 4 p 0).1)) ((numL g e 4 p 0).2) f42  eh9 (by omega) h45 (Fr.tr Fr.rf k46 (by decide))
      · skip
        refine G_iload hX 0 rfl d_Ad_hear_30 ?_
        refine G_goto hX (tgt := 58) d_Ad_hear_32 rfl ?_
        refine G_istore hX (lv' := [(4, .int (zI ((numL g e 4 p 0).1))), (5, .int (zI ((numL g e 4 p 0).1))), (0, .ref (eA E 58)), (1, .int (zI mode)), (2, .int (zI here)), (3, .ref (eA E 57))]) (by decide) rfl d_Ad_hear_58 ?_
        refine G_goto hX (tgt := 113) d_Ad_hear_60 rfl ?_
        have eh9 : hrR nr sm N S mode here g p e = ((numL g e 4 p 0).1, (numL g e 4 p 0).2) := by unfold hrR; (repeat (first | rw [if_pos (by omega)] | rw [if_neg (by omega)]))
        refine G_loc (lv' := [(0, .ref (eA E 58)), (2, .int (zI here)), (4, .int (zI ((numL g e 4 p 0).1)))]) [2, 4, 0] rfl ?_
        exact join1 ((numL g e 4 p 0).1) ((numL g e 4 p 0).2) f42  eh9 (by omega) h45 (Fr.tr Fr.rf k46 (by decide))
    · skip
      refine G_iconst hX d_Ad_hear_24 ?_
      have h55 : f42 58 = ob 0 [.ref (eA E 59), .ref (eA E 60), .int (zI N), .int (zI S), .int (zI T)] := (k46 58 (by decide)).trans hA.1
      have h56 : f42 59 = iz E 8 nr := (k46 59 (by decide)).trans hA.2.1
      have h57 : f42 60 = iz E 1024 sm := (k46 60 (by decide)).trans hA.2.2
      have ehr9 : hrR nr sm N S mode here g p e = (-1, (numL g e 4 p 0).2) := by unfold hrR; (repeat (first | rw [if_pos (by omega)] | rw [if_neg (by omega)]))
      exact F_iret hX hE d_Ad_hear_25 ⟨nr, sm, T, by rw [if_neg (by rw [ehr9]; unfold hrOk; dsimp only; omega)]; exact ⟨rfl, rfl, rfl, rfl⟩, ⟨h55, h56, h57⟩, by rw [ehr9]; exact h45, (Fr.tr Fr.rf k46 (by decide))⟩
