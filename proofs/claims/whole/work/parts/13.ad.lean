/-! Arrays.fill, DeltaFerry$AddressRows: printed by wip/tools/m_ad.py -/
theorem d_fill_fill_0 : decode cd_fill 0 = .ok (.iconst 0, 1) := by decide +kernel
theorem d_fill_fill_1 : decode cd_fill 1 = .ok (.istore_n 2, 1) := by decide +kernel
theorem d_fill_fill_2 : decode cd_fill 2 = .ok (.aload_n 0, 1) := by decide +kernel
theorem d_fill_fill_3 : decode cd_fill 3 = .ok (.arraylength, 1) := by decide +kernel
theorem d_fill_fill_4 : decode cd_fill 4 = .ok (.istore_n 3, 1) := by decide +kernel
theorem d_fill_fill_5 : decode cd_fill 5 = .ok (.iload_n 2, 1) := by decide +kernel
theorem d_fill_fill_6 : decode cd_fill 6 = .ok (.iload_n 3, 1) := by decide +kernel
theorem d_fill_fill_7 : decode cd_fill 7 = .ok (.if_icmp .ge 13, 3) := by decide +kernel
theorem d_fill_fill_10 : decode cd_fill 10 = .ok (.aload_n 0, 1) := by decide +kernel
theorem d_fill_fill_11 : decode cd_fill 11 = .ok (.iload_n 2, 1) := by decide +kernel
theorem d_fill_fill_12 : decode cd_fill 12 = .ok (.iload_n 1, 1) := by decide +kernel
theorem d_fill_fill_13 : decode cd_fill 13 = .ok (.iastore, 1) := by decide +kernel
theorem d_fill_fill_14 : decode cd_fill 14 = .ok (.iinc 2 1, 3) := by decide +kernel
theorem d_fill_fill_17 : decode cd_fill 17 = .ok (.goto (-12), 3) := by decide +kernel
theorem d_fill_fill_20 : decode cd_fill 20 = .ok (.return_, 1) := by decide +kernel
def fl (g : Nat → Int32) (n : Nat) (v : Int32) : Nat → Int32 := fun k => if k < n then v else g k
theorem fl_s {g : Nat → Int32} {v : Int32} {t : Int} (h : 0 ≤ t) : fl g (t + 1).toNat v = upd (fl g t.toNat v) t.toNat v := by
  funext k
  simp only [fl, upd]
  grind
/-- a row of one number -/
def kz (g : Int → Int) (n v : Int) : Int → Int := fun k => if k < n then v else g k
theorem fl_kz {g : Int → Int} {n : Nat} {v : Int} : fl (zf g) n (zI v) = zf (kz g n v) := by
  funext k
  unfold fl zf kz
  by_cases h : k < n
  · rw [if_pos h, if_pos (by omega)]
  · rw [if_neg h, if_neg (by omega)]
theorem c_fill (E : EV) (f : Nat → va_E) (j n : Nat) (g : Nat → Int32) (v : Int32) (hj : j < NC) (hg : f j = ia E n g) (hn : n ≤ 2000) : CF yn_fill cd_fill 4 none 0 E [.ref (eA E j), .int v] f (fun r f' => r = none ∧ f' j = ia E n (fl g n v) ∧ Fr [j] f f') := by
  refine CF.of (by decide +kernel) (Nat.le_of_ble_eq_true rfl) fun X hX hE => ?_
  have hX : Ok E X "java/util/Arrays" "fill" cd_fill 4 none (rl 0) := hX
  refine G_cast (lv' := [(0, .ref (eA E j)), (1, .int v)]) ?_ rfl rfl rfl rfl
  refine G_iconst hX d_fill_fill_0 ?_
  refine G_istore_n hX (lv' := [(2, .int (zI 0)), (0, .ref (eA E j)), (1, .int v)]) rfl (by decide) rfl d_fill_fill_1 ?_
  refine G_aload_n hX 1 rfl rfl d_fill_fill_2 ?_
  refine F_alen hX d_fill_fill_3 j hj hg ?_
  refine G_istore_n hX (lv' := [(3, .int (zI ((n : Nat) : Int))), (2, .int (zI 0)), (0, .ref (eA E j)), (1, .int v)]) rfl (by decide) rfl d_fill_fill_4 ?_
  have loop1 : ∀ (q : Nat) (t : Int) (f2 : Nat → va_E), (n - t).toNat < q → 0 ≤ t ∧ t ≤ n → f2 j = ia E n (fl g t.toNat v) → Fr [j] f f2 → G E X 0 0 5 [(0, .ref (eA E j)), (1, .int v), (2, .int (zI t)), (3, .int (zI ((n : Nat) : Int)))] [] (wl E f2) := by
    intro q
    induction q with
    | zero => intro t f2 m4; exact absurd m4 (Nat.not_lt_zero _)
    | succ q ih5 =>
      intro t f2 m4 ht h6 k3
      refine G_iload_n hX 2 rfl rfl d_fill_fill_5 ?_
      refine G_iload_n hX 3 rfl rfl d_fill_fill_6 ?_
      refine G_icmp_ge_z hX (tgt := 20) d_fill_fill_7 rfl (by omega) (fun c7 => ?_) (fun c8 => ?_)
      · skip
        have et : t.toNat = n := by omega
        rw [et] at h6
        exact F_vret hX hE d_fill_fill_20 ⟨rfl, h6, (Fr.tr Fr.rf k3 (by simp))⟩
      · skip
        refine G_aload_n hX 0 rfl rfl d_fill_fill_10 ?_
        refine G_iload_n hX 2 rfl rfl d_fill_fill_11 ?_
        refine G_iload_n hX 1 rfl rfl d_fill_fill_12 ?_
        refine F_iast_r hX d_fill_fill_13 j hj h6 (by omega) (fun f9 h10 k11 => ?_)
        refine G_iinc_z hX (lv' := [(2, .int (zI (t + 1))), (0, .ref (eA E j)), (1, .int v), (3, .int (zI ((n : Nat) : Int)))]) 2 rfl (by decide) rfl d_fill_fill_14 ?_
        refine G_goto hX (tgt := 5) d_fill_fill_17 rfl ?_
        refine G_loc (lv' := [(0, .ref (eA E j)), (1, .int v), (2, .int (zI (t + 1))), (3, .int (zI ((n : Nat) : Int)))]) [1, 2, 0, 3] rfl ?_
        exact ih5 (t + 1) f9 (by omega) (by omega) (by rw [fl_s ht.1]; exact h10) (Fr.tr (Fr.tr Fr.rf k3 (by simp)) k11 (by simp))
  refine G_loc (lv' := [(0, .ref (eA E j)), (1, .int v), (2, .int (zI 0)), (3, .int (zI ((n : Nat) : Int)))]) [2, 3, 1, 0] rfl ?_
  exact loop1 (_ + 1) 0 f (Nat.lt_succ_self _) (by omega) (by rw [hg]; congr 4) Fr.rf
/-- the rows of addresses at the cells i, a, b -/
def isA (E : EV) (f : Nat → va_E) (i a b : Nat) (nr sm : Int → Int) (N S T : Int) : Prop := f i = ob 0 [.ref (eA E a), .ref (eA E b), .int (zI N), .int (zI S), .int (zI T)] ∧ f a = iz E 8 nr ∧ f b = iz E 1024 sm
theorem emod_b (a : Int) {m : Int} (h : 0 < m) : 0 ≤ a % m ∧ a % m < m := ⟨Int.emod_nonneg a (by omega), Int.emod_lt_of_pos a h⟩
def nbF (nr : Int → Int) (mode ad here : Int) : Int := if mode = 0 then ad else if mode = 1 then here - ad else ad - nr (mode - 2)
def rmN (nr : Int → Int) (N T ad : Int) : Int → Int := if 0 < N then uz nr T ad else nr
def rmT (N T : Int) : Int := if 0 < N then (T + 1) % N else T
def rmS (sm : Int → Int) (S ad : Int) : Int → Int := if 0 < S then uz sm (ad % (256 * S)) ad else sm
def bst (nr : Int → Int) (ad here : Int) : Nat → Int
  | 0 => 0
  | k + 1 => if 0 ≤ nbF nr (k + 1) ad here ∧ nbF nr (k + 1) ad here < nbF nr (bst nr ad here k) ad here then k + 1 else bst nr ad here k
def mdF (nr sm : Int → Int) (N S ad here : Int) : Int := if 0 < S ∧ sm (ad % (256 * S)) = ad then 2 + N + ad % (256 * S) / 256 else bst nr ad here (N + 1).toNat
theorem bst_b (nr : Int → Int) (ad here : Int) (k : Nat) (h : 0 ≤ ad) : 0 ≤ bst nr ad here k ∧ bst nr ad here k ≤ k ∧ 0 ≤ nbF nr (bst nr ad here k) ad here ∧ nbF nr (bst nr ad here k) ad here ≤ ad := by
  induction k with
  | zero => simp [bst, nbF, h]
  | succ k ih =>
    simp only [bst]
    split
    · rename_i h2
      refine ⟨by omega, by omega, h2.1, by omega⟩
    · omega
theorem bst_s {nr : Int → Int} {ad here t : Int} (h : 1 ≤ t) : bst nr ad here t.toNat = if 0 ≤ nbF nr t ad here ∧ nbF nr t ad here < nbF nr (bst nr ad here (t - 1).toNat) ad here then t else bst nr ad here (t - 1).toNat := by
  rw [show t.toNat = (t - 1).toNat + 1 by omega]
  show (if 0 ≤ nbF nr ((((t - 1).toNat : Nat) : Int) + 1) ad here ∧ _ then _ else _) = _
  rw [show (((t - 1).toNat : Nat) : Int) + 1 = t by omega]
theorem c_Ad_open (E : EV) (f : Nat → va_E) (i a b : Nat) (nr sm : Int → Int) (N S T : Int) (N1 S1 : Int) (hi : i < NC) (ha : a < NC) (hb : b < NC) (hia : i ≠ a) (hib : i ≠ b) (hab : a ≠ b) (hA : isA E f i a b nr sm N S T) : CF yn_Ad_open cd_Ad_open 3 none 1 E [.ref (eA E i), .int (zI N1), .int (zI S1)] f (fun r f' => r = none ∧ isA E f' i a b (kz nr 8 0) (kz sm 1024 0) N1 S1 0 ∧ Fr [i, a, b] f f') := by
  refine CF.of (by decide +kernel) (Nat.le_of_ble_eq_true rfl) fun X hX hE => ?_
  have hX : Ok E X "DeltaFerry$AddressRows" "open" cd_Ad_open 3 none (rl 1) := hX
  refine G_cast (lv' := [(0, .ref (eA E i)), (1, .int (zI N1)), (2, .int (zI S1))]) ?_ rfl rfl rfl rfl
  refine G_aload_n hX 0 rfl rfl d_Ad_open_0 ?_
  refine G_iload_n hX 1 rfl rfl d_Ad_open_1 ?_
  refine F_put hX fg_Ad_18 fp_Ad_2 d_Ad_open_2 i (fs' := [.ref (eA E a), .ref (eA E b), .int (zI N1), .int (zI S), .int (zI T)]) hi hA.1 rfl rfl (Nat.le_of_ble_eq_true rfl) rfl (fun f1 h2 k3 => ?_)
  refine G_aload_n hX 0 rfl rfl d_Ad_open_5 ?_
  refine G_iload_n hX 2 rfl rfl d_Ad_open_6 ?_
  refine F_put hX fg_Ad_22 fp_Ad_3 d_Ad_open_7 i (fs' := [.ref (eA E a), .ref (eA E b), .int (zI N1), .int (zI S1), .int (zI T)]) hi h2 rfl rfl (Nat.le_of_ble_eq_true rfl) rfl (fun f4 h5 k6 => ?_)
  refine G_aload_n hX 0 rfl rfl d_Ad_open_10 ?_
  refine G_iconst hX d_Ad_open_11 ?_
  refine F_put hX fg_Ad_25 fp_Ad_4 d_Ad_open_12 i (fs' := [.ref (eA E a), .ref (eA E b), .int (zI N1), .int (zI S1), .int (zI 0)]) hi h5 rfl rfl (Nat.le_of_ble_eq_true rfl) rfl (fun f7 h8 k9 => ?_)
  refine G_aload_n hX 0 rfl rfl d_Ad_open_15 ?_
  refine F_get hX fg_Ad_9 d_Ad_open_16 i hi h8 rfl ?_
  refine G_iconst hX d_Ad_open_19 ?_
  have h10 : f7 a = iz E 8 nr := (k9 a (by simp only [List.mem_cons, List.not_mem_nil, or_false]; omega)).trans ((k6 a (by simp only [List.mem_cons, List.not_mem_nil, or_false]; omega)).trans ((k3 a (by simp only [List.mem_cons, List.not_mem_nil, or_false]; omega)).trans hA.2.1))
  refine F_callS hX (c_fill E f7 a 8 (zf nr) (zI 0) ha h10 (by omega)) cm_fill kw_st_Arrays ml_Ad_28 d_Ad_open_20 rfl rfl (Nat.le_of_ble_eq_true rfl) (by decide) ?_
  rintro _ f11 ⟨rfl, h14, k15⟩
  rw [fl_kz] at h14
  refine G_cast (st' := []) ?_ rfl rfl rfl rfl
  refine G_aload_n hX 0 rfl rfl d_Ad_open_23 ?_
  have h16 : f11 i = ob 0 [.ref (eA E a), .ref (eA E b), .int (zI N1), .int (zI S1), .int (zI 0)] := (k15 i (by simp only [List.mem_cons, List.not_mem_nil, or_false]; omega)).trans h8
  refine F_get hX fg_Ad_15 d_Ad_open_24 i hi h16 rfl ?_
  refine G_iconst hX d_Ad_open_27 ?_
  have h17 : f11 b = iz E 1024 sm := (k15 b (by simp only [List.mem_cons, List.not_mem_nil, or_false]; omega)).trans ((k9 b (by simp only [List.mem_cons, List.not_mem_nil, or_false]; omega)).trans ((k6 b (by simp only [List.mem_cons, List.not_mem_nil, or_false]; omega)).trans ((k3 b (by simp only [List.mem_cons, List.not_mem_nil, or_false]; omega)).trans hA.2.2)))
  refine F_callS hX (c_fill E f11 b 1024 (zf sm) (zI 0) hb h17 (by omega)) cm_fill kw_st_Arrays ml_Ad_28 d_Ad_open_28 rfl rfl (Nat.le_of_ble_eq_true rfl) (by decide) ?_
  rintro _ f18 ⟨rfl, h21, k22⟩
  rw [fl_kz] at h21
  refine G_cast (st' := []) ?_ rfl rfl rfl rfl
  have h23 : f18 i = ob 0 [.ref (eA E a), .ref (eA E b), .int (zI N1), .int (zI S1), .int (zI 0)] := (k22 i (by simp only [List.mem_cons, List.not_mem_nil, or_false]; omega)).trans h16
  have h24 : f18 a = iz E 8 (kz nr 8 0) := (k22 a (by simp only [List.mem_cons, List.not_mem_nil, or_false]; omega)).trans h14
  exact F_vret hX hE d_Ad_open_31 ⟨rfl, ⟨h23, h24, h21⟩, (Fr.tr (Fr.tr (Fr.tr (Fr.tr (Fr.tr Fr.rf k3 (by simp)) k6 (by simp)) k9 (by simp)) k15 (by simp)) k22 (by simp))⟩
theorem c_Ad_remember (E : EV) (f : Nat → va_E) (i a b : Nat) (nr sm : Int → Int) (N S T : Int) (ad : Int) (hi : i < NC) (ha : a < NC) (hb : b < NC) (hia : i ≠ a) (hib : i ≠ b) (hab : a ≠ b) (hA : isA E f i a b nr sm N S T) (hx : 0 ≤ N ∧ N ≤ 8 ∧ 0 ≤ S ∧ S ≤ 4 ∧ 0 ≤ T ∧ T < 8 ∧ 0 ≤ ad ∧ ad < 100000) : CF yn_Ad_remember cd_Ad_remember 2 none 0 E [.ref (eA E i), .int (zI ad)] f (fun r f' => r = none ∧ isA E f' i a b (rmN nr N T ad) (rmS sm S ad) N S (rmT N T) ∧ Fr [i, a, b] f f') := by
  refine CF.of (by decide +kernel) (Nat.le_of_ble_eq_true rfl) fun X hX hE => ?_
  have hX : Ok E X "DeltaFerry$AddressRows" "remember" cd_Ad_remember 2 none (rl 0) := hX
  refine G_cast (lv' := [(0, .ref (eA E i)), (1, .int (zI ad))]) ?_ rfl rfl rfl rfl
  refine G_aload_n hX 0 rfl rfl d_Ad_remember_0 ?_
  refine F_get hX fg_Ad_18 d_Ad_remember_1 i hi hA.1 rfl ?_
  refine G_if_le_z hX (tgt := 32) d_Ad_remember_4 rfl (by omega) (fun c1 => ?_) (fun c2 => ?_)
  · skip
    refine G_aload_n hX 0 rfl rfl d_Ad_remember_32 ?_
    refine F_get hX fg_Ad_22 d_Ad_remember_33 i hi hA.1 rfl ?_
    refine G_if_le_z hX (tgt := 55) d_Ad_remember_36 rfl (by omega) (fun c3 => ?_) (fun c4 => ?_)
    · skip
      refine F_vret hX hE d_Ad_remember_55 ⟨rfl, ⟨?_, ?_, ?_⟩, Fr.rf⟩
      · unfold rmT; rw [if_neg (by omega)]; exact hA.1
      · unfold rmN; rw [if_neg (by omega)]; exact hA.2.1
      · unfold rmS; rw [if_neg (by omega)]; exact hA.2.2
    · skip
      refine G_aload_n hX 0 rfl rfl d_Ad_remember_39 ?_
      refine F_get hX fg_Ad_15 d_Ad_remember_40 i hi hA.1 rfl ?_
      refine G_iload_n hX 1 rfl rfl d_Ad_remember_43 ?_
      refine G_sipush hX (by decide) d_Ad_remember_44 ?_
      refine G_aload_n hX 0 rfl rfl d_Ad_remember_47 ?_
      refine F_get hX fg_Ad_22 d_Ad_remember_48 i hi hA.1 rfl ?_
      refine G_imul_z hX d_Ad_remember_51 ?_
      refine G_irem_z hX (by omega) d_Ad_remember_52 ?_
      refine G_iload_n hX 1 rfl rfl d_Ad_remember_53 ?_
      refine F_iast hX d_Ad_remember_54 b hb hA.2.2 (by have := emod_b ad (show 0 < 256 * S by omega); omega) (fun f5 h6 k7 => ?_)
      have h8 : f5 i = ob 0 [.ref (eA E a), .ref (eA E b), .int (zI N), .int (zI S), .int (zI T)] := (k7 i (by simp only [List.mem_cons, List.not_mem_nil, or_false]; omega)).trans hA.1
      have h9 : f5 a = iz E 8 nr := (k7 a (by simp only [List.mem_cons, List.not_mem_nil, or_false]; omega)).trans hA.2.1
      refine F_vret hX hE d_Ad_remember_55 ⟨rfl, ⟨?_, ?_, ?_⟩, (Fr.tr Fr.rf k7 (by simp))⟩
      · unfold rmT; rw [if_neg (by omega)]; exact h8
      · unfold rmN; rw [if_neg (by omega)]; exact h9
      · unfold rmS; rw [if_pos (by omega)]; exact h6
  · skip
    refine G_aload_n hX 0 rfl rfl d_Ad_remember_7 ?_
    refine F_get hX fg_Ad_9 d_Ad_remember_8 i hi hA.1 rfl ?_
    refine G_aload_n hX 0 rfl rfl d_Ad_remember_11 ?_
    refine F_get hX fg_Ad_25 d_Ad_remember_12 i hi hA.1 rfl ?_
    refine G_iload_n hX 1 rfl rfl d_Ad_remember_15 ?_
    refine F_iast hX d_Ad_remember_16 a ha hA.2.1 (by omega) (fun f10 h11 k12 => ?_)
    refine G_aload_n hX 0 rfl rfl d_Ad_remember_17 ?_
    refine G_aload_n hX 0 rfl rfl d_Ad_remember_18 ?_
    have h13 : f10 i = ob 0 [.ref (eA E a), .ref (eA E b), .int (zI N), .int (zI S), .int (zI T)] := (k12 i (by simp only [List.mem_cons, List.not_mem_nil, or_false]; omega)).trans hA.1
    refine F_get hX fg_Ad_25 d_Ad_remember_19 i hi h13 rfl ?_
    refine G_iconst hX d_Ad_remember_22 ?_
    refine G_iadd_z hX d_Ad_remember_23 ?_
    refine G_aload_n hX 0 rfl rfl d_Ad_remember_24 ?_
    refine F_get hX fg_Ad_18 d_Ad_remember_25 i hi h13 rfl ?_
    refine G_irem_z hX (by omega) d_Ad_remember_28 ?_
    refine F_put hX fg_Ad_25 fp_Ad_4 d_Ad_remember_29 i (fs' := [.ref (eA E a), .ref (eA E b), .int (zI N), .int (zI S), .int (zI ((T + 1) % N))]) hi h13 rfl rfl (Nat.le_of_ble_eq_true rfl) rfl (fun f14 h15 k16 => ?_)
    refine G_aload_n hX 0 rfl rfl d_Ad_remember_32 ?_
    refine F_get hX fg_Ad_22 d_Ad_remember_33 i hi h15 rfl ?_
    refine G_if_le_z hX (tgt := 55) d_Ad_remember_36 rfl (by omega) (fun c17 => ?_) (fun c18 => ?_)
    · skip
      have h19 : f14 a = iz E 8 (uz nr T ad) := (k16 a (by simp only [List.mem_cons, List.not_mem_nil, or_false]; omega)).trans h11
      have h20 : f14 b = iz E 1024 sm := (k16 b (by simp only [List.mem_cons, List.not_mem_nil, or_false]; omega)).trans ((k12 b (by simp only [List.mem_cons, List.not_mem_nil, or_false]; omega)).trans hA.2.2)
      refine F_vret hX hE d_Ad_remember_55 ⟨rfl, ⟨?_, ?_, ?_⟩, (Fr.tr (Fr.tr Fr.rf k12 (by simp)) k16 (by simp))⟩
      · unfold rmT; rw [if_pos (by omega)]; exact h15
      · unfold rmN; rw [if_pos (by omega)]; exact h19
      · unfold rmS; rw [if_neg (by omega)]; exact h20
    · skip
      refine G_aload_n hX 0 rfl rfl d_Ad_remember_39 ?_
      refine F_get hX fg_Ad_15 d_Ad_remember_40 i hi h15 rfl ?_
      refine G_iload_n hX 1 rfl rfl d_Ad_remember_43 ?_
      refine G_sipush hX (by decide) d_Ad_remember_44 ?_
      refine G_aload_n hX 0 rfl rfl d_Ad_remember_47 ?_
      refine F_get hX fg_Ad_22 d_Ad_remember_48 i hi h15 rfl ?_
      refine G_imul_z hX d_Ad_remember_51 ?_
      refine G_irem_z hX (by omega) d_Ad_remember_52 ?_
      refine G_iload_n hX 1 rfl rfl d_Ad_remember_53 ?_
      have h21 : f14 b = iz E 1024 sm := (k16 b (by simp only [List.mem_cons, List.not_mem_nil, or_false]; omega)).trans ((k12 b (by simp only [List.mem_cons, List.not_mem_nil, or_false]; omega)).trans hA.2.2)
      refine F_iast hX d_Ad_remember_54 b hb h21 (by have := emod_b ad (show 0 < 256 * S by omega); omega) (fun f22 h23 k24 => ?_)
      have h25 : f22 i = ob 0 [.ref (eA E a), .ref (eA E b), .int (zI N), .int (zI S), .int (zI ((T + 1) % N))] := (k24 i (by simp only [List.mem_cons, List.not_mem_nil, or_false]; omega)).trans h15
      have h26 : f22 a = iz E 8 (uz nr T ad) := (k24 a (by simp only [List.mem_cons, List.not_mem_nil, or_false]; omega)).trans ((k16 a (by simp only [List.mem_cons, List.not_mem_nil, or_false]; omega)).trans h11)
      refine F_vret hX hE d_Ad_remember_55 ⟨rfl, ⟨?_, ?_, ?_⟩, (Fr.tr (Fr.tr (Fr.tr Fr.rf k12 (by simp)) k16 (by simp)) k24 (by simp))⟩
      · unfold rmT; rw [if_pos (by omega)]; exact h25
      · unfold rmN; rw [if_pos (by omega)]; exact h26
      · unfold rmS; rw [if_pos (by omega)]; exact h23
theorem c_Ad_numberFor (E : EV) (f : Nat → va_E) (nr sm : Int → Int) (N S T : Int) (mode ad here : Int) (hA : isA E f 41 42 43 nr sm N S T) (hN : 0 ≤ N ∧ N ≤ 8 ∧ 0 ≤ S ∧ S ≤ 4) (hm : 0 ≤ mode ∧ mode < 2 + N) : CF yn_Ad_numberFor cd_Ad_numberFor 4 (some (.int)) 0 E [.ref (eA E 41), .int (zI mode), .int (zI ad), .int (zI here)] f (fun r f' => r = some (.int (zI (nbF nr mode ad here))) ∧ f' = f) := by
  refine CF.of (by decide +kernel) (Nat.le_of_ble_eq_true rfl) fun X hX hE => ?_
  have hX : Ok E X "DeltaFerry$AddressRows" "numberFor" cd_Ad_numberFor 4 (some (.int)) (rl 0) := hX
  refine G_cast (lv' := [(0, .ref (eA E 41)), (1, .int (zI mode)), (2, .int (zI ad)), (3, .int (zI here))]) ?_ rfl rfl rfl rfl
  refine G_iload_n hX 1 rfl rfl d_Ad_numberFor_0 ?_
  refine G_if_ne_z hX (tgt := 8) d_Ad_numberFor_1 rfl (by omega) (fun c1 => ?_) (fun c2 => ?_)
  · skip
    refine G_iload_n hX 1 rfl rfl d_Ad_numberFor_8 ?_
    refine G_iconst hX d_Ad_numberFor_9 ?_
    refine G_icmp_ne_z hX (tgt := 19) d_Ad_numberFor_10 rfl (by omega) (fun c3 => ?_) (fun c4 => ?_)
    · skip
      refine G_iload_n hX 2 rfl rfl d_Ad_numberFor_19 ?_
      refine G_aload_n hX 0 rfl rfl d_Ad_numberFor_20 ?_
      refine F_get hX fg_Ad_9 d_Ad_numberFor_21 41 (by decide) hA.1 rfl ?_
      refine G_iload_n hX 1 rfl rfl d_Ad_numberFor_24 ?_
      refine G_iconst hX d_Ad_numberFor_25 ?_
      refine G_isub_z hX d_Ad_numberFor_26 ?_
      refine F_iald hX d_Ad_numberFor_27 42 (by decide) hA.2.1 (by omega) ?_
      refine G_isub_z hX d_Ad_numberFor_28 ?_
      exact F_iret hX hE d_Ad_numberFor_29 ⟨by unfold nbF; (repeat (first | rw [if_pos (by omega)] | rw [if_neg (by omega)])), rfl⟩
    · skip
      refine G_iload_n hX 3 rfl rfl d_Ad_numberFor_13 ?_
      refine G_iload_n hX 2 rfl rfl d_Ad_numberFor_14 ?_
      refine G_isub_z hX d_Ad_numberFor_15 ?_
      refine G_goto hX (tgt := 29) d_Ad_numberFor_16 rfl ?_
      exact F_iret hX hE d_Ad_numberFor_29 ⟨by unfold nbF; (repeat (first | rw [if_pos (by omega)] | rw [if_neg (by omega)])), rfl⟩
  · skip
    refine G_iload_n hX 2 rfl rfl d_Ad_numberFor_4 ?_
    refine G_goto hX (tgt := 29) d_Ad_numberFor_5 rfl ?_
    exact F_iret hX hE d_Ad_numberFor_29 ⟨by unfold nbF; (repeat (first | rw [if_pos (by omega)] | rw [if_neg (by omega)])), rfl⟩
theorem c_Ad_modeFor (E : EV) (f : Nat → va_E) (nr sm : Int → Int) (N S T : Int) (ad here : Int) (hA : isA E f 41 42 43 nr sm N S T) (hN : 0 ≤ N ∧ N ≤ 8 ∧ 0 ≤ S ∧ S ≤ 4) (had : 0 ≤ ad ∧ ad < 100000) (hhe : 0 ≤ here ∧ here < 100000) (hsm : ∀ k, -1 ≤ sm k ∧ sm k < 100000) (hnr : ∀ k, 0 ≤ nr k ∧ nr k < 100000) : CF yn_Ad_modeFor cd_Ad_modeFor 7 (some (.int)) 1 E [.ref (eA E 41), .int (zI ad), .int (zI here)] f (fun r f' => r = some (.int (zI (mdF nr sm N S ad here))) ∧ f' = f) := by
  refine CF.of (by decide +kernel) (Nat.le_of_ble_eq_true rfl) fun X hX hE => ?_
  have hX : Ok E X "DeltaFerry$AddressRows" "modeFor" cd_Ad_modeFor 7 (some (.int)) (rl 1) := hX
  refine G_cast (lv' := [(0, .ref (eA E 41)), (1, .int (zI ad)), (2, .int (zI here))]) ?_ rfl rfl rfl rfl
  have join1 : ∀ (f2 : Nat → va_E), (¬ (0 < S ∧ sm (ad % (256 * S)) = ad)) → Fr [] f f2 → G E X 0 0 52 [(0, .ref (eA E 41)), (1, .int (zI ad)), (2, .int (zI here))] [] (wl E f2) := by
    intro f2 hno k3
    refine G_iconst hX d_Ad_modeFor_52 ?_
    refine G_istore hX (lv' := [(4, .int (zI 0)), (0, .ref (eA E 41)), (1, .int (zI ad)), (2, .int (zI here))]) (by decide) rfl d_Ad_modeFor_53 ?_
    refine G_iconst hX d_Ad_modeFor_55 ?_
    refine G_istore hX (lv' := [(5, .int (zI 1)), (4, .int (zI 0)), (0, .ref (eA E 41)), (1, .int (zI ad)), (2, .int (zI here))]) (by decide) rfl d_Ad_modeFor_56 ?_
    have loop4 : ∀ (q : Nat) (t : Int) (u : Int) (f5 : Nat → va_E), (2 + N - t).toNat < q → 1 ≤ t ∧ t ≤ 2 + N → u = bst nr ad here (t - 1).toNat → Fr [] f2 f5 → G E X 0 0 58 [(0, .ref (eA E 41)), (1, .int (zI ad)), (2, .int (zI here)), (4, .int (zI u)), (5, .int (zI t))] [] (wl E f5) := by
      intro q
      induction q with
      | zero => intro t u f5 m7; exact absurd m7 (Nat.not_lt_zero _)
      | succ q ih8 =>
        intro t u f5 m7 ht hu k6
        have hbb := bst_b nr ad here (t - 1).toNat had.1
        rw [← hu] at hbb
        have hs2 := bst_s (nr := nr) (ad := ad) (here := here) ht.1
        rw [← hu] at hs2
        refine G_iload hX 4 rfl d_Ad_modeFor_58 ?_
        refine G_iconst hX d_Ad_modeFor_60 ?_
        refine G_aload_n hX 0 rfl rfl d_Ad_modeFor_61 ?_
        have h9 : f5 41 = ob 0 [.ref (eA E 42), .ref (eA E 43), .int (zI N), .int (zI S), .int (zI T)] := (k6 41 (List.not_mem_nil)).trans ((k3 41 (List.not_mem_nil)).trans hA.1)
        refine F_get hX fg_Ad_18 d_Ad_modeFor_62 41 (by decide) h9 rfl ?_
        refine G_iadd_z hX d_Ad_modeFor_65 ?_
        refine G_icmp_ge_z hX (tgt := 107) d_Ad_modeFor_66 rfl (by omega) (fun c10 => ?_) (fun c11 => ?_)
        · skip
          refine G_iload hX 3 rfl d_Ad_modeFor_107 ?_
          have et : (t - 1).toNat = (N + 1).toNat := by omega
          exact F_iret hX hE d_Ad_modeFor_109 ⟨by unfold mdF; rw [if_neg hno, hu, et], funext fun x => (k6 x List.not_mem_nil).trans (k3 x List.not_mem_nil)⟩
        · skip
          refine G_aload_n hX 0 rfl rfl d_Ad_modeFor_69 ?_
          refine G_iload hX 4 rfl d_Ad_modeFor_70 ?_
          refine G_iload_n hX 1 rfl rfl d_Ad_modeFor_72 ?_
          refine G_iload_n hX 2 rfl rfl d_Ad_modeFor_73 ?_
          have h12 : f5 42 = iz E 8 nr := (k6 42 (List.not_mem_nil)).trans ((k3 42 (List.not_mem_nil)).trans hA.2.1)
          have h13 : f5 43 = iz E 1024 sm := (k6 43 (List.not_mem_nil)).trans ((k3 43 (List.not_mem_nil)).trans hA.2.2)
          refine F_callV hX (st := []) (c_Ad_numberFor E f5 nr sm N S T t ad here ⟨h9, h12, h13⟩ (by omega) (by omega)) cm_Ad_numberFor im_Ad_numberFor se_Ad_numberFor rfl ml_Ad_44 d_Ad_modeFor_74 (by decide) h9 rfl rfl (Nat.le_of_ble_eq_true rfl) (by decide) ?_
          rintro _ f14 ⟨rfl, e17⟩
          obtain rfl := e17.symm
          refine G_cast (st' := [.int (zI (nbF nr t ad here))]) ?_ rfl rfl rfl rfl
          refine G_istore hX (lv' := [(6, .int (zI (nbF nr t ad here))), (0, .ref (eA E 41)), (1, .int (zI ad)), (2, .int (zI here)), (4, .int (zI u)), (5, .int (zI t))]) (by decide) rfl d_Ad_modeFor_77 ?_
          have hn1 : -100000 ≤ nbF nr t ad here ∧ nbF nr t ad here < 100000 := by unfold nbF; have := hnr (t - 2); (repeat (first | omega | split))
          refine G_iload hX 0 rfl d_Ad_modeFor_79 ?_
          refine G_if_lt_z hX (tgt := 101) d_Ad_modeFor_81 rfl (by omega) (fun c18 => ?_) (fun c19 => ?_)
          · skip
            refine G_iinc_z hX (lv' := [(5, .int (zI (t + 1))), (6, .int (zI (nbF nr t ad here))), (0, .ref (eA E 41)), (1, .int (zI ad)), (2, .int (zI here)), (4, .int (zI u))]) 5 rfl (by decide) rfl d_Ad_modeFor_101 ?_
            refine G_goto hX (tgt := 58) d_Ad_modeFor_104 rfl ?_
            refine G_loc (lv' := [(0, .ref (eA E 41)), (1, .int (zI ad)), (2, .int (zI here)), (4, .int (zI u)), (5, .int (zI (t + 1)))]) [2, 3, 4, 5, 0] rfl ?_
            exact ih8 (t + 1) u f5 (by omega) (by omega) (by rw [show t + 1 - 1 = t by omega, hs2]; rw [if_neg (by omega)])  (Fr.tr Fr.rf k6 (by decide))
          · skip
            refine G_iload hX 0 rfl d_Ad_modeFor_84 ?_
            refine G_aload_n hX 1 rfl rfl d_Ad_modeFor_86 ?_
            refine G_iload hX 4 rfl d_Ad_modeFor_87 ?_
            refine G_iload_n hX 2 rfl rfl d_Ad_modeFor_89 ?_
            refine G_iload_n hX 3 rfl rfl d_Ad_modeFor_90 ?_
            refine F_callV hX (st := [.int (zI (nbF nr t ad here))]) (c_Ad_numberFor E f5 nr sm N S T u ad here ⟨h9, h12, h13⟩ (by omega) (by omega)) cm_Ad_numberFor im_Ad_numberFor se_Ad_numberFor rfl ml_Ad_44 d_Ad_modeFor_91 (by decide) h9 rfl rfl (Nat.le_of_ble_eq_true rfl) (by decide) ?_
            rintro _ f20 ⟨rfl, e23⟩
            obtain rfl := e23.symm
            refine G_cast (st' := [.int (zI (nbF nr u ad here)), .int (zI (nbF nr t ad here))]) ?_ rfl rfl rfl rfl
            refine G_icmp_ge_z hX (tgt := 101) d_Ad_modeFor_94 rfl (by omega) (fun c24 => ?_) (fun c25 => ?_)
            · skip
              refine G_iinc_z hX (lv' := [(5, .int (zI (t + 1))), (6, .int (zI (nbF nr t ad here))), (0, .ref (eA E 41)), (1, .int (zI ad)), (2, .int (zI here)), (4, .int (zI u))]) 5 rfl (by decide) rfl d_Ad_modeFor_101 ?_
              refine G_goto hX (tgt := 58) d_Ad_modeFor_104 rfl ?_
              refine G_loc (lv' := [(0, .ref (eA E 41)), (1, .int (zI ad)), (2, .int (zI here)), (4, .int (zI u)), (5, .int (zI (t + 1)))]) [2, 3, 4, 5, 0] rfl ?_
              exact ih8 (t + 1) u f5 (by omega) (by omega) (by rw [show t + 1 - 1 = t by omega, hs2]; rw [if_neg (by omega)])  (Fr.tr Fr.rf k6 (by decide))
            · skip
              refine G_iload hX 5 rfl d_Ad_modeFor_97 ?_
              refine G_istore hX (lv' := [(4, .int (zI t)), (6, .int (zI (nbF nr t ad here))), (0, .ref (eA E 41)), (1, .int (zI ad)), (2, .int (zI here)), (5, .int (zI t))]) (by decide) rfl d_Ad_modeFor_99 ?_
              refine G_iinc_z hX (lv' := [(5, .int (zI (t + 1))), (4, .int (zI t)), (6, .int (zI (nbF nr t ad here))), (0, .ref (eA E 41)), (1, .int (zI ad)), (2, .int (zI here))]) 5 rfl (by decide) rfl d_Ad_modeFor_101 ?_
              refine G_goto hX (tgt := 58) d_Ad_modeFor_104 rfl ?_
              refine G_loc (lv' := [(0, .ref (eA E 41)), (1, .int (zI ad)), (2, .int (zI here)), (4, .int (zI t)), (5, .int (zI (t + 1)))]) [3, 4, 5, 1, 0] rfl ?_
              exact ih8 (t + 1) t f5 (by omega) (by omega) (by rw [show t + 1 - 1 = t by omega, hs2]; rw [if_pos (by omega)])  (Fr.tr Fr.rf k6 (by decide))
    refine G_loc (lv' := [(0, .ref (eA E 41)), (1, .int (zI ad)), (2, .int (zI here)), (4, .int (zI 0)), (5, .int (zI 1))]) [2, 3, 4, 1, 0] rfl ?_
    exact loop4 (_ + 1) 1 0 f2 (Nat.lt_succ_self _) (by omega) rfl  Fr.rf
  refine G_aload_n hX 0 rfl rfl d_Ad_modeFor_0 ?_
  refine F_get hX fg_Ad_22 d_Ad_modeFor_1 41 (by decide) hA.1 rfl ?_
  refine G_if_le_z hX (tgt := 20) d_Ad_modeFor_4 rfl (by omega) (fun c26 => ?_) (fun c27 => ?_)
  · skip
    refine G_iconst hX d_Ad_modeFor_20 ?_
    refine G_istore_n hX (lv' := [(3, .int (zI 0)), (0, .ref (eA E 41)), (1, .int (zI ad)), (2, .int (zI here))]) rfl (by decide) rfl d_Ad_modeFor_21 ?_
    refine G_aload_n hX 1 rfl rfl d_Ad_modeFor_22 ?_
    refine F_get hX fg_Ad_22 d_Ad_modeFor_23 41 (by decide) hA.1 rfl ?_
    refine G_if_le_z hX (tgt := 52) d_Ad_modeFor_26 rfl (by omega) (fun c28 => ?_) (fun c29 => by exfalso; omega)
    refine G_loc (lv' := [(0, .ref (eA E 41)), (1, .int (zI ad)), (2, .int (zI here))]) [1, 2, 3] rfl ?_
    exact join1  f  (by omega)  Fr.rf
  · skip
    refine G_iload_n hX 1 rfl rfl d_Ad_modeFor_7 ?_
    refine G_sipush hX (by decide) d_Ad_modeFor_8 ?_
    refine G_aload_n hX 0 rfl rfl d_Ad_modeFor_11 ?_
    refine F_get hX fg_Ad_22 d_Ad_modeFor_12 41 (by decide) hA.1 rfl ?_
    refine G_imul_z hX d_Ad_modeFor_15 ?_
    refine G_irem_z hX (by omega) d_Ad_modeFor_16 ?_
    refine G_goto hX (tgt := 21) d_Ad_modeFor_17 rfl ?_
    refine G_istore_n hX (lv' := [(3, .int (zI (ad % (256 * S)))), (0, .ref (eA E 41)), (1, .int (zI ad)), (2, .int (zI here))]) rfl (by decide) rfl d_Ad_modeFor_21 ?_
    refine G_aload_n hX 1 rfl rfl d_Ad_modeFor_22 ?_
    refine F_get hX fg_Ad_22 d_Ad_modeFor_23 41 (by decide) hA.1 rfl ?_
    refine G_if_le_z hX (tgt := 52) d_Ad_modeFor_26 rfl (by omega) (fun c30 => by exfalso; omega) (fun c31 => ?_)
    have hmb := emod_b ad (show 0 < 256 * S by omega)
    have hs1 := hsm (ad % (256 * S))
    refine G_aload_n hX 1 rfl rfl d_Ad_modeFor_29 ?_
    refine F_get hX fg_Ad_15 d_Ad_modeFor_30 41 (by decide) hA.1 rfl ?_
    refine G_iload_n hX 0 rfl rfl d_Ad_modeFor_33 ?_
    refine F_iald hX d_Ad_modeFor_34 43 (by decide) hA.2.2 (by omega) ?_
    refine G_iload_n hX 2 rfl rfl d_Ad_modeFor_35 ?_
    refine G_icmp_ne_z hX (tgt := 52) d_Ad_modeFor_36 rfl (by omega) (fun c32 => ?_) (fun c33 => ?_)
    · skip
      refine G_loc (lv' := [(0, .ref (eA E 41)), (1, .int (zI ad)), (2, .int (zI here))]) [1, 2, 3] rfl ?_
      exact join1  f  (by omega)  Fr.rf
    · skip
      refine G_iconst hX d_Ad_modeFor_39 ?_
      refine G_aload_n hX 1 rfl rfl d_Ad_modeFor_40 ?_
      refine F_get hX fg_Ad_18 d_Ad_modeFor_41 41 (by decide) hA.1 rfl ?_
      refine G_iadd_z hX d_Ad_modeFor_44 ?_
      refine G_iload_n hX 0 rfl rfl d_Ad_modeFor_45 ?_
      refine G_sipush hX (by decide) d_Ad_modeFor_46 ?_
      refine G_idiv_z hX (by omega) d_Ad_modeFor_49 ?_
      refine G_iadd_z hX d_Ad_modeFor_50 ?_
      exact F_iret hX hE d_Ad_modeFor_51 ⟨by unfold mdF; rw [if_pos (by omega)], rfl⟩
