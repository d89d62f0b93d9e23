/-! DeltaFerry$WeakSum, DeltaFerry.checkOf: printed by wip/tools/m_ws.py -/
def sP (g : Int → Int) (a : Int) : Nat → Int
  | 0 => 0
  | k + 1 => sP g a k + g (a + k)
def sW (g : Int → Int) (a n : Int) : Nat → Int
  | 0 => 0
  | k + 1 => sW g a n k + (n - k) * g (a + k)
theorem sP_s {g : Int → Int} {a t : Int} (h : 0 ≤ t) : sP g a (t + 1).toNat = sP g a t.toNat + g (a + t) := by
  rw [show (t + 1).toNat = t.toNat + 1 by omega]
  show sP g a t.toNat + g (a + (t.toNat : Int)) = _
  rw [Int.toNat_of_nonneg h]
theorem sW_s {g : Int → Int} {a n t : Int} (h : 0 ≤ t) : sW g a n (t + 1).toNat = sW g a n t.toNat + (n - t) * g (a + t) := by
  rw [show (t + 1).toNat = t.toNat + 1 by omega]
  show sW g a n t.toNat + (n - (t.toNat : Int)) * g (a + (t.toNat : Int)) = _
  rw [Int.toNat_of_nonneg h]
theorem sP_roll (g : Int → Int) (a : Int) (k : Nat) : sP g (a + 1) k = sP g a k + g (a + k) - g a := by
  induction k with
  | zero => simp [sP]
  | succ k ih =>
    show sP g (a + 1) k + g (a + 1 + k) = sP g a k + g (a + k) + g (a + ((k + 1 : Nat) : Int)) - g a
    rw [ih, show a + 1 + (k : Int) = a + ((k + 1 : Nat) : Int) by omega]
    omega
theorem sW_roll (g : Int → Int) (a n : Int) (k : Nat) : sW g (a + 1) n k = sW g a n (k + 1) - n * g a + sP g (a + 1) k := by
  induction k with
  | zero => simp [sP, sW]
  | succ k ih =>
    show sW g (a + 1) n k + (n - k) * g (a + 1 + k) = sW g a n (k + 1) + (n - ((k + 1 : Nat) : Int)) * g (a + ((k + 1 : Nat) : Int)) - n * g a + (sP g (a + 1) k + g (a + 1 + k))
    rw [ih, show a + 1 + (k : Int) = a + ((k + 1 : Nat) : Int) by omega]
    have : ((k + 1 : Nat) : Int) = (k : Int) + 1 := by omega
    rw [this]
    grind
theorem sW_roll' {g : Int → Int} {a n : Int} (h : 0 ≤ n) : sW g (a + 1) n n.toNat = sW g a n n.toNat + sP g (a + 1) n.toNat - n * g a := by
  rw [sW_roll]
  show sW g a n n.toNat + (n - (n.toNat : Int)) * _ - _ + _ = _
  rw [Int.toNat_of_nonneg h]
  simp
  omega
/-- the weak sum told as one number -/
def wkV (g : Int → Int) (a n : Int) : Int := 65536 * (sW g a n n.toNat % 65536) + sP g a n.toNat % 65536
/-- the check of Adler: both sums -/
def adS (g : Int → Int) (a : Int) : Nat → Int × Int
  | 0 => (1, 0)
  | k + 1 => (((adS g a k).1 + g (a + k)) % 65521, ((adS g a k).2 + ((adS g a k).1 + g (a + k)) % 65521) % 65521)
theorem adS_s {g : Int → Int} {a t : Int} (h : 0 ≤ t) : adS g a (t + 1).toNat = (((adS g a t.toNat).1 + g (a + t)) % 65521, ((adS g a t.toNat).2 + ((adS g a t.toNat).1 + g (a + t)) % 65521) % 65521) := by
  rw [show (t + 1).toNat = t.toNat + 1 by omega]
  show (_, _) = _
  rw [Int.toNat_of_nonneg h]
theorem adS_b (g : Int → Int) (a : Int) (k : Nat) : (0 ≤ (adS g a k).1 ∧ (adS g a k).1 < 65521) ∧ 0 ≤ (adS g a k).2 ∧ (adS g a k).2 < 65521 := by
  cases k with
  | zero => simp [adS]
  | succ k => simp only [adS]; omega
def adV (g : Int → Int) (a n : Int) : Int := 65536 * (adS g a n.toNat).2 + (adS g a n.toNat).1
theorem c_Ws_forget (E : EV) (f : Nat → va_E) (i : Nat) (x0 x1 x2 x3 : Int32) (hi : i < NC) (h0 : f i = ob 8 [.int x0, .int x1, .int x2, .int x3]) : CF yn_Ws_forget cd_Ws_forget 1 none 0 E [.ref (eA E i)] f (fun r f' => r = none ∧ f' i = ob 8 [.int x0, .int (zI 0), .int x2, .int x3] ∧ Fr [i] f f') := by
  refine CF.of (by decide +kernel) (Nat.le_of_ble_eq_true rfl) fun X hX hE => ?_
  have hX : Ok E X "DeltaFerry$WeakSum" "forget" cd_Ws_forget 1 none (rl 0) := hX
  refine G_cast (lv' := [(0, .ref (eA E i))]) ?_ rfl rfl rfl rfl
  refine G_aload_n hX 0 rfl rfl d_Ws_forget_0 ?_
  refine G_iconst hX d_Ws_forget_1 ?_
  refine F_put hX fg_Ws_7 fp_Ws_1 d_Ws_forget_2 i (fs' := [.int x0, .int (zI 0), .int x2, .int x3]) hi h0 rfl rfl (Nat.le_of_ble_eq_true rfl) rfl (fun f1 h2 k3 => ?_)
  exact F_vret hX hE d_Ws_forget_5 ⟨rfl, h2, (Fr.tr Fr.rf k3 (by simp))⟩
theorem c_Ws_take (E : EV) (f : Nat → va_E) (i j n : Nat) (g : Int → Int) (x0 x1 x2 x3 : Int32) (a m : Int) (hi : i < NC) (hj : j < NC) (hij : i ≠ j) (h0 : f i = ob 8 [.int x0, .int x1, .int x2, .int x3]) (hg : f j = iz E n g) (hb : 0 ≤ a ∧ 0 ≤ m ∧ a + m ≤ n ∧ n ≤ 2000) : CF yn_Ws_take cd_Ws_take 5 none 0 E [.ref (eA E i), .ref (eA E j), .int (zI a), .int (zI m)] f (fun r f' => r = none ∧ f' i = ob 8 [.int (zI a), .int (zI m), .int (zI (sP g a m.toNat)), .int (zI (sW g a m m.toNat))] ∧ Fr [i] f f') := by
  refine CF.of (by decide +kernel) (Nat.le_of_ble_eq_true rfl) fun X hX hE => ?_
  have hX : Ok E X "DeltaFerry$WeakSum" "take" cd_Ws_take 5 none (rl 0) := hX
  refine G_cast (lv' := [(0, .ref (eA E i)), (1, .ref (eA E j)), (2, .int (zI a)), (3, .int (zI m))]) ?_ rfl rfl rfl rfl
  refine G_aload_n hX 0 rfl rfl d_Ws_take_0 ?_
  refine G_iload_n hX 2 rfl rfl d_Ws_take_1 ?_
  refine F_put hX fg_Ws_13 fp_Ws_0 d_Ws_take_2 i (fs' := [.int (zI a), .int x1, .int x2, .int x3]) hi h0 rfl rfl (Nat.le_of_ble_eq_true rfl) rfl (fun f1 h2 k3 => ?_)
  refine G_aload_n hX 0 rfl rfl d_Ws_take_5 ?_
  refine G_iload_n hX 3 rfl rfl d_Ws_take_6 ?_
  refine F_put hX fg_Ws_7 fp_Ws_1 d_Ws_take_7 i (fs' := [.int (zI a), .int (zI m), .int x2, .int x3]) hi h2 rfl rfl (Nat.le_of_ble_eq_true rfl) rfl (fun f4 h5 k6 => ?_)
  refine G_aload_n hX 0 rfl rfl d_Ws_take_10 ?_
  refine G_iconst hX d_Ws_take_11 ?_
  refine F_put hX fg_Ws_16 fp_Ws_2 d_Ws_take_12 i (fs' := [.int (zI a), .int (zI m), .int (zI 0), .int x3]) hi h5 rfl rfl (Nat.le_of_ble_eq_true rfl) rfl (fun f7 h8 k9 => ?_)
  refine G_aload_n hX 0 rfl rfl d_Ws_take_15 ?_
  refine G_iconst hX d_Ws_take_16 ?_
  refine F_put hX fg_Ws_19 fp_Ws_3 d_Ws_take_17 i (fs' := [.int (zI a), .int (zI m), .int (zI 0), .int (zI 0)]) hi h8 rfl rfl (Nat.le_of_ble_eq_true rfl) rfl (fun f10 h11 k12 => ?_)
  refine G_iconst hX d_Ws_take_20 ?_
  refine G_istore hX (lv' := [(4, .int (zI 0)), (0, .ref (eA E i)), (1, .ref (eA E j)), (2, .int (zI a)), (3, .int (zI m))]) (by decide) rfl d_Ws_take_21 ?_
  have loop13 : ∀ (q : Nat) (t : Int) (f14 : Nat → va_E), (m - t).toNat < q → (0 ≤ t ∧ t ≤ m) → f14 i = ob 8 [.int (zI a), .int (zI m), .int (zI (sP g a t.toNat)), .int (zI (sW g a m t.toNat))] → Fr [i] f10 f14 → G E X 0 0 23 [(0, .ref (eA E i)), (1, .ref (eA E j)), (2, .int (zI a)), (3, .int (zI m)), (4, .int (zI t))] [] (wl E f14) := by
    intro q
    induction q with
    | zero => intro t f14 hms16; exact absurd hms16 (Nat.not_lt_zero _)
    | succ q ih17 =>
      intro t f14 hms16 ht h18 k15
      refine G_iload hX 4 rfl d_Ws_take_23 ?_
      refine G_iload_n hX 3 rfl rfl d_Ws_take_25 ?_
      refine G_icmp_ge_z hX (tgt := 70) d_Ws_take_26 rfl (by omega) (fun c19 => ?_) (fun c20 => ?_)
      · skip
        have et : t = m := by omega
        subst et
        exact F_vret hX hE d_Ws_take_70 ⟨rfl, h18, (Fr.tr (Fr.tr (Fr.tr (Fr.tr (Fr.tr Fr.rf k3 (by simp)) k6 (by simp)) k9 (by simp)) k12 (by simp)) k15 (by simp))⟩
      · skip
        refine G_aload_n hX 0 rfl rfl d_Ws_take_29 ?_
        refine G_dup hX rfl d_Ws_take_30 ?_
        refine F_get hX fg_Ws_16 d_Ws_take_31 i hi h18 rfl ?_
        refine G_aload_n hX 1 rfl rfl d_Ws_take_34 ?_
        refine G_iload_n hX 2 rfl rfl d_Ws_take_35 ?_
        refine G_iload hX 4 rfl d_Ws_take_36 ?_
        refine G_iadd_z hX d_Ws_take_38 ?_
        have h21 : f14 j = iz E n g := (k15 j (by simp only [List.mem_cons, List.not_mem_nil, or_false]; omega)).trans ((k12 j (by simp only [List.mem_cons, List.not_mem_nil, or_false]; omega)).trans ((k9 j (by simp only [List.mem_cons, List.not_mem_nil, or_false]; omega)).trans ((k6 j (by simp only [List.mem_cons, List.not_mem_nil, or_false]; omega)).trans ((k3 j (by simp only [List.mem_cons, List.not_mem_nil, or_false]; omega)).trans hg))))
        refine F_iald hX d_Ws_take_39 j hj h21 (by omega) ?_
        refine G_iadd_z hX d_Ws_take_40 ?_
        refine F_put hX fg_Ws_16 fp_Ws_2 d_Ws_take_41 i (fs' := [.int (zI a), .int (zI m), .int (zI ((sP g a t.toNat) + (g (a + t)))), .int (zI (sW g a m t.toNat))]) hi h18 rfl rfl (Nat.le_of_ble_eq_true rfl) rfl (fun f22 h23 k24 => ?_)
        refine G_aload_n hX 0 rfl rfl d_Ws_take_44 ?_
        refine G_dup hX rfl d_Ws_take_45 ?_
        refine F_get hX fg_Ws_19 d_Ws_take_46 i hi h23 rfl ?_
        refine G_iload_n hX 3 rfl rfl d_Ws_take_49 ?_
        refine G_iload hX 4 rfl d_Ws_take_50 ?_
        refine G_isub_z hX d_Ws_take_52 ?_
        refine G_aload_n hX 1 rfl rfl d_Ws_take_53 ?_
        refine G_iload_n hX 2 rfl rfl d_Ws_take_54 ?_
        refine G_iload hX 4 rfl d_Ws_take_55 ?_
        refine G_iadd_z hX d_Ws_take_57 ?_
        have h25 : f22 j = iz E n g := (k24 j (by simp only [List.mem_cons, List.not_mem_nil, or_false]; omega)).trans h21
        refine F_iald hX d_Ws_take_58 j hj h25 (by omega) ?_
        refine G_imul_z hX d_Ws_take_59 ?_
        refine G_iadd_z hX d_Ws_take_60 ?_
        refine F_put hX fg_Ws_19 fp_Ws_3 d_Ws_take_61 i (fs' := [.int (zI a), .int (zI m), .int (zI ((sP g a t.toNat) + (g (a + t)))), .int (zI ((sW g a m t.toNat) + ((m - t) * (g (a + t)))))]) hi h23 rfl rfl (Nat.le_of_ble_eq_true rfl) rfl (fun f26 h27 k28 => ?_)
        refine G_iinc_z hX (lv' := [(4, .int (zI (t + 1))), (0, .ref (eA E i)), (1, .ref (eA E j)), (2, .int (zI a)), (3, .int (zI m))]) 4 rfl (by decide) rfl d_Ws_take_64 ?_
        refine G_goto hX (tgt := 23) d_Ws_take_67 rfl ?_
        refine G_loc (lv' := [(0, .ref (eA E i)), (1, .ref (eA E j)), (2, .int (zI a)), (3, .int (zI m)), (4, .int (zI (t + 1)))]) [1, 2, 3, 4, 0] rfl ?_
        exact ih17 (t + 1) f26 (by omega) (by omega) (by rw [sP_s ht.1, sW_s ht.1]; exact h27) (Fr.tr (Fr.tr (Fr.tr Fr.rf k15 (by simp)) k24 (by simp)) k28 (by simp))
  refine G_loc (lv' := [(0, .ref (eA E i)), (1, .ref (eA E j)), (2, .int (zI a)), (3, .int (zI m)), (4, .int (zI 0))]) [1, 2, 3, 4, 0] rfl ?_
  exact loop13 (_ + 1) 0 f10 (Nat.lt_succ_self _) (by omega) h11 Fr.rf
theorem c_Ws_moveTo (E : EV) (f : Nat → va_E) (i j n : Nat) (g : Int → Int) (a0 n0 pl wt : Int) (a m : Int) (hi : i < NC) (hj : j < NC) (hij : i ≠ j) (h0 : f i = ob 8 [.int (zI a0), .int (zI n0), .int (zI pl), .int (zI wt)]) (hg : f j = iz E n g) (hb : 0 ≤ a ∧ 1 ≤ m ∧ a + m ≤ n ∧ n ≤ 2000) (hr : n0 = 0 ∨ (-10 ≤ a0 ∧ a0 ≤ 2000 ∧ 0 ≤ n0 ∧ n0 ≤ 2000)) (hv : n0 = 0 ∨ (0 ≤ a0 ∧ pl = sP g a0 n0.toNat ∧ wt = sW g a0 n0 n0.toNat)) : CF yn_Ws_moveTo cd_Ws_moveTo 4 none 1 E [.ref (eA E i), .ref (eA E j), .int (zI a), .int (zI m)] f (fun r f' => r = none ∧ f' i = ob 8 [.int (zI a), .int (zI m), .int (zI (sP g a m.toNat)), .int (zI (sW g a m m.toNat))] ∧ Fr [i] f f') := by
  refine CF.of (by decide +kernel) (Nat.le_of_ble_eq_true rfl) fun X hX hE => ?_
  have hX : Ok E X "DeltaFerry$WeakSum" "moveTo" cd_Ws_moveTo 4 none (rl 1) := hX
  refine G_cast (lv' := [(0, .ref (eA E i)), (1, .ref (eA E j)), (2, .int (zI a)), (3, .int (zI m))]) ?_ rfl rfl rfl rfl
  refine G_iload_n hX 3 rfl rfl d_Ws_moveTo_0 ?_
  refine G_aload_n hX 0 rfl rfl d_Ws_moveTo_1 ?_
  refine F_get hX fg_Ws_7 d_Ws_moveTo_2 i hi h0 rfl ?_
  refine G_icmp_ne_z hX (tgt := 18) d_Ws_moveTo_5 rfl (by omega) (fun c1 => ?_) (fun c2 => ?_)
  · skip
    refine G_aload_n hX 0 rfl rfl d_Ws_moveTo_18 ?_
    refine G_aload_n hX 1 rfl rfl d_Ws_moveTo_19 ?_
    refine G_iload_n hX 2 rfl rfl d_Ws_moveTo_20 ?_
    refine G_iload_n hX 3 rfl rfl d_Ws_moveTo_21 ?_
    refine F_callV hX (st := []) (c_Ws_take E f i j n g (zI a0) (zI n0) (zI pl) (zI wt) a m hi hj (by omega) h0 hg (by omega)) cm_Ws_take im_Ws_take se_Ws_take rfl ml_Ws_22 d_Ws_moveTo_22 hi h0 rfl rfl (Nat.le_of_ble_eq_true rfl) (by decide) ?_
    rintro _ f3 ⟨rfl, h6, k7⟩
    refine G_cast (st' := []) ?_ rfl rfl rfl rfl
    exact F_vret hX hE d_Ws_moveTo_25 ⟨rfl, h6, (Fr.tr Fr.rf k7 (by simp))⟩
  · skip
    refine G_iload_n hX 2 rfl rfl d_Ws_moveTo_8 ?_
    refine G_aload_n hX 0 rfl rfl d_Ws_moveTo_9 ?_
    refine F_get hX fg_Ws_13 d_Ws_moveTo_10 i hi h0 rfl ?_
    refine G_iconst hX d_Ws_moveTo_13 ?_
    refine G_iadd_z hX d_Ws_moveTo_14 ?_
    refine G_icmp_eq_z hX (tgt := 26) d_Ws_moveTo_15 rfl (by omega) (fun c8 => ?_) (fun c9 => ?_)
    · skip
      refine G_aload_n hX 0 rfl rfl d_Ws_moveTo_26 ?_
      refine G_dup hX rfl d_Ws_moveTo_27 ?_
      refine F_get hX fg_Ws_16 d_Ws_moveTo_28 i hi h0 rfl ?_
      refine G_aload_n hX 1 rfl rfl d_Ws_moveTo_31 ?_
      refine G_aload_n hX 0 rfl rfl d_Ws_moveTo_32 ?_
      refine F_get hX fg_Ws_13 d_Ws_moveTo_33 i hi h0 rfl ?_
      refine G_aload_n hX 0 rfl rfl d_Ws_moveTo_36 ?_
      refine F_get hX fg_Ws_7 d_Ws_moveTo_37 i hi h0 rfl ?_
      refine G_iadd_z hX d_Ws_moveTo_40 ?_
      refine F_iald hX d_Ws_moveTo_41 j hj hg (by omega) ?_
      refine G_aload_n hX 1 rfl rfl d_Ws_moveTo_42 ?_
      refine G_aload_n hX 0 rfl rfl d_Ws_moveTo_43 ?_
      refine F_get hX fg_Ws_13 d_Ws_moveTo_44 i hi h0 rfl ?_
      refine F_iald hX d_Ws_moveTo_47 j hj hg (by omega) ?_
      refine G_isub_z hX d_Ws_moveTo_48 ?_
      refine G_iadd_z hX d_Ws_moveTo_49 ?_
      refine F_put hX fg_Ws_16 fp_Ws_2 d_Ws_moveTo_50 i (fs' := [.int (zI a0), .int (zI n0), .int (zI (pl + ((g (a0 + n0)) - (g a0)))), .int (zI wt)]) hi h0 rfl rfl (Nat.le_of_ble_eq_true rfl) rfl (fun f10 h11 k12 => ?_)
      refine G_aload_n hX 0 rfl rfl d_Ws_moveTo_53 ?_
      refine G_dup hX rfl d_Ws_moveTo_54 ?_
      refine F_get hX fg_Ws_19 d_Ws_moveTo_55 i hi h11 rfl ?_
      refine G_aload_n hX 0 rfl rfl d_Ws_moveTo_58 ?_
      refine F_get hX fg_Ws_16 d_Ws_moveTo_59 i hi h11 rfl ?_
      refine G_aload_n hX 0 rfl rfl d_Ws_moveTo_62 ?_
      refine F_get hX fg_Ws_7 d_Ws_moveTo_63 i hi h11 rfl ?_
      refine G_aload_n hX 1 rfl rfl d_Ws_moveTo_66 ?_
      refine G_aload_n hX 0 rfl rfl d_Ws_moveTo_67 ?_
      refine F_get hX fg_Ws_13 d_Ws_moveTo_68 i hi h11 rfl ?_
      have h13 : f10 j = iz E n g := (k12 j (by simp only [List.mem_cons, List.not_mem_nil, or_false]; omega)).trans hg
      refine F_iald hX d_Ws_moveTo_71 j hj h13 (by omega) ?_
      refine G_imul_z hX d_Ws_moveTo_72 ?_
      refine G_isub_z hX d_Ws_moveTo_73 ?_
      refine G_iadd_z hX d_Ws_moveTo_74 ?_
      refine F_put hX fg_Ws_19 fp_Ws_3 d_Ws_moveTo_75 i (fs' := [.int (zI a0), .int (zI n0), .int (zI (pl + ((g (a0 + n0)) - (g a0)))), .int (zI (wt + ((pl + ((g (a0 + n0)) - (g a0))) - (n0 * (g a0)))))]) hi h11 rfl rfl (Nat.le_of_ble_eq_true rfl) rfl (fun f14 h15 k16 => ?_)
      refine G_aload_n hX 0 rfl rfl d_Ws_moveTo_78 ?_
      refine G_iload_n hX 2 rfl rfl d_Ws_moveTo_79 ?_
      refine F_put hX fg_Ws_13 fp_Ws_0 d_Ws_moveTo_80 i (fs' := [.int (zI a), .int (zI n0), .int (zI (pl + ((g (a0 + n0)) - (g a0)))), .int (zI (wt + ((pl + ((g (a0 + n0)) - (g a0))) - (n0 * (g a0)))))]) hi h15 rfl rfl (Nat.le_of_ble_eq_true rfl) rfl (fun f17 h18 k19 => ?_)
      refine F_vret hX hE d_Ws_moveTo_83 ⟨rfl, ?_, (Fr.tr (Fr.tr (Fr.tr Fr.rf k12 (by simp)) k16 (by simp)) k19 (by simp))⟩
      have em : m = n0 := by omega
      have ea : a = a0 + 1 := by omega
      obtain ⟨q1, q2, q3⟩ : 0 ≤ a0 ∧ pl = sP g a0 n0.toNat ∧ wt = sW g a0 n0 n0.toNat := by omega
      subst em; subst ea
      have e1 := sP_roll g a0 m.toNat
      have e2 := sW_roll' (g := g) (a := a0) (n := m) (by omega)
      rw [show ((m.toNat : Nat) : Int) = m by omega] at e1
      rw [h18, e2, e1, q2, q3]
      congr 5
      all_goals (try (congr 1; grind))
    · skip
      refine G_aload_n hX 0 rfl rfl d_Ws_moveTo_18 ?_
      refine G_aload_n hX 1 rfl rfl d_Ws_moveTo_19 ?_
      refine G_iload_n hX 2 rfl rfl d_Ws_moveTo_20 ?_
      refine G_iload_n hX 3 rfl rfl d_Ws_moveTo_21 ?_
      refine F_callV hX (st := []) (c_Ws_take E f i j n g (zI a0) (zI n0) (zI pl) (zI wt) a m hi hj (by omega) h0 hg (by omega)) cm_Ws_take im_Ws_take se_Ws_take rfl ml_Ws_22 d_Ws_moveTo_22 hi h0 rfl rfl (Nat.le_of_ble_eq_true rfl) (by decide) ?_
      rintro _ f20 ⟨rfl, h23, k24⟩
      refine G_cast (st' := []) ?_ rfl rfl rfl rfl
      exact F_vret hX hE d_Ws_moveTo_25 ⟨rfl, h23, (Fr.tr Fr.rf k24 (by simp))⟩
theorem c_Ws_value (E : EV) (f : Nat → va_E) (i : Nat) (a m pl wt : Int) (hi : i < NC) (h0 : f i = ob 8 [.int (zI a), .int (zI m), .int (zI pl), .int (zI wt)]) : CF yn_Ws_value cd_Ws_value 1 (some (.long)) 0 E [.ref (eA E i)] f (fun r f' => r = some (.long (zL (65536 * (wt % 65536) + pl % 65536))) ∧ f' = f) := by
  refine CF.of (by decide +kernel) (Nat.le_of_ble_eq_true rfl) fun X hX hE => ?_
  have hX : Ok E X "DeltaFerry$WeakSum" "value" cd_Ws_value 1 (some (.long)) (rl 0) := hX
  refine G_cast (lv' := [(0, .ref (eA E i))]) ?_ rfl rfl rfl rfl
  refine G_ldc2 hX kn_Ws_26 d_Ws_value_0 ?_
  refine G_topl (show (65536 : Int64) = zL (65536) from by decide) ?_
  refine G_aload_n hX 0 rfl rfl d_Ws_value_3 ?_
  refine F_get hX fg_Ws_19 d_Ws_value_4 i hi h0 rfl ?_
  refine G_ldc hX kn_Ws_28 d_Ws_value_7 ?_
  refine G_top (show (65535 : Int32) = zI (65535) from by decide) ?_
  refine G_iand hX d_Ws_value_9 ?_
  refine G_top (show (zI wt &&& zI 65535) = zI (wt % 65536) from zI_and65535 _) ?_
  refine G_i2l hX (v := zL (wt % 65536)) (zI_l (by omega)) d_Ws_value_10 ?_
  refine G_lmul_z hX d_Ws_value_11 ?_
  refine G_aload_n hX 0 rfl rfl d_Ws_value_12 ?_
  refine F_get hX fg_Ws_16 d_Ws_value_13 i hi h0 rfl ?_
  refine G_ldc hX kn_Ws_28 d_Ws_value_16 ?_
  refine G_top (show (65535 : Int32) = zI (65535) from by decide) ?_
  refine G_iand hX d_Ws_value_18 ?_
  refine G_top (show (zI pl &&& zI 65535) = zI (pl % 65536) from zI_and65535 _) ?_
  refine G_i2l hX (v := zL (pl % 65536)) (zI_l (by omega)) d_Ws_value_19 ?_
  refine G_ladd_z hX d_Ws_value_20 ?_
  exact F_lret hX hE d_Ws_value_21 ⟨rfl, rfl⟩
theorem c_Df_checkOf (E : EV) (f : Nat → va_E) (j n : Nat) (g : Int → Int) (a m : Int) (hj : j < NC) (hg : f j = iz E n g) (hB : isB g) (hb : 0 ≤ a ∧ 0 ≤ m ∧ a + m ≤ n ∧ n ≤ 2000) : CF yn_Df_checkOf cd_Df_checkOf 6 (some (.long)) 0 E [.ref (eA E j), .int (zI a), .int (zI m)] f (fun r f' => r = some (.long (zL (adV g a m))) ∧ f' = f) := by
  refine CF.of (by decide +kernel) (Nat.le_of_ble_eq_true rfl) fun X hX hE => ?_
  have hX : Ok E X "DeltaFerry" "checkOf" cd_Df_checkOf 6 (some (.long)) (rl 0) := hX
  refine G_cast (lv' := [(0, .ref (eA E j)), (1, .int (zI a)), (2, .int (zI m))]) ?_ rfl rfl rfl rfl
  refine G_iconst hX d_Df_checkOf_0 ?_
  refine G_istore_n hX (lv' := [(3, .int (zI 1)), (0, .ref (eA E j)), (1, .int (zI a)), (2, .int (zI m))]) rfl (by decide) rfl d_Df_checkOf_1 ?_
  refine G_iconst hX d_Df_checkOf_2 ?_
  refine G_istore hX (lv' := [(4, .int (zI 0)), (3, .int (zI 1)), (0, .ref (eA E j)), (1, .int (zI a)), (2, .int (zI m))]) (by decide) rfl d_Df_checkOf_3 ?_
  refine G_iload_n hX 3 rfl rfl d_Df_checkOf_5 ?_
  refine G_istore hX (lv' := [(5, .int (zI a)), (4, .int (zI 0)), (3, .int (zI 1)), (0, .ref (eA E j)), (1, .int (zI a)), (2, .int (zI m))]) (by decide) rfl d_Df_checkOf_6 ?_
  have loop1 : ∀ (q : Nat) (t : Int) (f2 : Nat → va_E), (m - t).toNat < q → (0 ≤ t ∧ t ≤ m) → Fr [] f f2 → G E X 0 0 8 [(0, .ref (eA E j)), (1, .int (zI a)), (2, .int (zI m)), (3, .int (zI ((adS g a t.toNat).1))), (4, .int (zI ((adS g a t.toNat).2))), (5, .int (zI (a + t)))] [] (wl E f2) := by
    intro q
    induction q with
    | zero => intro t f2 hms4; exact absurd hms4 (Nat.not_lt_zero _)
    | succ q ih5 =>
      intro t f2 hms4 ht k3
      have hs := adS_b g a t.toNat
      have hbb := hB (a + t)
      refine G_iload hX 5 rfl d_Df_checkOf_8 ?_
      refine G_iload_n hX 1 rfl rfl d_Df_checkOf_10 ?_
      refine G_iload_n hX 2 rfl rfl d_Df_checkOf_11 ?_
      refine G_iadd_z hX d_Df_checkOf_12 ?_
      refine G_icmp_ge_z hX (tgt := 41) d_Df_checkOf_13 rfl (by omega) (fun c6 => ?_) (fun c7 => ?_)
      · skip
        refine G_ldc2 hX kn_Df_247 d_Df_checkOf_41 ?_
        refine G_topl (show (65536 : Int64) = zL (65536) from by decide) ?_
        refine G_iload hX 4 rfl d_Df_checkOf_44 ?_
        refine G_i2l hX (v := zL ((adS g a t.toNat).2)) (zI_l (by omega)) d_Df_checkOf_46 ?_
        refine G_lmul_z hX d_Df_checkOf_47 ?_
        refine G_iload_n hX 3 rfl rfl d_Df_checkOf_48 ?_
        refine G_i2l hX (v := zL ((adS g a t.toNat).1)) (zI_l (by omega)) d_Df_checkOf_49 ?_
        refine G_ladd_z hX d_Df_checkOf_50 ?_
        have et : t = m := by omega
        subst et
        have ef : f2 = f := funext fun x => k3 x List.not_mem_nil
        exact F_lret hX hE d_Df_checkOf_51 ⟨rfl, ef⟩
      · skip
        refine G_iload_n hX 3 rfl rfl d_Df_checkOf_16 ?_
        refine G_aload_n hX 0 rfl rfl d_Df_checkOf_17 ?_
        refine G_iload hX 5 rfl d_Df_checkOf_18 ?_
        have h8 : f2 j = iz E n g := (k3 j (List.not_mem_nil)).trans hg
        refine F_iald hX d_Df_checkOf_20 j hj h8 (by omega) ?_
        refine G_iadd_z hX d_Df_checkOf_21 ?_
        refine G_ldc hX kn_Df_246 d_Df_checkOf_22 ?_
        refine G_top (show (65521 : Int32) = zI (65521) from by decide) ?_
        refine G_irem_z hX (by omega) d_Df_checkOf_24 ?_
        refine G_istore_n hX (lv' := [(3, .int (zI ((((adS g a t.toNat).1) + (g (a + t))) % 65521))), (0, .ref (eA E j)), (1, .int (zI a)), (2, .int (zI m)), (4, .int (zI ((adS g a t.toNat).2))), (5, .int (zI (a + t)))]) rfl (by decide) rfl d_Df_checkOf_25 ?_
        refine G_iload hX 4 rfl d_Df_checkOf_26 ?_
        refine G_iload_n hX 0 rfl rfl d_Df_checkOf_28 ?_
        refine G_iadd_z hX d_Df_checkOf_29 ?_
        refine G_ldc hX kn_Df_246 d_Df_checkOf_30 ?_
        refine G_top (show (65521 : Int32) = zI (65521) from by decide) ?_
        refine G_irem_z hX (by omega) d_Df_checkOf_32 ?_
        refine G_istore hX (lv' := [(4, .int (zI ((((adS g a t.toNat).2) + ((((adS g a t.toNat).1) + (g (a + t))) % 65521)) % 65521))), (3, .int (zI ((((adS g a t.toNat).1) + (g (a + t))) % 65521))), (0, .ref (eA E j)), (1, .int (zI a)), (2, .int (zI m)), (5, .int (zI (a + t)))]) (by decide) rfl d_Df_checkOf_33 ?_
        refine G_iinc_z hX (lv' := [(5, .int (zI ((a + t) + 1))), (4, .int (zI ((((adS g a t.toNat).2) + ((((adS g a t.toNat).1) + (g (a + t))) % 65521)) % 65521))), (3, .int (zI ((((adS g a t.toNat).1) + (g (a + t))) % 65521))), (0, .ref (eA E j)), (1, .int (zI a)), (2, .int (zI m))]) 5 rfl (by decide) rfl d_Df_checkOf_35 ?_
        refine G_goto hX (tgt := 8) d_Df_checkOf_38 rfl ?_
        refine G_loc (lv' := [(0, .ref (eA E j)), (1, .int (zI a)), (2, .int (zI m)), (3, .int (zI ((((adS g a t.toNat).1) + (g (a + t))) % 65521))), (4, .int (zI ((((adS g a t.toNat).2) + ((((adS g a t.toNat).1) + (g (a + t))) % 65521)) % 65521))), (5, .int (zI ((a + t) + 1)))]) [3, 4, 5, 2, 1, 0] rfl ?_
        refine G_cast (ih5 (t + 1) f2 (by omega) (by omega)  (Fr.tr Fr.rf k3 (by decide))) rfl (by rw [adS_s (g := g) (a := a) ht.1, show a + (t + 1) = a + t + 1 by omega]) rfl rfl
  refine G_loc (lv' := [(0, .ref (eA E j)), (1, .int (zI a)), (2, .int (zI m)), (3, .int (zI 1)), (4, .int (zI 0)), (5, .int (zI a))]) [3, 4, 5, 2, 1, 0] rfl ?_
  refine G_cast (loop1 (_ + 1) 0 f (Nat.lt_succ_self _) (by omega)  Fr.rf) rfl (by rw [Int.add_zero]; rfl) rfl rfl
