/-! DeltaFerry$Plan: printed by wip/tools/m_pl.py -/
/-- a plan: types, sizes, addresses, numbers, how many -/
abbrev PS : Type := (Int → Int) × (Int → Int) × (Int → Int) × (Int → Int) × Int
abbrev pT (P : PS) : Int → Int := P.1
abbrev pS (P : PS) : Int → Int := P.2.1
abbrev pA (P : PS) : Int → Int := P.2.2.1
abbrev pN (P : PS) : Int → Int := P.2.2.2.1
abbrev pC (P : PS) : Int := P.2.2.2.2
def isPl (E : EV) (f : Nat → va_E) (P : PS) (md w s : Int) : Prop := f 22 = ob 4 [.ref (eA E 23), .ref (eA E 24), .ref (eA E 25), .ref (eA E 26), .int (zI md), .int (zI (pC P)), .int (zI w), .int (zI s)] ∧ f 23 = iz E 300 (pT P) ∧ f 24 = iz E 300 (pS P) ∧ f 25 = iz E 300 (pA P) ∧ f 26 = iz E 300 (pN P)
def plB (P : PS) : Prop := ∀ k, (0 ≤ pT P k ∧ pT P k ≤ 3) ∧ (0 ≤ pS P k ∧ pS P k ≤ 300) ∧ (-1 ≤ pA P k ∧ pA P k ≤ 700) ∧ 0 ≤ pN P k ∧ pN P k ≤ 300
def plApp (P : PS) (t n a w : Int) : PS := (uz (pT P) (pC P) t, uz (pS P) (pC P) n, uz (pA P) (pC P) a, uz (pN P) (pC P) w, pC P + 1)
abbrev goP (P : PS) (t a w : Int) : Prop := 0 < pC P ∧ pT P (pC P - 1) = t ∧ pN P (pC P - 1) = w ∧ (t = 1 ∨ pA P (pC P - 1) + pS P (pC P - 1) = a)
def plExt (P : PS) (t n a w : Int) : PS := if goP P t a w then (pT P, uz (pS P) (pC P - 1) (pS P (pC P - 1) + n), pA P, pN P, pC P) else plApp P t n a w
/-- the plan fits what was done up to x -/
def plOK (P : PS) (x : Int) : Prop := 0 ≤ pC P ∧ pC P ≤ x ∧ (0 < pC P → pS P (pC P - 1) ≤ x) ∧ plB P
theorem plOK_ext {P : PS} {x t n a w : Int} (h : plOK P x) (hn : 1 ≤ n) (hx : x + n ≤ 300) (ht : 0 ≤ t ∧ t ≤ 3) (ha : -1 ≤ a ∧ a ≤ 700) (hw : 0 ≤ w ∧ w ≤ 300) (h0 : 0 ≤ x) : plOK (plExt P t n a w) (x + n) := by
  obtain ⟨h1, h2, h3, h4⟩ := h
  unfold plExt
  split
  · rename_i h5
    have h6 := h3 h5.1
    refine ⟨h1, ?_, ?_, ?_⟩
    · show pC P ≤ _; omega
    · intro _; show uz _ _ _ (pC P - 1) ≤ _; simp only [uz, if_true]; omega
    · intro k
      have h7 := h4 k
      have h8 := h4 (pC P - 1)
      refine ⟨h7.1, ?_, h7.2.2⟩
      show 0 ≤ uz _ _ _ k ∧ uz _ _ _ k ≤ 300
      simp only [uz]
      split <;> omega
  · refine ⟨?_, ?_, ?_, ?_⟩
    · show 0 ≤ pC P + 1; omega
    · show pC P + 1 ≤ _; omega
    · intro _; show uz _ _ _ (pC P + 1 - 1) ≤ _; simp only [uz, Int.add_sub_cancel, if_true]; omega
    · intro k
      have h7 := h4 k
      refine ⟨?_, ?_, ?_, ?_⟩
      · show 0 ≤ uz _ _ _ k ∧ uz _ _ _ k ≤ _; simp only [uz]; split <;> omega
      · show 0 ≤ uz _ _ _ k ∧ uz _ _ _ k ≤ _; simp only [uz]; split <;> omega
      · show -1 ≤ uz _ _ _ k ∧ uz _ _ _ k ≤ _; simp only [uz]; split <;> omega
      · show 0 ≤ uz _ _ _ k ∧ uz _ _ _ k ≤ _; simp only [uz]; split <;> omega
/-- how much of [x, e) lies in x's window -/
def wpt (w x e : Int) : Int := (if e ≤ (x / w + 1) * w then e else (x / w + 1) * w) - x
theorem wpt_b {w x e : Int} (hw : 0 < w) (h : x < e) : 1 ≤ wpt w x e ∧ x + wpt w x e ≤ e := by
  have h1 := Int.emod_add_mul_ediv x w
  have h2 := Int.emod_lt_of_pos x hw
  have h3 : (x / w + 1) * w = w * (x / w) + w := by rw [Int.add_mul, Int.mul_comm]; omega
  unfold wpt
  split <;> omega
/-- bytes of NEW from x to e go into the plan, cut where windows end; a: the address of 'x0' -/
def exL (w t x0 a e : Int) : Nat → Int → PS → PS
  | 0, _, P => P
  | k + 1, x, P => if x < e then exL w t x0 a e k (x + wpt w x e) (plExt P t (wpt w x e) (if t = 3 then a + x - x0 else -1) (x / w)) else P
def ext (P : PS) (w t x0 n a : Int) : PS := exL w t x0 a (x0 + n) n.toNat x0 P
theorem c_Pl_open (E : EV) (f : Nat → va_E) (P : PS) (md w s : Int) (w1 s1 : Int) (hP : isPl E f P md w s) : CF yn_Pl_open cd_Pl_open 3 none 0 E [.ref (eA E 22), .int (zI w1), .int (zI s1)] f (fun r f' => r = none ∧ isPl E f' (pT P, pS P, pA P, pN P, 0) 1 w1 s1 ∧ Fr [22] f f') := by
  refine CF.of (by decide +kernel) (Nat.le_of_ble_eq_true rfl) fun X hX hE => ?_
  have hX : Ok E X "DeltaFerry$Plan" "open" cd_Pl_open 3 none (rl 0) := hX
  refine G_cast (lv' := [(0, .ref (eA E 22)), (1, .int (zI w1)), (2, .int (zI s1))]) ?_ rfl rfl rfl rfl
  refine G_aload_n hX 0 rfl rfl d_Pl_open_0 ?_
  refine G_iload_n hX 1 rfl rfl d_Pl_open_1 ?_
  refine F_put hX fg_Pl_24 fp_Pl_6 d_Pl_open_2 22 (fs' := [.ref (eA E 23), .ref (eA E 24), .ref (eA E 25), .ref (eA E 26), .int (zI md), .int (zI (pC P)), .int (zI w1), .int (zI s)]) (by decide) hP.1 rfl rfl (Nat.le_of_ble_eq_true rfl) rfl (fun f1 h2 k3 => ?_)
  refine G_aload_n hX 0 rfl rfl d_Pl_open_5 ?_
  refine G_iload_n hX 2 rfl rfl d_Pl_open_6 ?_
  refine F_put hX fg_Pl_28 fp_Pl_7 d_Pl_open_7 22 (fs' := [.ref (eA E 23), .ref (eA E 24), .ref (eA E 25), .ref (eA E 26), .int (zI md), .int (zI (pC P)), .int (zI w1), .int (zI s1)]) (by decide) h2 rfl rfl (Nat.le_of_ble_eq_true rfl) rfl (fun f4 h5 k6 => ?_)
  refine G_aload_n hX 0 rfl rfl d_Pl_open_10 ?_
  refine G_iconst hX d_Pl_open_11 ?_
  refine F_put hX fg_Pl_31 fp_Pl_4 d_Pl_open_12 22 (fs' := [.ref (eA E 23), .ref (eA E 24), .ref (eA E 25), .ref (eA E 26), .int (zI 1), .int (zI (pC P)), .int (zI w1), .int (zI s1)]) (by decide) h5 (by decide) (by decide) (Nat.le_of_ble_eq_true rfl) rfl (fun f7 h8 k9 => ?_)
  refine G_aload_n hX 0 rfl rfl d_Pl_open_15 ?_
  refine G_iconst hX d_Pl_open_16 ?_
  refine F_put hX fg_Pl_35 fp_Pl_5 d_Pl_open_17 22 (fs' := [.ref (eA E 23), .ref (eA E 24), .ref (eA E 25), .ref (eA E 26), .int (zI 1), .int (zI 0), .int (zI w1), .int (zI s1)]) (by decide) h8 rfl rfl (Nat.le_of_ble_eq_true rfl) rfl (fun f10 h11 k12 => ?_)
  have h13 : f10 23 = iz E 300 (pT P) := (k12 23 (by decide)).trans ((k9 23 (by decide)).trans ((k6 23 (by decide)).trans ((k3 23 (by decide)).trans hP.2.1)))
  have h14 : f10 24 = iz E 300 (pS P) := (k12 24 (by decide)).trans ((k9 24 (by decide)).trans ((k6 24 (by decide)).trans ((k3 24 (by decide)).trans hP.2.2.1)))
  have h15 : f10 25 = iz E 300 (pA P) := (k12 25 (by decide)).trans ((k9 25 (by decide)).trans ((k6 25 (by decide)).trans ((k3 25 (by decide)).trans hP.2.2.2.1)))
  have h16 : f10 26 = iz E 300 (pN P) := (k12 26 (by decide)).trans ((k9 26 (by decide)).trans ((k6 26 (by decide)).trans ((k3 26 (by decide)).trans hP.2.2.2.2)))
  exact F_vret hX hE d_Pl_open_20 ⟨rfl, ⟨h11, h13, h14, h15, h16⟩, (Fr.tr (Fr.tr (Fr.tr (Fr.tr Fr.rf k3 (by decide)) k6 (by decide)) k9 (by decide)) k12 (by decide))⟩
theorem c_Pl_append (E : EV) (f : Nat → va_E) (P : PS) (md w s : Int) (t n a k : Int) (hP : isPl E f P md w s) (hc : 0 ≤ pC P ∧ pC P < 300) : CF yn_Pl_append cd_Pl_append 5 none 0 E [.ref (eA E 22), .int (zI t), .int (zI n), .int (zI a), .int (zI k)] f (fun r f' => r = none ∧ isPl E f' (plApp P t n a k) md w s ∧ Fr [22, 23, 24, 25, 26] f f') := by
  refine CF.of (by decide +kernel) (Nat.le_of_ble_eq_true rfl) fun X hX hE => ?_
  have hX : Ok E X "DeltaFerry$Plan" "append" cd_Pl_append 5 none (rl 0) := hX
  refine G_cast (lv' := [(0, .ref (eA E 22)), (1, .int (zI t)), (2, .int (zI n)), (3, .int (zI a)), (4, .int (zI k))]) ?_ rfl rfl rfl rfl
  refine G_aload_n hX 0 rfl rfl d_Pl_append_0 ?_
  refine F_get hX fg_Pl_35 d_Pl_append_1 22 (by decide) hP.1 rfl ?_
  refine G_sipush hX (by decide) d_Pl_append_4 ?_
  refine G_icmp_ge_z hX (tgt := 61) d_Pl_append_7 rfl (by omega) (fun c1 => by exfalso; omega) (fun c2 => ?_)
  refine G_aload_n hX 0 rfl rfl d_Pl_append_10 ?_
  refine F_get hX fg_Pl_9 d_Pl_append_11 22 (by decide) hP.1 rfl ?_
  refine G_aload_n hX 0 rfl rfl d_Pl_append_14 ?_
  refine F_get hX fg_Pl_35 d_Pl_append_15 22 (by decide) hP.1 rfl ?_
  refine G_iload_n hX 1 rfl rfl d_Pl_append_18 ?_
  refine F_iast hX d_Pl_append_19 23 (by decide) hP.2.1 (by omega) (fun f3 h4 k5 => ?_)
  refine G_aload_n hX 0 rfl rfl d_Pl_append_20 ?_
  have h6 : f3 22 = ob 4 [.ref (eA E 23), .ref (eA E 24), .ref (eA E 25), .ref (eA E 26), .int (zI md), .int (zI (pC P)), .int (zI w), .int (zI s)] := (k5 22 (by decide)).trans hP.1
  refine F_get hX fg_Pl_15 d_Pl_append_21 22 (by decide) h6 rfl ?_
  refine G_aload_n hX 0 rfl rfl d_Pl_append_24 ?_
  refine F_get hX fg_Pl_35 d_Pl_append_25 22 (by decide) h6 rfl ?_
  refine G_iload_n hX 2 rfl rfl d_Pl_append_28 ?_
  have h7 : f3 24 = iz E 300 (pS P) := (k5 24 (by decide)).trans hP.2.2.1
  refine F_iast hX d_Pl_append_29 24 (by decide) h7 (by omega) (fun f8 h9 k10 => ?_)
  refine G_aload_n hX 0 rfl rfl d_Pl_append_30 ?_
  have h11 : f8 22 = ob 4 [.ref (eA E 23), .ref (eA E 24), .ref (eA E 25), .ref (eA E 26), .int (zI md), .int (zI (pC P)), .int (zI w), .int (zI s)] := (k10 22 (by decide)).trans h6
  refine F_get hX fg_Pl_18 d_Pl_append_31 22 (by decide) h11 rfl ?_
  refine G_aload_n hX 0 rfl rfl d_Pl_append_34 ?_
  refine F_get hX fg_Pl_35 d_Pl_append_35 22 (by decide) h11 rfl ?_
  refine G_iload_n hX 3 rfl rfl d_Pl_append_38 ?_
  have h12 : f8 25 = iz E 300 (pA P) := (k10 25 (by decide)).trans ((k5 25 (by decide)).trans hP.2.2.2.1)
  refine F_iast hX d_Pl_append_39 25 (by decide) h12 (by omega) (fun f13 h14 k15 => ?_)
  refine G_aload_n hX 0 rfl rfl d_Pl_append_40 ?_
  have h16 : f13 22 = ob 4 [.ref (eA E 23), .ref (eA E 24), .ref (eA E 25), .ref (eA E 26), .int (zI md), .int (zI (pC P)), .int (zI w), .int (zI s)] := (k15 22 (by decide)).trans h11
  refine F_get hX fg_Pl_21 d_Pl_append_41 22 (by decide) h16 rfl ?_
  refine G_aload_n hX 0 rfl rfl d_Pl_append_44 ?_
  refine F_get hX fg_Pl_35 d_Pl_append_45 22 (by decide) h16 rfl ?_
  refine G_iload hX 4 rfl d_Pl_append_48 ?_
  have h17 : f13 26 = iz E 300 (pN P) := (k15 26 (by decide)).trans ((k10 26 (by decide)).trans ((k5 26 (by decide)).trans hP.2.2.2.2))
  refine F_iast hX d_Pl_append_50 26 (by decide) h17 (by omega) (fun f18 h19 k20 => ?_)
  refine G_aload_n hX 0 rfl rfl d_Pl_append_51 ?_
  refine G_dup hX rfl d_Pl_append_52 ?_
  have h21 : f18 22 = ob 4 [.ref (eA E 23), .ref (eA E 24), .ref (eA E 25), .ref (eA E 26), .int (zI md), .int (zI (pC P)), .int (zI w), .int (zI s)] := (k20 22 (by decide)).trans h16
  refine F_get hX fg_Pl_35 d_Pl_append_53 22 (by decide) h21 rfl ?_
  refine G_iconst hX d_Pl_append_56 ?_
  refine G_iadd_z hX d_Pl_append_57 ?_
  refine F_put hX fg_Pl_35 fp_Pl_5 d_Pl_append_58 22 (fs' := [.ref (eA E 23), .ref (eA E 24), .ref (eA E 25), .ref (eA E 26), .int (zI md), .int (zI ((pC P) + 1)), .int (zI w), .int (zI s)]) (by decide) h21 rfl rfl (Nat.le_of_ble_eq_true rfl) rfl (fun f22 h23 k24 => ?_)
  have h25 : f22 23 = iz E 300 (uz (pT P) (pC P) t) := (k24 23 (by decide)).trans ((k20 23 (by decide)).trans ((k15 23 (by decide)).trans ((k10 23 (by decide)).trans h4)))
  have h26 : f22 24 = iz E 300 (uz (pS P) (pC P) n) := (k24 24 (by decide)).trans ((k20 24 (by decide)).trans ((k15 24 (by decide)).trans h9))
  have h27 : f22 25 = iz E 300 (uz (pA P) (pC P) a) := (k24 25 (by decide)).trans ((k20 25 (by decide)).trans h14)
  have h28 : f22 26 = iz E 300 (uz (pN P) (pC P) k) := (k24 26 (by decide)).trans h19
  exact F_vret hX hE d_Pl_append_61 ⟨rfl, ⟨h23, h25, h26, h27, h28⟩, (Fr.tr (Fr.tr (Fr.tr (Fr.tr (Fr.tr Fr.rf k5 (by decide)) k10 (by decide)) k15 (by decide)) k20 (by decide)) k24 (by decide))⟩
theorem c_Pl_goesOn (E : EV) (f : Nat → va_E) (P : PS) (md w s : Int) (t a k : Int) (hP : isPl E f P md w s) (hc : 0 ≤ pC P ∧ pC P ≤ 300) (hB : plB P) (ht : 0 ≤ t ∧ t ≤ 3) (ha : -1 ≤ a ∧ a ≤ 700) (hk : 0 ≤ k ∧ k ≤ 300) : CF yn_Pl_goesOn cd_Pl_goesOn 5 (some (.boolean)) 0 E [.ref (eA E 22), .int (zI t), .int (zI a), .int (zI k)] f (fun r f' => r = some (.int (zI (if goP P t a k then 1 else 0))) ∧ f' = f) := by
  refine CF.of (by decide +kernel) (Nat.le_of_ble_eq_true rfl) fun X hX hE => ?_
  have hX : Ok E X "DeltaFerry$Plan" "goesOn" cd_Pl_goesOn 5 (some (.boolean)) (rl 0) := hX
  refine G_cast (lv' := [(0, .ref (eA E 22)), (1, .int (zI t)), (2, .int (zI a)), (3, .int (zI k))]) ?_ rfl rfl rfl rfl
  have hb1 := hB (pC P - 1)
  refine G_aload_n hX 0 rfl rfl d_Pl_goesOn_0 ?_
  refine F_get hX fg_Pl_35 d_Pl_goesOn_1 22 (by decide) hP.1 rfl ?_
  refine G_iconst hX d_Pl_goesOn_4 ?_
  refine G_isub_z hX d_Pl_goesOn_5 ?_
  refine G_istore hX (lv' := [(4, .int (zI ((pC P) - 1))), (0, .ref (eA E 22)), (1, .int (zI t)), (2, .int (zI a)), (3, .int (zI k))]) (by decide) rfl d_Pl_goesOn_6 ?_
  refine G_iload hX 0 rfl d_Pl_goesOn_8 ?_
  refine G_if_lt_z hX (tgt := 35) d_Pl_goesOn_10 rfl (by omega) (fun c1 => ?_) (fun c2 => ?_)
  · skip
    refine G_iconst hX d_Pl_goesOn_35 ?_
    exact F_zret hX hE (by decide) d_Pl_goesOn_36 ⟨by rw [if_neg (by omega)], rfl⟩
  · skip
    refine G_aload_n hX 1 rfl rfl d_Pl_goesOn_13 ?_
    refine F_get hX fg_Pl_9 d_Pl_goesOn_14 22 (by decide) hP.1 rfl ?_
    refine G_iload hX 0 rfl d_Pl_goesOn_17 ?_
    refine F_iald hX d_Pl_goesOn_19 23 (by decide) hP.2.1 (by omega) ?_
    refine G_iload_n hX 2 rfl rfl d_Pl_goesOn_20 ?_
    refine G_icmp_ne_z hX (tgt := 35) d_Pl_goesOn_21 rfl (by omega) (fun c3 => ?_) (fun c4 => ?_)
    · skip
      refine G_iconst hX d_Pl_goesOn_35 ?_
      exact F_zret hX hE (by decide) d_Pl_goesOn_36 ⟨by rw [if_neg (by omega)], rfl⟩
    · skip
      refine G_aload_n hX 1 rfl rfl d_Pl_goesOn_24 ?_
      refine F_get hX fg_Pl_21 d_Pl_goesOn_25 22 (by decide) hP.1 rfl ?_
      refine G_iload hX 0 rfl d_Pl_goesOn_28 ?_
      refine F_iald hX d_Pl_goesOn_30 26 (by decide) hP.2.2.2.2 (by omega) ?_
      refine G_iload_n hX 4 rfl rfl d_Pl_goesOn_31 ?_
      refine G_icmp_eq_z hX (tgt := 37) d_Pl_goesOn_32 rfl (by omega) (fun c5 => ?_) (fun c6 => ?_)
      · skip
        refine G_iload_n hX 2 rfl rfl d_Pl_goesOn_37 ?_
        refine G_iconst hX d_Pl_goesOn_38 ?_
        refine G_icmp_eq_z hX (tgt := 61) d_Pl_goesOn_39 rfl (by omega) (fun c7 => ?_) (fun c8 => ?_)
        · skip
          refine G_iconst hX d_Pl_goesOn_61 ?_
          refine G_goto hX (tgt := 66) d_Pl_goesOn_62 rfl ?_
          exact F_zret hX hE (by decide) d_Pl_goesOn_66 ⟨by rw [if_pos (by omega)], rfl⟩
        · skip
          refine G_aload_n hX 1 rfl rfl d_Pl_goesOn_42 ?_
          refine F_get hX fg_Pl_18 d_Pl_goesOn_43 22 (by decide) hP.1 rfl ?_
          refine G_iload hX 0 rfl d_Pl_goesOn_46 ?_
          refine F_iald hX d_Pl_goesOn_48 25 (by decide) hP.2.2.2.1 (by omega) ?_
          refine G_aload_n hX 1 rfl rfl d_Pl_goesOn_49 ?_
          refine F_get hX fg_Pl_15 d_Pl_goesOn_50 22 (by decide) hP.1 rfl ?_
          refine G_iload hX 0 rfl d_Pl_goesOn_53 ?_
          refine F_iald hX d_Pl_goesOn_55 24 (by decide) hP.2.2.1 (by omega) ?_
          refine G_iadd_z hX d_Pl_goesOn_56 ?_
          refine G_iload_n hX 3 rfl rfl d_Pl_goesOn_57 ?_
          refine G_icmp_ne_z hX (tgt := 65) d_Pl_goesOn_58 rfl (by omega) (fun c9 => ?_) (fun c10 => ?_)
          · skip
            refine G_iconst hX d_Pl_goesOn_65 ?_
            exact F_zret hX hE (by decide) d_Pl_goesOn_66 ⟨by rw [if_neg (by omega)], rfl⟩
          · skip
            refine G_iconst hX d_Pl_goesOn_61 ?_
            refine G_goto hX (tgt := 66) d_Pl_goesOn_62 rfl ?_
            exact F_zret hX hE (by decide) d_Pl_goesOn_66 ⟨by rw [if_pos (by omega)], rfl⟩
      · skip
        refine G_iconst hX d_Pl_goesOn_35 ?_
        exact F_zret hX hE (by decide) d_Pl_goesOn_36 ⟨by rw [if_neg (by omega)], rfl⟩
theorem exL_end {w t x0 a e x : Int} {k : Nat} {P : PS} (h : e ≤ x) : exL w t x0 a e k x P = P := by
  cases k with
  | zero => rfl
  | succ k => unfold exL; rw [if_neg (by omega)]
theorem exL_go {w t x0 a e x : Int} {k : Nat} {P : PS} (h : x < e) (hk : e - x ≤ k) : exL w t x0 a e k x P = exL w t x0 a e (k - 1) (x + wpt w x e) (plExt P t (wpt w x e) (if t = 3 then a + x - x0 else -1) (x / w)) := by
  cases k with
  | zero => exfalso; have : ((0 : Nat) : Int) = 0 := rfl; omega
  | succ k =>
    show (if x < e then _ else _) = _
    rw [if_pos h]; rfl
theorem wm_b {w x : Int} (hw : 0 < w) : x < (x / w + 1) * w ∧ (x / w + 1) * w ≤ x + w := by
  have h1 := Int.emod_add_mul_ediv x w
  have h2 := Int.emod_lt_of_pos x hw
  have h4 := Int.emod_nonneg x (show w ≠ 0 by omega)
  have h3 : (x / w + 1) * w = w * (x / w) + w := by rw [Int.add_mul, Int.mul_comm]; omega
  omega
theorem dv_b {w x : Int} (hw : 0 < w) (hx : 0 ≤ x) : 0 ≤ x / w ∧ x / w ≤ x := ⟨Int.ediv_nonneg hx (by omega), Int.ediv_le_self _ hx⟩
theorem c_Pl_extend (E : EV) (f : Nat → va_E) (P : PS) (md w s : Int) (t x0 n a : Int) (hP : isPl E f P md w s) (ht : t = 3 ∨ t = 1) (hw : 16 ≤ w ∧ w ≤ 256) (hO : plOK P x0) (hx : 0 ≤ x0 ∧ 1 ≤ n ∧ x0 + n ≤ 300) (ha : -1 ≤ a ∧ a + n ≤ 700 ∧ (t = 3 → 0 ≤ a)) : CF yn_Pl_extend cd_Pl_extend 10 none 1 E [.ref (eA E 22), .int (zI t), .int (zI x0), .int (zI n), .int (zI a)] f (fun r f' => r = none ∧ isPl E f' (ext P w t x0 n a) md w s ∧ plOK (ext P w t x0 n a) (x0 + n) ∧ Fr [22, 23, 24, 25, 26] f f') := by
  refine CF.of (by decide +kernel) (Nat.le_of_ble_eq_true rfl) fun X hX hE => ?_
  have hX : Ok E X "DeltaFerry$Plan" "extend" cd_Pl_extend 10 none (rl 1) := hX
  refine G_cast (lv' := [(0, .ref (eA E 22)), (1, .int (zI t)), (2, .int (zI x0)), (3, .int (zI n)), (4, .int (zI a))]) ?_ rfl rfl rfl rfl
  rcases ht with rfl | rfl
  · skip
    refine G_iload_n hX 2 rfl rfl d_Pl_extend_0 ?_
    refine G_iload_n hX 3 rfl rfl d_Pl_extend_1 ?_
    refine G_iadd_z hX d_Pl_extend_2 ?_
    refine G_istore hX (lv' := [(5, .int (zI (x0 + n))), (0, .ref (eA E 22)), (1, .int (zI 3)), (2, .int (zI x0)), (3, .int (zI n)), (4, .int (zI a))]) (by decide) rfl d_Pl_extend_3 ?_
    refine G_iload_n hX 3 rfl rfl d_Pl_extend_5 ?_
    refine G_istore hX (lv' := [(6, .int (zI x0)), (5, .int (zI (x0 + n))), (0, .ref (eA E 22)), (1, .int (zI 3)), (2, .int (zI x0)), (3, .int (zI n)), (4, .int (zI a))]) (by decide) rfl d_Pl_extend_6 ?_
    have loop1 : ∀ (q : Nat) (x : Int) (Q : PS) (kk : Nat) (f2 : Nat → va_E), (x0 + n - x).toNat < q → x0 ≤ x ∧ x ≤ x0 + n → plOK Q x → x0 + n - x ≤ kk → ext P w 3 x0 n a = exL w 3 x0 a (x0 + n) kk x Q → f2 22 = ob 4 [.ref (eA E 23), .ref (eA E 24), .ref (eA E 25), .ref (eA E 26), .int (zI md), .int (zI (pC Q)), .int (zI w), .int (zI s)] → f2 23 = iz E 300 (pT Q) → f2 24 = iz E 300 (pS Q) → f2 25 = iz E 300 (pA Q) → f2 26 = iz E 300 (pN Q) → Fr [22, 23, 24, 25, 26] f f2 → G E X 0 0 8 [(0, .ref (eA E 22)), (1, .int (zI 3)), (2, .int (zI x0)), (4, .int (zI a)), (5, .int (zI (x0 + n))), (6, .int (zI x))] [] (wl E f2) := by
      intro q
      induction q with
      | zero => intro x Q kk f2 m4; exact absurd m4 (Nat.not_lt_zero _)
      | succ q ih5 =>
        intro x Q kk f2 m4 hxx hQ hk hs h6 h7 h8 h9 h10 k3
        obtain ⟨hq1, hq2, hq3, hq4⟩ := hQ
        have hwm := wm_b (w := w) (x := x) (by omega)
        have hdv := dv_b (w := w) (x := x) (by omega) (by omega)
        refine G_iload hX 5 rfl d_Pl_extend_8 ?_
        refine G_iload hX 4 rfl d_Pl_extend_10 ?_
        refine G_icmp_ge_z hX (tgt := 118) d_Pl_extend_12 rfl (by omega) (fun c11 => ?_) (fun c12 => ?_)
        · skip
          have ex : x = x0 + n := by omega
          have eq9 : ext P w 3 x0 n a = Q := by rw [hs, exL_end (by omega)]
          exact F_vret hX hE d_Pl_extend_118 ⟨rfl, by rw [eq9]; exact ⟨h6, h7, h8, h9, h10⟩, by rw [eq9, ← ex]; exact ⟨hq1, hq2, hq3, hq4⟩, (Fr.tr Fr.rf k3 (by decide))⟩
        · skip
          have hpt := wpt_b (w := w) (x := x) (e := x0 + n) (by omega) (by omega)
          refine G_iload hX 5 rfl d_Pl_extend_15 ?_
          refine G_aload_n hX 0 rfl rfl d_Pl_extend_17 ?_
          refine F_get hX fg_Pl_24 d_Pl_extend_18 22 (by decide) h6 rfl ?_
          refine G_idiv_z hX (by omega) d_Pl_extend_21 ?_
          refine G_istore hX (lv' := [(7, .int (zI (x / w))), (0, .ref (eA E 22)), (1, .int (zI 3)), (2, .int (zI x0)), (4, .int (zI a)), (5, .int (zI (x0 + n))), (6, .int (zI x))]) (by decide) rfl d_Pl_extend_22 ?_
          refine G_iload hX 5 rfl d_Pl_extend_24 ?_
          refine G_iload hX 0 rfl d_Pl_extend_26 ?_
          refine G_iconst hX d_Pl_extend_28 ?_
          refine G_iadd_z hX d_Pl_extend_29 ?_
          refine G_aload_n hX 1 rfl rfl d_Pl_extend_30 ?_
          refine F_get hX fg_Pl_24 d_Pl_extend_31 22 (by decide) h6 rfl ?_
          refine G_imul_z hX d_Pl_extend_34 ?_
          refine F_min hX ml_Pl_38 kw_st_Math kj_Math kw_min (by decide) (Nat.le_of_ble_eq_true rfl) (by omega) d_Pl_extend_35 ?_
          refine G_iload hX 6 rfl d_Pl_extend_38 ?_
          refine G_isub_z hX d_Pl_extend_40 ?_
          refine G_top (show zI ((if x0 + n ≤ ((x / w) + 1) * w then x0 + n else ((x / w) + 1) * w) - x) = zI (wpt w x (x0 + n)) from rfl) ?_
          refine G_istore hX (lv' := [(8, .int (zI (wpt w x (x0 + n)))), (7, .int (zI (x / w))), (0, .ref (eA E 22)), (1, .int (zI 3)), (2, .int (zI x0)), (4, .int (zI a)), (5, .int (zI (x0 + n))), (6, .int (zI x))]) (by decide) rfl d_Pl_extend_41 ?_
          refine G_iload_n hX 3 rfl rfl d_Pl_extend_43 ?_
          refine G_iconst hX d_Pl_extend_44 ?_
          refine G_icmp_ne_z hX (tgt := 58) d_Pl_extend_45 rfl (by omega) (fun c13 => by exfalso; omega) (fun c14 => ?_)
          refine G_iload hX 5 rfl d_Pl_extend_48 ?_
          refine G_iload hX 7 rfl d_Pl_extend_50 ?_
          refine G_iadd_z hX d_Pl_extend_52 ?_
          refine G_iload_n hX 4 rfl rfl d_Pl_extend_53 ?_
          refine G_isub_z hX d_Pl_extend_54 ?_
          refine G_goto hX (tgt := 59) d_Pl_extend_55 rfl ?_
          refine G_istore hX (lv' := [(9, .int (zI ((a + x) - x0))), (8, .int (zI (wpt w x (x0 + n)))), (7, .int (zI (x / w))), (0, .ref (eA E 22)), (1, .int (zI 3)), (2, .int (zI x0)), (4, .int (zI a)), (5, .int (zI (x0 + n))), (6, .int (zI x))]) (by decide) rfl d_Pl_extend_59 ?_
          refine G_aload_n hX 3 rfl rfl d_Pl_extend_61 ?_
          refine G_iload_n hX 4 rfl rfl d_Pl_extend_62 ?_
          refine G_iload hX 0 rfl d_Pl_extend_63 ?_
          refine G_iload hX 2 rfl d_Pl_extend_65 ?_
          refine F_callV hX (st := []) (c_Pl_goesOn E f2 Q md w s 3 ((a + x) - x0) (x / w) ⟨h6, h7, h8, h9, h10⟩ (by omega) hq4 (by omega) (by omega) (by omega)) cm_Pl_goesOn im_Pl_goesOn se_Pl_goesOn rfl ml_Pl_44 d_Pl_extend_67 (by decide) h6 rfl rfl (Nat.le_of_ble_eq_true rfl) (by decide) ?_
          rintro _ f15 ⟨rfl, e18⟩
          obtain rfl := e18.symm
          refine G_cast (st' := [.int (zI (if goP Q 3 ((a + x) - x0) (x / w) then 1 else 0))]) ?_ rfl rfl rfl rfl
          by_cases hgo : goP Q 3 (a + x - x0) (x / w)
          · skip
            refine G_top (show zI (if goP Q 3 ((a + x) - x0) (x / w) then 1 else 0) = zI 1 from by rw [if_pos hgo]) ?_
            refine G_if_eq_z hX (tgt := 92) d_Pl_extend_70 rfl (by omega) (fun c19 => by exfalso; omega) (fun c20 => ?_)
            refine G_aload_n hX 3 rfl rfl d_Pl_extend_73 ?_
            refine F_get hX fg_Pl_15 d_Pl_extend_74 22 (by decide) h6 rfl ?_
            refine G_aload_n hX 3 rfl rfl d_Pl_extend_77 ?_
            refine F_get hX fg_Pl_35 d_Pl_extend_78 22 (by decide) h6 rfl ?_
            refine G_iconst hX d_Pl_extend_81 ?_
            refine G_isub_z hX d_Pl_extend_82 ?_
            refine G_dup2 hX rfl rfl d_Pl_extend_83 ?_
            have hb8 := hq4 (pC Q - 1)
            refine F_iald hX d_Pl_extend_84 24 (by decide) h8 (by omega) ?_
            refine G_iload hX 1 rfl d_Pl_extend_85 ?_
            refine G_iadd_z hX d_Pl_extend_87 ?_
            refine F_iast hX d_Pl_extend_88 24 (by decide) h8 (by omega) (fun f21 h22 k23 => ?_)
            refine G_goto hX (tgt := 103) d_Pl_extend_89 rfl ?_
            refine G_iload hX 8 rfl d_Pl_extend_103 ?_
            refine G_iload hX 1 rfl d_Pl_extend_105 ?_
            refine G_iconst hX d_Pl_extend_107 ?_
            refine G_isub_z hX d_Pl_extend_108 ?_
            refine G_iadd_z hX d_Pl_extend_109 ?_
            refine G_istore hX (lv' := [(6, .int (zI (x + ((wpt w x (x0 + n)) - 1)))), (9, .int (zI ((a + x) - x0))), (8, .int (zI (wpt w x (x0 + n)))), (7, .int (zI (x / w))), (0, .ref (eA E 22)), (1, .int (zI 3)), (2, .int (zI x0)), (4, .int (zI a)), (5, .int (zI (x0 + n)))]) (by decide) rfl d_Pl_extend_110 ?_
            refine G_iinc_z hX (lv' := [(6, .int (zI ((x + ((wpt w x (x0 + n)) - 1)) + 1))), (9, .int (zI ((a + x) - x0))), (8, .int (zI (wpt w x (x0 + n)))), (7, .int (zI (x / w))), (0, .ref (eA E 22)), (1, .int (zI 3)), (2, .int (zI x0)), (4, .int (zI a)), (5, .int (zI (x0 + n)))]) 0 rfl (by decide) rfl d_Pl_extend_112 ?_
            refine G_goto hX (tgt := 8) d_Pl_extend_115 rfl ?_
            have hO2 := plOK_ext (t := 3) (n := wpt w x (x0 + n)) (a := a + x - x0) (w := x / w) (show plOK Q x from ⟨hq1, hq2, hq3, hq4⟩) (by omega) (by omega) (by omega) (by omega) (by omega) (by omega)
            have eP : plExt Q 3 (wpt w x (x0 + n)) (a + x - x0) (x / w) = (pT Q, uz (pS Q) (pC Q - 1) (pS Q (pC Q - 1) + wpt w x (x0 + n)), pA Q, pN Q, pC Q) := by unfold plExt; rw [if_pos hgo]
            have h24 : f21 22 = ob 4 [.ref (eA E 23), .ref (eA E 24), .ref (eA E 25), .ref (eA E 26), .int (zI md), .int (zI (pC Q)), .int (zI w), .int (zI s)] := (k23 22 (by decide)).trans h6
            have h25 : f21 23 = iz E 300 (pT Q) := (k23 23 (by decide)).trans h7
            have h26 : f21 25 = iz E 300 (pA Q) := (k23 25 (by decide)).trans h9
            have h27 : f21 26 = iz E 300 (pN Q) := (k23 26 (by decide)).trans h10
            refine G_loc (lv' := [(0, .ref (eA E 22)), (1, .int (zI 3)), (2, .int (zI x0)), (4, .int (zI a)), (5, .int (zI (x0 + n))), (6, .int (zI ((x + ((wpt w x (x0 + n)) - 1)) + 1)))]) [4, 5, 6, 7, 8, 0] rfl ?_
            refine G_cast (ih5 (x + wpt w x (x0 + n)) (plExt Q 3 (wpt w x (x0 + n)) (a + x - x0) (x / w)) (kk - 1) f21 (by omega) (by omega) hO2 (by omega) (by rw [hs, exL_go (by omega) hk, if_pos rfl]) (by rw [eP]; exact h24) (by rw [eP]; exact h25) (by rw [eP]; exact h22) (by rw [eP]; exact h26) (by rw [eP]; exact h27) (Fr.tr (Fr.tr Fr.rf k3 (by decide)) k23 (by decide))) rfl (by rw [show x + (wpt w x (x0 + n) - 1) + 1 = x + wpt w x (x0 + n) by omega]) rfl rfl
          · skip
            refine G_top (show zI (if goP Q 3 ((a + x) - x0) (x / w) then 1 else 0) = zI 0 from by rw [if_neg hgo]) ?_
            refine G_if_eq_z hX (tgt := 92) d_Pl_extend_70 rfl (by omega) (fun c28 => ?_) (fun c29 => by exfalso; omega)
            refine G_aload_n hX 3 rfl rfl d_Pl_extend_92 ?_
            refine G_iload_n hX 4 rfl rfl d_Pl_extend_93 ?_
            refine G_iload hX 1 rfl d_Pl_extend_94 ?_
            refine G_iload hX 0 rfl d_Pl_extend_96 ?_
            refine G_iload hX 2 rfl d_Pl_extend_98 ?_
            refine F_callV hX (st := []) (c_Pl_append E f2 Q md w s 3 (wpt w x (x0 + n)) ((a + x) - x0) (x / w) ⟨h6, h7, h8, h9, h10⟩ (by omega)) cm_Pl_append im_Pl_append se_Pl_append rfl ml_Pl_48 d_Pl_extend_100 (by decide) h6 rfl rfl (Nat.le_of_ble_eq_true rfl) (by decide) ?_
            rintro _ f30 ⟨rfl, ⟨h33, h34, h35, h36, h37⟩, k38⟩
            refine G_cast (st' := []) ?_ rfl rfl rfl rfl
            refine G_iload hX 8 rfl d_Pl_extend_103 ?_
            refine G_iload hX 1 rfl d_Pl_extend_105 ?_
            refine G_iconst hX d_Pl_extend_107 ?_
            refine G_isub_z hX d_Pl_extend_108 ?_
            refine G_iadd_z hX d_Pl_extend_109 ?_
            refine G_istore hX (lv' := [(6, .int (zI (x + ((wpt w x (x0 + n)) - 1)))), (9, .int (zI ((a + x) - x0))), (8, .int (zI (wpt w x (x0 + n)))), (7, .int (zI (x / w))), (0, .ref (eA E 22)), (1, .int (zI 3)), (2, .int (zI x0)), (4, .int (zI a)), (5, .int (zI (x0 + n)))]) (by decide) rfl d_Pl_extend_110 ?_
            refine G_iinc_z hX (lv' := [(6, .int (zI ((x + ((wpt w x (x0 + n)) - 1)) + 1))), (9, .int (zI ((a + x) - x0))), (8, .int (zI (wpt w x (x0 + n)))), (7, .int (zI (x / w))), (0, .ref (eA E 22)), (1, .int (zI 3)), (2, .int (zI x0)), (4, .int (zI a)), (5, .int (zI (x0 + n)))]) 0 rfl (by decide) rfl d_Pl_extend_112 ?_
            refine G_goto hX (tgt := 8) d_Pl_extend_115 rfl ?_
            have hO2 := plOK_ext (t := 3) (n := wpt w x (x0 + n)) (a := a + x - x0) (w := x / w) (show plOK Q x from ⟨hq1, hq2, hq3, hq4⟩) (by omega) (by omega) (by omega) (by omega) (by omega) (by omega)
            have eP : plExt Q 3 (wpt w x (x0 + n)) (a + x - x0) (x / w) = plApp Q 3 (wpt w x (x0 + n)) (a + x - x0) (x / w) := by unfold plExt; rw [if_neg hgo]
            refine G_loc (lv' := [(0, .ref (eA E 22)), (1, .int (zI 3)), (2, .int (zI x0)), (4, .int (zI a)), (5, .int (zI (x0 + n))), (6, .int (zI ((x + ((wpt w x (x0 + n)) - 1)) + 1)))]) [4, 5, 6, 7, 8, 0] rfl ?_
            refine G_cast (ih5 (x + wpt w x (x0 + n)) (plExt Q 3 (wpt w x (x0 + n)) (a + x - x0) (x / w)) (kk - 1) f30 (by omega) (by omega) hO2 (by omega) (by rw [hs, exL_go (by omega) hk, if_pos rfl]) (by rw [eP]; exact h33) (by rw [eP]; exact h34) (by rw [eP]; exact h35) (by rw [eP]; exact h36) (by rw [eP]; exact h37) (Fr.tr (Fr.tr Fr.rf k3 (by decide)) k38 (by decide))) rfl (by rw [show x + (wpt w x (x0 + n) - 1) + 1 = x + wpt w x (x0 + n) by omega]) rfl rfl
    refine G_loc (lv' := [(0, .ref (eA E 22)), (1, .int (zI 3)), (2, .int (zI x0)), (4, .int (zI a)), (5, .int (zI (x0 + n))), (6, .int (zI x0))]) [2, 3, 4, 6, 1, 0] rfl ?_
    exact loop1 (_ + 1) x0 P n.toNat f (Nat.lt_succ_self _) (by omega) hO (by omega) rfl hP.1 hP.2.1 hP.2.2.1 hP.2.2.2.1 hP.2.2.2.2 Fr.rf
  · skip
    refine G_iload_n hX 2 rfl rfl d_Pl_extend_0 ?_
    refine G_iload_n hX 3 rfl rfl d_Pl_extend_1 ?_
    refine G_iadd_z hX d_Pl_extend_2 ?_
    refine G_istore hX (lv' := [(5, .int (zI (x0 + n))), (0, .ref (eA E 22)), (1, .int (zI 1)), (2, .int (zI x0)), (3, .int (zI n)), (4, .int (zI a))]) (by decide) rfl d_Pl_extend_3 ?_
    refine G_iload_n hX 3 rfl rfl d_Pl_extend_5 ?_
    refine G_istore hX (lv' := [(6, .int (zI x0)), (5, .int (zI (x0 + n))), (0, .ref (eA E 22)), (1, .int (zI 1)), (2, .int (zI x0)), (3, .int (zI n)), (4, .int (zI a))]) (by decide) rfl d_Pl_extend_6 ?_
    have loop39 : ∀ (q : Nat) (x : Int) (Q : PS) (kk : Nat) (f40 : Nat → va_E), (x0 + n - x).toNat < q → x0 ≤ x ∧ x ≤ x0 + n → plOK Q x → x0 + n - x ≤ kk → ext P w 1 x0 n a = exL w 1 x0 a (x0 + n) kk x Q → f40 22 = ob 4 [.ref (eA E 23), .ref (eA E 24), .ref (eA E 25), .ref (eA E 26), .int (zI md), .int (zI (pC Q)), .int (zI w), .int (zI s)] → f40 23 = iz E 300 (pT Q) → f40 24 = iz E 300 (pS Q) → f40 25 = iz E 300 (pA Q) → f40 26 = iz E 300 (pN Q) → Fr [22, 23, 24, 25, 26] f f40 → G E X 0 0 8 [(0, .ref (eA E 22)), (1, .int (zI 1)), (2, .int (zI x0)), (4, .int (zI a)), (5, .int (zI (x0 + n))), (6, .int (zI x))] [] (wl E f40) := by
      intro q
      induction q with
      | zero => intro x Q kk f40 m42; exact absurd m42 (Nat.not_lt_zero _)
      | succ q ih43 =>
        intro x Q kk f40 m42 hxx hQ hk hs h44 h45 h46 h47 h48 k41
        obtain ⟨hq1, hq2, hq3, hq4⟩ := hQ
        have hwm := wm_b (w := w) (x := x) (by omega)
        have hdv := dv_b (w := w) (x := x) (by omega) (by omega)
        refine G_iload hX 5 rfl d_Pl_extend_8 ?_
        refine G_iload hX 4 rfl d_Pl_extend_10 ?_
        refine G_icmp_ge_z hX (tgt := 118) d_Pl_extend_12 rfl (by omega) (fun c49 => ?_) (fun c50 => ?_)
        · skip
          have ex : x = x0 + n := by omega
          have eq9 : ext P w 1 x0 n a = Q := by rw [hs, exL_end (by omega)]
          exact F_vret hX hE d_Pl_extend_118 ⟨rfl, by rw [eq9]; exact ⟨h44, h45, h46, h47, h48⟩, by rw [eq9, ← ex]; exact ⟨hq1, hq2, hq3, hq4⟩, (Fr.tr Fr.rf k41 (by decide))⟩
        · skip
          have hpt := wpt_b (w := w) (x := x) (e := x0 + n) (by omega) (by omega)
          refine G_iload hX 5 rfl d_Pl_extend_15 ?_
          refine G_aload_n hX 0 rfl rfl d_Pl_extend_17 ?_
          refine F_get hX fg_Pl_24 d_Pl_extend_18 22 (by decide) h44 rfl ?_
          refine G_idiv_z hX (by omega) d_Pl_extend_21 ?_
          refine G_istore hX (lv' := [(7, .int (zI (x / w))), (0, .ref (eA E 22)), (1, .int (zI 1)), (2, .int (zI x0)), (4, .int (zI a)), (5, .int (zI (x0 + n))), (6, .int (zI x))]) (by decide) rfl d_Pl_extend_22 ?_
          refine G_iload hX 5 rfl d_Pl_extend_24 ?_
          refine G_iload hX 0 rfl d_Pl_extend_26 ?_
          refine G_iconst hX d_Pl_extend_28 ?_
          refine G_iadd_z hX d_Pl_extend_29 ?_
          refine G_aload_n hX 1 rfl rfl d_Pl_extend_30 ?_
          refine F_get hX fg_Pl_24 d_Pl_extend_31 22 (by decide) h44 rfl ?_
          refine G_imul_z hX d_Pl_extend_34 ?_
          refine F_min hX ml_Pl_38 kw_st_Math kj_Math kw_min (by decide) (Nat.le_of_ble_eq_true rfl) (by omega) d_Pl_extend_35 ?_
          refine G_iload hX 6 rfl d_Pl_extend_38 ?_
          refine G_isub_z hX d_Pl_extend_40 ?_
          refine G_top (show zI ((if x0 + n ≤ ((x / w) + 1) * w then x0 + n else ((x / w) + 1) * w) - x) = zI (wpt w x (x0 + n)) from rfl) ?_
          refine G_istore hX (lv' := [(8, .int (zI (wpt w x (x0 + n)))), (7, .int (zI (x / w))), (0, .ref (eA E 22)), (1, .int (zI 1)), (2, .int (zI x0)), (4, .int (zI a)), (5, .int (zI (x0 + n))), (6, .int (zI x))]) (by decide) rfl d_Pl_extend_41 ?_
          refine G_iload_n hX 3 rfl rfl d_Pl_extend_43 ?_
          refine G_iconst hX d_Pl_extend_44 ?_
          refine G_icmp_ne_z hX (tgt := 58) d_Pl_extend_45 rfl (by omega) (fun c51 => ?_) (fun c52 => by exfalso; omega)
          refine G_iconst hX d_Pl_extend_58 ?_
          refine G_istore hX (lv' := [(9, .int (zI (-1))), (8, .int (zI (wpt w x (x0 + n)))), (7, .int (zI (x / w))), (0, .ref (eA E 22)), (1, .int (zI 1)), (2, .int (zI x0)), (4, .int (zI a)), (5, .int (zI (x0 + n))), (6, .int (zI x))]) (by decide) rfl d_Pl_extend_59 ?_
          refine G_aload_n hX 3 rfl rfl d_Pl_extend_61 ?_
          refine G_iload_n hX 4 rfl rfl d_Pl_extend_62 ?_
          refine G_iload hX 0 rfl d_Pl_extend_63 ?_
          refine G_iload hX 2 rfl d_Pl_extend_65 ?_
          refine F_callV hX (st := []) (c_Pl_goesOn E f40 Q md w s 1 (-1) (x / w) ⟨h44, h45, h46, h47, h48⟩ (by omega) hq4 (by omega) (by omega) (by omega)) cm_Pl_goesOn im_Pl_goesOn se_Pl_goesOn rfl ml_Pl_44 d_Pl_extend_67 (by decide) h44 rfl rfl (Nat.le_of_ble_eq_true rfl) (by decide) ?_
          rintro _ f53 ⟨rfl, e56⟩
          obtain rfl := e56.symm
          refine G_cast (st' := [.int (zI (if goP Q 1 (-1) (x / w) then 1 else 0))]) ?_ rfl rfl rfl rfl
          by_cases hgo : goP Q 1 (-1) (x / w)
          · skip
            refine G_top (show zI (if goP Q 1 (-1) (x / w) then 1 else 0) = zI 1 from by rw [if_pos hgo]) ?_
            refine G_if_eq_z hX (tgt := 92) d_Pl_extend_70 rfl (by omega) (fun c57 => by exfalso; omega) (fun c58 => ?_)
            refine G_aload_n hX 3 rfl rfl d_Pl_extend_73 ?_
            refine F_get hX fg_Pl_15 d_Pl_extend_74 22 (by decide) h44 rfl ?_
            refine G_aload_n hX 3 rfl rfl d_Pl_extend_77 ?_
            refine F_get hX fg_Pl_35 d_Pl_extend_78 22 (by decide) h44 rfl ?_
            refine G_iconst hX d_Pl_extend_81 ?_
            refine G_isub_z hX d_Pl_extend_82 ?_
            refine G_dup2 hX rfl rfl d_Pl_extend_83 ?_
            have hb8 := hq4 (pC Q - 1)
            refine F_iald hX d_Pl_extend_84 24 (by decide) h46 (by omega) ?_
            refine G_iload hX 1 rfl d_Pl_extend_85 ?_
            refine G_iadd_z hX d_Pl_extend_87 ?_
            refine F_iast hX d_Pl_extend_88 24 (by decide) h46 (by omega) (fun f59 h60 k61 => ?_)
            refine G_goto hX (tgt := 103) d_Pl_extend_89 rfl ?_
            refine G_iload hX 8 rfl d_Pl_extend_103 ?_
            refine G_iload hX 1 rfl d_Pl_extend_105 ?_
            refine G_iconst hX d_Pl_extend_107 ?_
            refine G_isub_z hX d_Pl_extend_108 ?_
            refine G_iadd_z hX d_Pl_extend_109 ?_
            refine G_istore hX (lv' := [(6, .int (zI (x + ((wpt w x (x0 + n)) - 1)))), (9, .int (zI (-1))), (8, .int (zI (wpt w x (x0 + n)))), (7, .int (zI (x / w))), (0, .ref (eA E 22)), (1, .int (zI 1)), (2, .int (zI x0)), (4, .int (zI a)), (5, .int (zI (x0 + n)))]) (by decide) rfl d_Pl_extend_110 ?_
            refine G_iinc_z hX (lv' := [(6, .int (zI ((x + ((wpt w x (x0 + n)) - 1)) + 1))), (9, .int (zI (-1))), (8, .int (zI (wpt w x (x0 + n)))), (7, .int (zI (x / w))), (0, .ref (eA E 22)), (1, .int (zI 1)), (2, .int (zI x0)), (4, .int (zI a)), (5, .int (zI (x0 + n)))]) 0 rfl (by decide) rfl d_Pl_extend_112 ?_
            refine G_goto hX (tgt := 8) d_Pl_extend_115 rfl ?_
            have hO2 := plOK_ext (t := 1) (n := wpt w x (x0 + n)) (a := -1) (w := x / w) (show plOK Q x from ⟨hq1, hq2, hq3, hq4⟩) (by omega) (by omega) (by omega) (by omega) (by omega) (by omega)
            have eP : plExt Q 1 (wpt w x (x0 + n)) (-1) (x / w) = (pT Q, uz (pS Q) (pC Q - 1) (pS Q (pC Q - 1) + wpt w x (x0 + n)), pA Q, pN Q, pC Q) := by unfold plExt; rw [if_pos hgo]
            have h62 : f59 22 = ob 4 [.ref (eA E 23), .ref (eA E 24), .ref (eA E 25), .ref (eA E 26), .int (zI md), .int (zI (pC Q)), .int (zI w), .int (zI s)] := (k61 22 (by decide)).trans h44
            have h63 : f59 23 = iz E 300 (pT Q) := (k61 23 (by decide)).trans h45
            have h64 : f59 25 = iz E 300 (pA Q) := (k61 25 (by decide)).trans h47
            have h65 : f59 26 = iz E 300 (pN Q) := (k61 26 (by decide)).trans h48
            refine G_loc (lv' := [(0, .ref (eA E 22)), (1, .int (zI 1)), (2, .int (zI x0)), (4, .int (zI a)), (5, .int (zI (x0 + n))), (6, .int (zI ((x + ((wpt w x (x0 + n)) - 1)) + 1)))]) [4, 5, 6, 7, 8, 0] rfl ?_
            refine G_cast (ih43 (x + wpt w x (x0 + n)) (plExt Q 1 (wpt w x (x0 + n)) (-1) (x / w)) (kk - 1) f59 (by omega) (by omega) hO2 (by omega) (by rw [hs, exL_go (by omega) hk, if_neg (by decide)]) (by rw [eP]; exact h62) (by rw [eP]; exact h63) (by rw [eP]; exact h60) (by rw [eP]; exact h64) (by rw [eP]; exact h65) (Fr.tr (Fr.tr Fr.rf k41 (by decide)) k61 (by decide))) rfl (by rw [show x + (wpt w x (x0 + n) - 1) + 1 = x + wpt w x (x0 + n) by omega]) rfl rfl
          · skip
            refine G_top (show zI (if goP Q 1 (-1) (x / w) then 1 else 0) = zI 0 from by rw [if_neg hgo]) ?_
            refine G_if_eq_z hX (tgt := 92) d_Pl_extend_70 rfl (by omega) (fun c66 => ?_) (fun c67 => by exfalso; omega)
            refine G_aload_n hX 3 rfl rfl d_Pl_extend_92 ?_
            refine G_iload_n hX 4 rfl rfl d_Pl_extend_93 ?_
            refine G_iload hX 1 rfl d_Pl_extend_94 ?_
            refine G_iload hX 0 rfl d_Pl_extend_96 ?_
            refine G_iload hX 2 rfl d_Pl_extend_98 ?_
            refine F_callV hX (st := []) (c_Pl_append E f40 Q md w s 1 (wpt w x (x0 + n)) (-1) (x / w) ⟨h44, h45, h46, h47, h48⟩ (by omega)) cm_Pl_append im_Pl_append se_Pl_append rfl ml_Pl_48 d_Pl_extend_100 (by decide) h44 rfl rfl (Nat.le_of_ble_eq_true rfl) (by decide) ?_
            rintro _ f68 ⟨rfl, ⟨h71, h72, h73, h74, h75⟩, k76⟩
            refine G_cast (st' := []) ?_ rfl rfl rfl rfl
            refine G_iload hX 8 rfl d_Pl_extend_103 ?_
            refine G_iload hX 1 rfl d_Pl_extend_105 ?_
            refine G_iconst hX d_Pl_extend_107 ?_
            refine G_isub_z hX d_Pl_extend_108 ?_
            refine G_iadd_z hX d_Pl_extend_109 ?_
            refine G_istore hX (lv' := [(6, .int (zI (x + ((wpt w x (x0 + n)) - 1)))), (9, .int (zI (-1))), (8, .int (zI (wpt w x (x0 + n)))), (7, .int (zI (x / w))), (0, .ref (eA E 22)), (1, .int (zI 1)), (2, .int (zI x0)), (4, .int (zI a)), (5, .int (zI (x0 + n)))]) (by decide) rfl d_Pl_extend_110 ?_
            refine G_iinc_z hX (lv' := [(6, .int (zI ((x + ((wpt w x (x0 + n)) - 1)) + 1))), (9, .int (zI (-1))), (8, .int (zI (wpt w x (x0 + n)))), (7, .int (zI (x / w))), (0, .ref (eA E 22)), (1, .int (zI 1)), (2, .int (zI x0)), (4, .int (zI a)), (5, .int (zI (x0 + n)))]) 0 rfl (by decide) rfl d_Pl_extend_112 ?_
            refine G_goto hX (tgt := 8) d_Pl_extend_115 rfl ?_
            have hO2 := plOK_ext (t := 1) (n := wpt w x (x0 + n)) (a := -1) (w := x / w) (show plOK Q x from ⟨hq1, hq2, hq3, hq4⟩) (by omega) (by omega) (by omega) (by omega) (by omega) (by omega)
            have eP : plExt Q 1 (wpt w x (x0 + n)) (-1) (x / w) = plApp Q 1 (wpt w x (x0 + n)) (-1) (x / w) := by unfold plExt; rw [if_neg hgo]
            refine G_loc (lv' := [(0, .ref (eA E 22)), (1, .int (zI 1)), (2, .int (zI x0)), (4, .int (zI a)), (5, .int (zI (x0 + n))), (6, .int (zI ((x + ((wpt w x (x0 + n)) - 1)) + 1)))]) [4, 5, 6, 7, 8, 0] rfl ?_
            refine G_cast (ih43 (x + wpt w x (x0 + n)) (plExt Q 1 (wpt w x (x0 + n)) (-1) (x / w)) (kk - 1) f68 (by omega) (by omega) hO2 (by omega) (by rw [hs, exL_go (by omega) hk, if_neg (by decide)]) (by rw [eP]; exact h71) (by rw [eP]; exact h72) (by rw [eP]; exact h73) (by rw [eP]; exact h74) (by rw [eP]; exact h75) (Fr.tr (Fr.tr Fr.rf k41 (by decide)) k76 (by decide))) rfl (by rw [show x + (wpt w x (x0 + n) - 1) + 1 = x + wpt w x (x0 + n) by omega]) rfl rfl
    refine G_loc (lv' := [(0, .ref (eA E 22)), (1, .int (zI 1)), (2, .int (zI x0)), (4, .int (zI a)), (5, .int (zI (x0 + n))), (6, .int (zI x0))]) [2, 3, 4, 6, 1, 0] rfl ?_
    exact loop39 (_ + 1) x0 P n.toNat f (Nat.lt_succ_self _) (by omega) hO (by omega) rfl hP.1 hP.2.1 hP.2.2.1 hP.2.2.2.1 hP.2.2.2.2 Fr.rf
