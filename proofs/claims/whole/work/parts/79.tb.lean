/-! the standard table of codes; printed by wip/tools/m_tb.py -/
def enN (g : Nat → Nat) (e t s m : Nat) : Nat → Nat := fun j => bif Nat.beq (j % 512) e then (bif Nat.blt j 512 then t else bif Nat.blt j 1024 then s else bif Nat.blt j 1536 then m else g j) else g j
def adN (g : Nat → Nat) : Nat → Nat → Nat
  | 0 => g
  | i + 1 => enN (adN g i) (1 + i) 1 i 0
def cpN (g : Nat → Nat) (d : Nat) : Nat → Nat → Nat
  | 0 => g
  | i + 1 => enN (cpN g d i) (19 + 16 * d + (4 + i) - 3) 3 (4 + i) d
def acN (g : Nat → Nat) (a c d : Nat) : Nat → Nat → Nat
  | 0 => g
  | i + 1 => enN (enN (acN g a c d i) (a + i) 1 (1 + i / c) 0) (256 + a + i) 3 (4 + i % c) d
def acC (d : Nat) : Nat := bif Nat.ble d 5 then 3 else 1
def acA (d : Nat) : Nat := bif Nat.ble d 5 then 163 + 12 * d else 235 + 4 * (d - 6)
def acG (g : Nat → Nat) (d : Nat) : Nat → Nat := acN g (acA d) (acC d) d (4 * acC d)
def moN (g : Nat → Nat) : Nat → Nat → Nat
  | 0 => g
  | d + 1 => enN (enN (acG (cpN (enN (moN g d) (19 + 16 * d) 3 0 d) d 15) d) (247 + d) 3 4 d) (503 + d) 1 1 0
def tbN : Nat → Nat := moN (adN (enN (fun _ => 0) 0 2 0 0) 18) 9
theorem enN_hi {g : Nat → Nat} {e t s m j : Nat} (h : 1536 ≤ j) : enN g e t s m j = g j := by
  unfold enN
  have h1 : Nat.blt j 512 = false := by rw [Bool.eq_false_iff, Ne, Nat.blt_eq]; omega
  have h2 : Nat.blt j 1024 = false := by rw [Bool.eq_false_iff, Ne, Nat.blt_eq]; omega
  have h3 : Nat.blt j 1536 = false := by rw [Bool.eq_false_iff, Ne, Nat.blt_eq]; omega
  rw [h1, h2, h3]
  cases Nat.beq (j % 512) e <;> rfl
theorem adN_hi {g : Nat → Nat} {j : Nat} (h : 1536 ≤ j) : ∀ i, adN g i j = g j
  | 0 => rfl
  | i + 1 => (enN_hi h).trans (adN_hi h i)
theorem cpN_hi {g : Nat → Nat} {d j : Nat} (h : 1536 ≤ j) : ∀ i, cpN g d i j = g j
  | 0 => rfl
  | i + 1 => (enN_hi h).trans (cpN_hi h i)
theorem acN_hi {g : Nat → Nat} {a c d j : Nat} (h : 1536 ≤ j) : ∀ i, acN g a c d i j = g j
  | 0 => rfl
  | i + 1 => (enN_hi h).trans ((enN_hi h).trans (acN_hi h i))
theorem moN_hi {g : Nat → Nat} {j : Nat} (h : 1536 ≤ j) : ∀ i, moN g i j = g j
  | 0 => rfl
  | i + 1 => (enN_hi h).trans ((enN_hi h).trans ((acN_hi h _).trans ((cpN_hi h _).trans ((enN_hi h).trans (moN_hi h i)))))
theorem tbN_hi {j : Nat} (h : 1536 ≤ j) : tbN j = 0 := (moN_hi h _).trans ((adN_hi h _).trans (enN_hi h))
theorem tbN_ok : (List.range 1536).all (fun j => decide (((tbN j : Nat) : Int) = stF (j : Int)) && Nat.blt (tbN j) 256 && (Nat.ble 512 j || Nat.ble (tbN j) 3)) = true := by decide +kernel
theorem tbN_at {j : Nat} (h : j < 1536) : ((tbN j : Nat) : Int) = stF (j : Int) ∧ tbN j < 256 ∧ (j < 512 → tbN j ≤ 3) := by
  have := List.all_eq_true.mp tbN_ok j (List.mem_range.mpr h)
  simp only [Bool.and_eq_true, decide_eq_true_eq, Nat.blt_eq, Bool.or_eq_true, Nat.ble_eq] at this
  exact ⟨this.1.1, this.1.2, fun h5 => by omega⟩
/-- the standard table, as a function of whole numbers -/
def stZ (x : Int) : Int := (tbN x.toNat : Nat)
theorem stZ_B (k : Int) : 0 ≤ stZ k ∧ stZ k < 256 := by
  unfold stZ
  by_cases h : k.toNat < 1536
  · have := (tbN_at h).2.1; omega
  · rw [tbN_hi (by omega)]; omega
theorem stZ_st {x : Int} (h0 : 0 ≤ x) (h1 : x < 1536) : stZ x = stF x := by
  unfold stZ
  rw [(tbN_at (by omega)).1, Int.toNat_of_nonneg h0]
theorem stZ_3 {x : Int} (h0 : 0 ≤ x) (h1 : x < 512) : stZ x ≤ 3 := by
  unfold stZ
  have := (tbN_at (j := x.toNat) (by omega)).2.2 (by omega); omega
def hN (g : Nat → Nat) : Nat → Int32 := fun j => zI ((g j : Nat) : Int)
def uN (g : Nat → Nat) (i v : Nat) : Nat → Nat := fun j => if j = i then v else g j
theorem hN_up {g : Nat → Nat} {x v : Int} {i w : Nat} (hx : x = i) (hv : v = w) (hi : i < 2000) : upd (hN g) (zI x).toNatClampNeg (zI v) = hN (uN g i w) := by
  subst hx; subst hv
  rw [zI_cl ⟨by omega, by omega⟩]
  funext j
  unfold upd hN uN
  rw [Int.toNat_natCast]
  by_cases h : j = i
  · rw [if_pos h, if_pos h]
  · rw [if_neg h, if_neg h]
theorem enN_eq {g : Nat → Nat} {e t s m : Nat} (he : e < 512) : uN (uN (uN g e t) (512 + e) s) (1024 + e) m = enN g e t s m := by
  funext j
  unfold uN enN
  by_cases h : j % 512 = e
  · rw [Nat.beq_eq.mpr h]
    by_cases h1 : j < 512
    · rw [Nat.blt_eq.mpr h1, if_neg (by omega), if_neg (by omega), if_pos (by omega)]; rfl
    · have e1 : Nat.blt j 512 = false := by rw [Bool.eq_false_iff, Ne, Nat.blt_eq]; omega
      by_cases h2 : j < 1024
      · rw [e1, Nat.blt_eq.mpr h2, if_neg (by omega), if_pos (by omega)]; rfl
      · have e2 : Nat.blt j 1024 = false := by rw [Bool.eq_false_iff, Ne, Nat.blt_eq]; omega
        by_cases h3 : j < 1536
        · rw [e1, e2, Nat.blt_eq.mpr h3, if_pos (by omega)]; rfl
        · have e3 : Nat.blt j 1536 = false := by rw [Bool.eq_false_iff, Ne, Nat.blt_eq]; omega
          rw [e1, e2, e3, if_neg (by omega), if_neg (by omega), if_neg (by omega)]; rfl
  · have e0 : Nat.beq (j % 512) e = false := by rw [Bool.eq_false_iff, Ne, Nat.beq_eq]; exact h
    rw [e0, if_neg (by omega), if_neg (by omega), if_neg (by omega)]; rfl
abbrev tW (E : EV) (ws0 : va_W) (r p : Nat) (c0 : Int32) (g : Nat → Nat) : va_W := ws0 ++ [(r, .inr (6, [.ref p, .int c0])), (p, .inl (eI E, 1536, .inl (hN g)))]
theorem G_aret (E : EV) {X : XT} {own nm : String} {cc : ByteArray} {nL : Nat} {cn : String} {rm : Room} {k n pc : Nat} {lv : List (Nat × Value)} {ws : va_W} (hX : Ok E X own nm cc nL (some (.object cn)) rm) {Qp : Option Value → va_W → Prop} (hE : En E X Qp k n) {x : Nat} (hd : decode cc pc = .ok (.areturn, 1)) (hq : Qp (some (.ref x)) ws) : G E X k n pc lv [.ref x] ws := by
  obtain ⟨p, l, e, R, s, m, args, below, meth, c, A, Q⟩ := X
  obtain ⟨hx, hb, hml, hown, hts, hr, hlo, hR, hK, hN, hT, hA, hnm⟩ := hX
  intro ls H locs hl hP hD hS
  have hE : Q = MQ below (QQ E A Qp) args s k n A := hE
  subst hE
  exact W.aret hx hb hr (Or.inl ⟨_, rfl⟩) (Or.inr ⟨_, rfl⟩) (fun t ht hW => ⟨⟨_, ws, rfl, hq, by rw [ht]; exact hP, hD⟩, hS.F ht⟩) hS.2.2 hd hlo
theorem i_enter (E : EV) (ws0 : va_W) (r p : Nat) (c0 : Int32) (g : Nat → Nat) {x t1 s1 m1 : Int} {e t s m : Nat} (hx : x = e) (ht : t1 = t) (hs : s1 = s) (hm : m1 = m) (he : e < 512) : Ct yn_Rd_enter cd_Rd_enter 5 none ({ frames := 0, cells := 0, slots := 0, locals := 0 } : Room) E [.ref r, .int (zI x), .int (zI t1), .int (zI s1), .int (zI m1)] (tW E ws0 r p c0 g) (fun q w9 => q = none ∧ w9 = tW E ws0 r p c0 (enN g e t s m)) := by
  refine Ct.of (by decide +kernel) (Nat.le_of_ble_eq_true rfl) fun X hX hE => ?_
  have hX : Ok E X "DeltaFerry$Reader" "enter" cd_Rd_enter 5 none ({ frames := 0, cells := 0, slots := 0, locals := 0 } : Room) := hX
  refine G_cast (lv' := [(0, .ref r), (1, .int (zI x)), (2, .int (zI t1)), (3, .int (zI s1)), (4, .int (zI m1))]) ?_ rfl rfl rfl rfl
  refine G_aload_n hX 0 rfl rfl d_Rd_enter_0 ?_
  refine G_get hX fg_Rd_62 d_Rd_enter_1 (ws0.length + 0) (ap_at rfl) rfl ?_
  refine G_iload_n hX 1 rfl rfl d_Rd_enter_4 ?_
  refine G_iload_n hX 2 rfl rfl d_Rd_enter_5 ?_
  refine G_iast hX d_Rd_enter_6 (ws0.length + 1) (ap_at rfl) (zI_in ⟨by omega, by omega, by omega⟩) ?_
  refine G_cast (ws' := tW E ws0 r p c0 (uN g e t)) ?_ rfl rfl rfl (by rw [ap_set, hN_up (i := e) (w := t) (by omega) ht (by omega)]; rfl)
  refine G_aload_n hX 0 rfl rfl d_Rd_enter_7 ?_
  refine G_get hX fg_Rd_62 d_Rd_enter_8 (ws0.length + 0) (ap_at rfl) rfl ?_
  refine G_sipush hX (by decide) d_Rd_enter_11 ?_
  refine G_iload_n hX 1 rfl rfl d_Rd_enter_14 ?_
  refine G_iadd_z hX d_Rd_enter_15 ?_
  refine G_iload_n hX 3 rfl rfl d_Rd_enter_16 ?_
  refine G_iast hX d_Rd_enter_17 (ws0.length + 1) (ap_at rfl) (zI_in ⟨by omega, by omega, by omega⟩) ?_
  refine G_cast (ws' := tW E ws0 r p c0 (uN (uN g e t) (512 + e) s)) ?_ rfl rfl rfl (by rw [ap_set, hN_up (i := 512 + e) (w := s) (by omega) hs (by omega)]; rfl)
  refine G_aload_n hX 0 rfl rfl d_Rd_enter_18 ?_
  refine G_get hX fg_Rd_62 d_Rd_enter_19 (ws0.length + 0) (ap_at rfl) rfl ?_
  refine G_sipush hX (by decide) d_Rd_enter_22 ?_
  refine G_iload_n hX 1 rfl rfl d_Rd_enter_25 ?_
  refine G_iadd_z hX d_Rd_enter_26 ?_
  refine G_iload hX 4 rfl d_Rd_enter_27 ?_
  refine G_iast hX d_Rd_enter_29 (ws0.length + 1) (ap_at rfl) (zI_in ⟨by omega, by omega, by omega⟩) ?_
  refine G_cast (ws' := tW E ws0 r p c0 (uN (uN (uN g e t) (512 + e) s) (1024 + e) m)) ?_ rfl rfl rfl (by rw [ap_set, hN_up (i := 1024 + e) (w := m) (by omega) hm (by omega)]; rfl)
  exact G_vret hX hE d_Rd_enter_30 ⟨rfl, by rw [enN_eq he]⟩
theorem i_copies (E : EV) (ws0 : va_W) (r p : Nat) (c0 : Int32) (g : Nat → Nat) {x : Int} {d : Nat} (hx : x = d) (hd : d ≤ 8) : Ct yn_Rd_enterAddCopies cd_Rd_enterAddCopies 5 none ({ frames := 1, cells := 0, slots := 0, locals := 40 } : Room) E [.ref r, .int (zI x)] (tW E ws0 r p c0 g) (fun q w9 => q = none ∧ w9 = tW E ws0 r p c0 (acG g d)) := by
  subst hx
  refine Ct.of (by decide +kernel) (Nat.le_of_ble_eq_true rfl) fun X hX hE => ?_
  have hX : Ok E X "DeltaFerry$Reader" "enterAddCopies" cd_Rd_enterAddCopies 5 none ({ frames := 1, cells := 0, slots := 0, locals := 40 } : Room) := hX
  have loop : ∀ (a c : Nat), 1 ≤ c → c ≤ 3 → a + 4 * c ≤ 256 → acN g a c d (4 * c) = acG g d → ∀ (k i : Nat), i + k = 4 * c → G E X 0 0 41 [(4, .int (zI ((i : Int)))), (3, .int (zI ((a : Int)))), (2, .int (zI ((c : Int)))), (0, .ref r), (1, .int (zI ((d : Int))))] [] (tW E ws0 r p c0 (acN g a c d i)) := by
    intro a c h1 h2 h3 h4 k
    induction k with
    | zero =>
      intro i hi
      have hi2 : i = 4 * c := hi
      refine G_iload hX 0 rfl d_Rd_enterAddCopies_41 ?_
      refine G_iconst hX d_Rd_enterAddCopies_43 ?_
      refine G_iload_n hX 2 rfl rfl d_Rd_enterAddCopies_44 ?_
      refine G_imul_z hX d_Rd_enterAddCopies_45 ?_
      refine G_icmp_ge_z hX (tgt := 91) d_Rd_enterAddCopies_46 rfl ⟨by omega, by omega, by omega, by omega⟩ (fun _ => ?_) (fun q => by exfalso; omega)
      exact G_vret hX hE d_Rd_enterAddCopies_91 ⟨rfl, by rw [hi2, h4]⟩
    | succ k ih =>
      intro i hi
      refine G_iload hX 0 rfl d_Rd_enterAddCopies_41 ?_
      refine G_iconst hX d_Rd_enterAddCopies_43 ?_
      refine G_iload_n hX 2 rfl rfl d_Rd_enterAddCopies_44 ?_
      refine G_imul_z hX d_Rd_enterAddCopies_45 ?_
      refine G_icmp_ge_z hX (tgt := 91) d_Rd_enterAddCopies_46 rfl ⟨by omega, by omega, by omega, by omega⟩ (fun q => by exfalso; omega) (fun _ => ?_)
      refine G_aload_n hX 3 rfl rfl d_Rd_enterAddCopies_49 ?_
      refine G_iload_n hX 1 rfl rfl d_Rd_enterAddCopies_50 ?_
      refine G_iload hX 0 rfl d_Rd_enterAddCopies_51 ?_
      refine G_iadd_z hX d_Rd_enterAddCopies_53 ?_
      refine G_iconst hX d_Rd_enterAddCopies_54 ?_
      refine G_iconst hX d_Rd_enterAddCopies_55 ?_
      refine G_iload hX 0 rfl d_Rd_enterAddCopies_56 ?_
      refine G_iload_n hX 2 rfl rfl d_Rd_enterAddCopies_58 ?_
      refine G_idiv_z hX ⟨by omega, by omega, by omega, by omega⟩ d_Rd_enterAddCopies_59 ?_
      refine G_iadd_z hX d_Rd_enterAddCopies_60 ?_
      refine G_iconst hX d_Rd_enterAddCopies_61 ?_
      refine G_callS hX (st := []) (i_enter E ws0 r p c0 (acN g a c d i) (x := (((a : Int)) + ((i : Int)))) (t1 := 1) (s1 := (1 + (((i : Int)) / ((c : Int))))) (m1 := 0) (e := (a + i)) (t := 1) (s := (1 + (i / c))) (m := 0) (by omega) (by omega) (by first | omega | (push_cast; rfl)) (by omega) (by omega)) cm_Rd_enter sm_Rd_enter ml_Rd_119 d_Rd_enterAddCopies_62 rfl rfl (Nat.le_of_ble_eq_true rfl) ⟨Nat.le_of_ble_eq_true rfl, Nat.le_of_ble_eq_true rfl⟩ ⟨Nat.le_of_ble_eq_true rfl, Nat.le_of_ble_eq_true rfl⟩ ?_
      rintro _ w9 ⟨rfl, rfl⟩
      refine G_cast (st' := []) (ws' := tW E ws0 r p c0 (enN (acN g a c d i) (a + i) 1 (1 + (i / c)) 0)) ?_ rfl rfl rfl rfl
      refine G_aload_n hX 3 rfl rfl d_Rd_enterAddCopies_65 ?_
      refine G_sipush hX (by decide) d_Rd_enterAddCopies_66 ?_
      refine G_iload_n hX 1 rfl rfl d_Rd_enterAddCopies_69 ?_
      refine G_iadd_z hX d_Rd_enterAddCopies_70 ?_
      refine G_iload hX 0 rfl d_Rd_enterAddCopies_71 ?_
      refine G_iadd_z hX d_Rd_enterAddCopies_73 ?_
      refine G_iconst hX d_Rd_enterAddCopies_74 ?_
      refine G_iconst hX d_Rd_enterAddCopies_75 ?_
      refine G_iload hX 0 rfl d_Rd_enterAddCopies_76 ?_
      refine G_iload_n hX 2 rfl rfl d_Rd_enterAddCopies_78 ?_
      refine G_irem_z hX ⟨by omega, by omega, by omega, by omega⟩ d_Rd_enterAddCopies_79 ?_
      refine G_iadd_z hX d_Rd_enterAddCopies_80 ?_
      refine G_iload_n hX 4 rfl rfl d_Rd_enterAddCopies_81 ?_
      refine G_callS hX (st := []) (i_enter E ws0 r p c0 (enN (acN g a c d i) (a + i) 1 (1 + (i / c)) 0) (x := ((256 + ((a : Int))) + ((i : Int)))) (t1 := 3) (s1 := (4 + (((i : Int)) % ((c : Int))))) (m1 := ((d : Int))) (e := ((256 + a) + i)) (t := 3) (s := (4 + (i % c))) (m := d) (by omega) (by omega) (by first | omega | (push_cast; rfl)) (by omega) (by omega)) cm_Rd_enter sm_Rd_enter ml_Rd_119 d_Rd_enterAddCopies_82 rfl rfl (Nat.le_of_ble_eq_true rfl) ⟨Nat.le_of_ble_eq_true rfl, Nat.le_of_ble_eq_true rfl⟩ ⟨Nat.le_of_ble_eq_true rfl, Nat.le_of_ble_eq_true rfl⟩ ?_
      rintro _ w9 ⟨rfl, rfl⟩
      refine G_cast (st' := []) (ws' := tW E ws0 r p c0 (enN (enN (acN g a c d i) (a + i) 1 (1 + (i / c)) 0) ((256 + a) + i) 3 (4 + (i % c)) d)) ?_ rfl rfl rfl rfl
      refine G_iinc_z hX (lv' := [(4, .int (zI (((i : Int)) + 1))), (3, .int (zI ((a : Int)))), (2, .int (zI ((c : Int)))), (0, .ref r), (1, .int (zI ((d : Int))))]) 0 rfl (by decide) rfl d_Rd_enterAddCopies_85 ?_
      refine G_goto hX (tgt := 41) d_Rd_enterAddCopies_88 rfl ?_
      exact ih (i + 1) (by omega)
  by_cases h5 : d ≤ 5
  · refine G_cast (lv' := [(0, .ref r), (1, .int (zI ((d : Int))))]) ?_ rfl rfl rfl rfl
    refine G_iload_n hX 1 rfl rfl d_Rd_enterAddCopies_0 ?_
    refine G_iconst hX d_Rd_enterAddCopies_1 ?_
    refine G_icmp_gt_z hX (tgt := 9) d_Rd_enterAddCopies_2 rfl ⟨by omega, by omega, by omega, by omega⟩ (fun q => by exfalso; omega) (fun _ => ?_)
    refine G_iconst hX d_Rd_enterAddCopies_5 ?_
    refine G_goto hX (tgt := 10) d_Rd_enterAddCopies_6 rfl ?_
    refine G_istore_n hX (lv' := [(2, .int (zI 3)), (0, .ref r), (1, .int (zI ((d : Int))))]) rfl (by decide) rfl d_Rd_enterAddCopies_10 ?_
    refine G_iload_n hX 2 rfl rfl d_Rd_enterAddCopies_11 ?_
    refine G_iconst hX d_Rd_enterAddCopies_12 ?_
    refine G_icmp_gt_z hX (tgt := 27) d_Rd_enterAddCopies_13 rfl ⟨by omega, by omega, by omega, by omega⟩ (fun q => by exfalso; omega) (fun _ => ?_)
    refine G_sipush hX (by decide) d_Rd_enterAddCopies_16 ?_
    refine G_bipush hX (by decide) d_Rd_enterAddCopies_19 ?_
    refine G_iload_n hX 2 rfl rfl d_Rd_enterAddCopies_21 ?_
    refine G_imul_z hX d_Rd_enterAddCopies_22 ?_
    refine G_iadd_z hX d_Rd_enterAddCopies_23 ?_
    refine G_goto hX (tgt := 37) d_Rd_enterAddCopies_24 rfl ?_
    refine G_istore_n hX (lv' := [(3, .int (zI (163 + (12 * ((d : Int)))))), (2, .int (zI 3)), (0, .ref r), (1, .int (zI ((d : Int))))]) rfl (by decide) rfl d_Rd_enterAddCopies_37 ?_
    refine G_iconst hX d_Rd_enterAddCopies_38 ?_
    refine G_istore hX (lv' := [(4, .int (zI 0)), (3, .int (zI (163 + (12 * ((d : Int)))))), (2, .int (zI 3)), (0, .ref r), (1, .int (zI ((d : Int))))]) (by decide) rfl d_Rd_enterAddCopies_39 ?_
    refine G_cast (ws' := tW E ws0 r p c0 (acN g (163 + 12 * d) 3 d 0)) (loop (163 + 12 * d) 3 (by omega) (by omega) (by omega) (by unfold acG acA acC; rw [Nat.ble_eq.mpr h5]; rfl) (4 * 3) 0 (by omega)) rfl ?_ rfl rfl
    rw [show ((163 + 12 * d : Nat) : Int) = 163 + (12 * ((d : Int))) by omega]; rfl
  · have hb5 : Nat.ble d 5 = false := by rw [Bool.eq_false_iff, Ne, Nat.ble_eq]; exact h5
    refine G_cast (lv' := [(0, .ref r), (1, .int (zI ((d : Int))))]) ?_ rfl rfl rfl rfl
    refine G_iload_n hX 1 rfl rfl d_Rd_enterAddCopies_0 ?_
    refine G_iconst hX d_Rd_enterAddCopies_1 ?_
    refine G_icmp_gt_z hX (tgt := 9) d_Rd_enterAddCopies_2 rfl ⟨by omega, by omega, by omega, by omega⟩ (fun _ => ?_) (fun q => by exfalso; omega)
    refine G_iconst hX d_Rd_enterAddCopies_9 ?_
    refine G_istore_n hX (lv' := [(2, .int (zI 1)), (0, .ref r), (1, .int (zI ((d : Int))))]) rfl (by decide) rfl d_Rd_enterAddCopies_10 ?_
    refine G_iload_n hX 2 rfl rfl d_Rd_enterAddCopies_11 ?_
    refine G_iconst hX d_Rd_enterAddCopies_12 ?_
    refine G_icmp_gt_z hX (tgt := 27) d_Rd_enterAddCopies_13 rfl ⟨by omega, by omega, by omega, by omega⟩ (fun _ => ?_) (fun q => by exfalso; omega)
    refine G_sipush hX (by decide) d_Rd_enterAddCopies_27 ?_
    refine G_iconst hX d_Rd_enterAddCopies_30 ?_
    refine G_iload_n hX 2 rfl rfl d_Rd_enterAddCopies_31 ?_
    refine G_bipush hX (by decide) d_Rd_enterAddCopies_32 ?_
    refine G_isub_z hX d_Rd_enterAddCopies_34 ?_
    refine G_imul_z hX d_Rd_enterAddCopies_35 ?_
    refine G_iadd_z hX d_Rd_enterAddCopies_36 ?_
    refine G_istore_n hX (lv' := [(3, .int (zI (235 + (4 * (((d : Int)) - 6))))), (2, .int (zI 1)), (0, .ref r), (1, .int (zI ((d : Int))))]) rfl (by decide) rfl d_Rd_enterAddCopies_37 ?_
    refine G_iconst hX d_Rd_enterAddCopies_38 ?_
    refine G_istore hX (lv' := [(4, .int (zI 0)), (3, .int (zI (235 + (4 * (((d : Int)) - 6))))), (2, .int (zI 1)), (0, .ref r), (1, .int (zI ((d : Int))))]) (by decide) rfl d_Rd_enterAddCopies_39 ?_
    refine G_cast (ws' := tW E ws0 r p c0 (acN g (235 + 4 * (d - 6)) 1 d 0)) (loop (235 + 4 * (d - 6)) 1 (by omega) (by omega) (by omega) (by unfold acG acA acC; rw [hb5]; rfl) (4 * 1) 0 (by omega)) rfl ?_ rfl rfl
    rw [show ((235 + 4 * (d - 6) : Nat) : Int) = 235 + (4 * (((d : Int)) - 6)) by omega]; rfl
theorem i_table (E : EV) (ws0 : va_W) : Ct yn_Rd_makeStandardTable cd_Rd_makeStandardTable 3 (some (.object "DeltaFerry$Row")) ({ frames := 2, cells := 2, slots := 1538, locals := 80 } : Room) E [] ws0 (fun q w9 => ∃ r p : Nat, q = some (.ref r) ∧ w9 = tW E ws0 r p (zI 1536) tbN) := by
  refine Ct.of (by decide +kernel) (Nat.le_of_ble_eq_true rfl) fun X hX hE => ?_
  have hX : Ok E X "DeltaFerry$Reader" "makeStandardTable" cd_Rd_makeStandardTable 3 (some (.object "DeltaFerry$Row")) ({ frames := 2, cells := 2, slots := 1538, locals := 80 } : Room) := hX
  refine G_cast (lv' := []) ?_ rfl rfl rfl rfl
  refine G_new hX (ci := 6) (fs := [.null, .int 0]) rfl in_Ro tk_Ro kl_Rd_9 ki_Ro kj_Ro df_Ro (by decide) d_Rd_makeStandardTable_0 (fun r => ?_)
  refine G_dup hX rfl d_Rd_makeStandardTable_3 ?_
  refine G_sipush hX (by decide) d_Rd_makeStandardTable_4 ?_
  refine G_callI hX (st := [.ref r]) (i_Ro_1536 E ws0 r) cm_Ro_init im_Ro_init rfl ml_Rd_11 d_Rd_makeStandardTable_7 rfl rfl (Nat.le_of_ble_eq_true rfl) ⟨Nat.le_of_ble_eq_true rfl, Nat.le_of_ble_eq_true rfl⟩ ⟨Nat.le_of_ble_eq_true rfl, Nat.le_of_ble_eq_true rfl⟩ ?_
  rintro _ w9 ⟨rfl, p, rfl⟩
  refine G_cast (st' := [.ref r]) (ws' := tW E ws0 r p 0 (fun _ => 0)) ?_ rfl rfl rfl rfl
  refine G_astore_n hX (lv' := [(0, .ref r)]) rfl (by decide) rfl d_Rd_makeStandardTable_10 ?_
  refine G_aload_n hX 0 rfl rfl d_Rd_makeStandardTable_11 ?_
  refine G_sipush hX (by decide) d_Rd_makeStandardTable_12 ?_
  refine G_put hX fg_Rd_66 fp_Ro_1 d_Rd_makeStandardTable_15 (ws0.length + 0) (ap_at rfl) rfl rfl (Nat.le_of_ble_eq_true rfl) ?_
  obtain ⟨c0, hc0⟩ : ∃ c0 : Int32, c0 = zI 1536 := ⟨_, rfl⟩
  refine G_cast (st' := []) (ws' := tW E ws0 r p c0 (fun _ => 0)) ?_ rfl rfl rfl (by rw [ap_set, hc0]; rfl)
  have copies : ∀ (d : Nat) (g : Nat → Nat), d ≤ 8 → ∀ (k i : Nat), i + k = 15 → G E X 2 1538 104 [(2, .int (zI 19)), (1, .int (zI (d : Int))), (0, .ref r)] [] (tW E ws0 r p c0 (cpN g d 15)) → G E X 2 1538 74 [(2, .int (zI (4 + (i : Int)))), (1, .int (zI (d : Int))), (0, .ref r)] [] (tW E ws0 r p c0 (cpN g d i)) := by
    intro d g hd k
    induction k with
    | zero =>
      intro i hi K
      have hi2 : i = 15 := hi
      subst hi2
      refine G_iload_n hX 0 rfl rfl d_Rd_makeStandardTable_74 ?_
      refine G_bipush hX (by decide) d_Rd_makeStandardTable_75 ?_
      refine G_icmp_gt_z hX (tgt := 104) d_Rd_makeStandardTable_77 rfl ⟨by omega, by omega, by omega, by omega⟩ (fun _ => K) (fun q => by exfalso; omega)
    | succ k ih =>
      intro i hi K
      refine G_iload_n hX 0 rfl rfl d_Rd_makeStandardTable_74 ?_
      refine G_bipush hX (by decide) d_Rd_makeStandardTable_75 ?_
      refine G_icmp_gt_z hX (tgt := 104) d_Rd_makeStandardTable_77 rfl ⟨by omega, by omega, by omega, by omega⟩ (fun q => by exfalso; omega) (fun _ => ?_)
      refine G_aload_n hX 2 rfl rfl d_Rd_makeStandardTable_80 ?_
      refine G_bipush hX (by decide) d_Rd_makeStandardTable_81 ?_
      refine G_bipush hX (by decide) d_Rd_makeStandardTable_83 ?_
      refine G_iload_n hX 1 rfl rfl d_Rd_makeStandardTable_85 ?_
      refine G_imul_z hX d_Rd_makeStandardTable_86 ?_
      refine G_iadd_z hX d_Rd_makeStandardTable_87 ?_
      refine G_iload_n hX 0 rfl rfl d_Rd_makeStandardTable_88 ?_
      refine G_iadd_z hX d_Rd_makeStandardTable_89 ?_
      refine G_iconst hX d_Rd_makeStandardTable_90 ?_
      refine G_isub_z hX d_Rd_makeStandardTable_91 ?_
      refine G_iconst hX d_Rd_makeStandardTable_92 ?_
      refine G_iload_n hX 0 rfl rfl d_Rd_makeStandardTable_93 ?_
      refine G_iload_n hX 1 rfl rfl d_Rd_makeStandardTable_94 ?_
      refine G_callS hX (st := []) (i_enter E ws0 r p c0 (cpN g d i) (x := (((19 + (16 * ((d : Int)))) + (4 + (i : Int))) - 3)) (t1 := 3) (s1 := (4 + (i : Int))) (m1 := ((d : Int))) (e := (((19 + (16 * d)) + (4 + i)) - 3)) (t := 3) (s := (4 + i)) (m := d) (by omega) (by omega) (by omega) (by omega) (by omega)) cm_Rd_enter sm_Rd_enter ml_Rd_119 d_Rd_makeStandardTable_95 rfl rfl (Nat.le_of_ble_eq_true rfl) ⟨Nat.le_of_ble_eq_true rfl, Nat.le_of_ble_eq_true rfl⟩ ⟨Nat.le_of_ble_eq_true rfl, Nat.le_of_ble_eq_true rfl⟩ ?_
      rintro _ w9 ⟨rfl, rfl⟩
      refine G_cast (st' := []) (ws' := tW E ws0 r p c0 (enN (cpN g d i) (((19 + (16 * d)) + (4 + i)) - 3) 3 (4 + i) d)) ?_ rfl rfl rfl rfl
      refine G_iinc_z hX (lv' := [(2, .int (zI ((4 + (i : Int)) + 1))), (1, .int (zI ((d : Int)))), (0, .ref r)]) 0 rfl (by decide) rfl d_Rd_makeStandardTable_98 ?_
      refine G_goto hX (tgt := 74) d_Rd_makeStandardTable_101 rfl ?_
      refine G_cast (lv' := [(2, .int (zI (4 + ((i + 1 : Nat) : Int)))), (1, .int (zI (d : Int))), (0, .ref r)]) (ih (i + 1) (by omega) K) rfl ?_ rfl rfl
      rw [show 4 + (i : Int) + 1 = 4 + ((i + 1 : Nat) : Int) by omega]
  have outer : ∀ (g : Nat → Nat), moN g 9 = tbN → ∀ (k d : Nat), d + k = 9 → ∀ lv2 : List (Nat × Value), (lv2 = [] ∨ lv2 = [(2, .int (zI 19))]) → G E X 2 1538 52 ((1, .int (zI (d : Int))) :: (lv2 ++ [(0, .ref r)])) [] (tW E ws0 r p c0 (moN g d)) := by
    intro g hg k
    induction k with
    | zero =>
      intro d hd lv2 _
      have hi2 : d = 9 := hd
      subst hi2
      refine G_iload_n hX 0 rfl rfl d_Rd_makeStandardTable_52 ?_
      refine G_bipush hX (by decide) d_Rd_makeStandardTable_53 ?_
      refine G_icmp_gt_z hX (tgt := 139) d_Rd_makeStandardTable_55 rfl ⟨by omega, by omega, by omega, by omega⟩ (fun _ => ?_) (fun q => by exfalso; omega)
      refine G_loc [lv2.length + 1] (lv' := [(0, .ref r)]) ?_ ?_
      · rcases ‹lv2 = [] ∨ lv2 = [(2, .int (zI 19))]› with rfl | rfl <;> rfl
      refine G_aload_n hX 0 rfl rfl d_Rd_makeStandardTable_139 ?_
      exact G_aret E hX hE d_Rd_makeStandardTable_140 ⟨r, p, rfl, by rw [hg, hc0]⟩
    | succ k ih =>
      intro d hd lv2 hlv
      refine G_iload_n hX 0 rfl rfl d_Rd_makeStandardTable_52 ?_
      refine G_bipush hX (by decide) d_Rd_makeStandardTable_53 ?_
      refine G_icmp_gt_z hX (tgt := 139) d_Rd_makeStandardTable_55 rfl ⟨by omega, by omega, by omega, by omega⟩ (fun q => by exfalso; omega) (fun _ => ?_)
      refine G_loc [0, lv2.length + 1] (lv' := [(1, .int (zI (d : Int))), (0, .ref r)]) ?_ ?_
      · rcases hlv with rfl | rfl <;> rfl
      refine G_aload_n hX 1 rfl rfl d_Rd_makeStandardTable_58 ?_
      refine G_bipush hX (by decide) d_Rd_makeStandardTable_59 ?_
      refine G_bipush hX (by decide) d_Rd_makeStandardTable_61 ?_
      refine G_iload_n hX 0 rfl rfl d_Rd_makeStandardTable_63 ?_
      refine G_imul_z hX d_Rd_makeStandardTable_64 ?_
      refine G_iadd_z hX d_Rd_makeStandardTable_65 ?_
      refine G_iconst hX d_Rd_makeStandardTable_66 ?_
      refine G_iconst hX d_Rd_makeStandardTable_67 ?_
      refine G_iload_n hX 0 rfl rfl d_Rd_makeStandardTable_68 ?_
      refine G_callS hX (st := []) (i_enter E ws0 r p c0 (moN g d) (x := (19 + (16 * ((d : Int))))) (t1 := 3) (s1 := 0) (m1 := ((d : Int))) (e := (19 + (16 * d))) (t := 3) (s := 0) (m := d) (by omega) (by omega) (by omega) (by omega) (by omega)) cm_Rd_enter sm_Rd_enter ml_Rd_119 d_Rd_makeStandardTable_69 rfl rfl (Nat.le_of_ble_eq_true rfl) ⟨Nat.le_of_ble_eq_true rfl, Nat.le_of_ble_eq_true rfl⟩ ⟨Nat.le_of_ble_eq_true rfl, Nat.le_of_ble_eq_true rfl⟩ ?_
      rintro _ w9 ⟨rfl, rfl⟩
      refine G_cast (st' := []) (ws' := tW E ws0 r p c0 (enN (moN g d) (19 + (16 * d)) 3 0 d)) ?_ rfl rfl rfl rfl
      refine G_iconst hX d_Rd_makeStandardTable_72 ?_
      refine G_istore_n hX (lv' := [(2, .int (zI 4)), (1, .int (zI ((d : Int)))), (0, .ref r)]) rfl (by decide) rfl d_Rd_makeStandardTable_73 ?_
      refine G_cast (lv' := [(2, .int (zI (4 + ((0 : Nat) : Int)))), (1, .int (zI (d : Int))), (0, .ref r)]) (ws' := tW E ws0 r p c0 (cpN (enN (moN g d) (19 + (16 * d)) 3 0 d) d 0)) (copies d _ (by omega) 15 0 (by omega) ?_) rfl rfl rfl rfl
      refine G_aload_n hX 2 rfl rfl d_Rd_makeStandardTable_104 ?_
      refine G_iload_n hX 1 rfl rfl d_Rd_makeStandardTable_105 ?_
      refine G_callS hX (st := []) (i_copies E ws0 r p c0 (cpN (enN (moN g d) (19 + (16 * d)) 3 0 d) d 15) (x := ((d : Int))) (d := d) rfl (by omega)) cm_Rd_enterAddCopies sm_Rd_enterAddCopies ml_Rd_123 d_Rd_makeStandardTable_106 rfl rfl (Nat.le_of_ble_eq_true rfl) ⟨Nat.le_of_ble_eq_true rfl, Nat.le_of_ble_eq_true rfl⟩ ⟨Nat.le_of_ble_eq_true rfl, Nat.le_of_ble_eq_true rfl⟩ ?_
      rintro _ w9 ⟨rfl, rfl⟩
      refine G_cast (st' := []) (ws' := tW E ws0 r p c0 (acG (cpN (enN (moN g d) (19 + (16 * d)) 3 0 d) d 15) d)) ?_ rfl rfl rfl rfl
      refine G_aload_n hX 2 rfl rfl d_Rd_makeStandardTable_109 ?_
      refine G_sipush hX (by decide) d_Rd_makeStandardTable_110 ?_
      refine G_iload_n hX 1 rfl rfl d_Rd_makeStandardTable_113 ?_
      refine G_iadd_z hX d_Rd_makeStandardTable_114 ?_
      refine G_iconst hX d_Rd_makeStandardTable_115 ?_
      refine G_iconst hX d_Rd_makeStandardTable_116 ?_
      refine G_iload_n hX 1 rfl rfl d_Rd_makeStandardTable_117 ?_
      refine G_callS hX (st := []) (i_enter E ws0 r p c0 (acG (cpN (enN (moN g d) (19 + (16 * d)) 3 0 d) d 15) d) (x := (247 + ((d : Int)))) (t1 := 3) (s1 := 4) (m1 := ((d : Int))) (e := (247 + d)) (t := 3) (s := 4) (m := d) (by omega) (by omega) (by omega) (by omega) (by omega)) cm_Rd_enter sm_Rd_enter ml_Rd_119 d_Rd_makeStandardTable_118 rfl rfl (Nat.le_of_ble_eq_true rfl) ⟨Nat.le_of_ble_eq_true rfl, Nat.le_of_ble_eq_true rfl⟩ ⟨Nat.le_of_ble_eq_true rfl, Nat.le_of_ble_eq_true rfl⟩ ?_
      rintro _ w9 ⟨rfl, rfl⟩
      refine G_cast (st' := []) (ws' := tW E ws0 r p c0 (enN (acG (cpN (enN (moN g d) (19 + (16 * d)) 3 0 d) d 15) d) (247 + d) 3 4 d)) ?_ rfl rfl rfl rfl
      refine G_aload_n hX 2 rfl rfl d_Rd_makeStandardTable_121 ?_
      refine G_sipush hX (by decide) d_Rd_makeStandardTable_122 ?_
      refine G_iload_n hX 1 rfl rfl d_Rd_makeStandardTable_125 ?_
      refine G_iadd_z hX d_Rd_makeStandardTable_126 ?_
      refine G_iconst hX d_Rd_makeStandardTable_127 ?_
      refine G_iconst hX d_Rd_makeStandardTable_128 ?_
      refine G_iconst hX d_Rd_makeStandardTable_129 ?_
      refine G_callS hX (st := []) (i_enter E ws0 r p c0 (enN (acG (cpN (enN (moN g d) (19 + (16 * d)) 3 0 d) d 15) d) (247 + d) 3 4 d) (x := (503 + ((d : Int)))) (t1 := 1) (s1 := 1) (m1 := 0) (e := (503 + d)) (t := 1) (s := 1) (m := 0) (by omega) (by omega) (by omega) (by omega) (by omega)) cm_Rd_enter sm_Rd_enter ml_Rd_119 d_Rd_makeStandardTable_130 rfl rfl (Nat.le_of_ble_eq_true rfl) ⟨Nat.le_of_ble_eq_true rfl, Nat.le_of_ble_eq_true rfl⟩ ⟨Nat.le_of_ble_eq_true rfl, Nat.le_of_ble_eq_true rfl⟩ ?_
      rintro _ w9 ⟨rfl, rfl⟩
      refine G_cast (st' := []) (ws' := tW E ws0 r p c0 (enN (enN (acG (cpN (enN (moN g d) (19 + (16 * d)) 3 0 d) d 15) d) (247 + d) 3 4 d) (503 + d) 1 1 0)) ?_ rfl rfl rfl rfl
      refine G_iinc_z hX (lv' := [(1, .int (zI (((d : Int)) + 1))), (2, .int (zI 19)), (0, .ref r)]) 1 rfl (by decide) rfl d_Rd_makeStandardTable_133 ?_
      refine G_goto hX (tgt := 52) d_Rd_makeStandardTable_136 rfl ?_
      refine G_cast (lv' := (1, .int (zI ((d + 1 : Nat) : Int))) :: ([(2, .int (zI 19))] ++ [(0, .ref r)])) (ws' := tW E ws0 r p c0 (moN g (d + 1))) (ih (d + 1) (by omega) _ (Or.inr rfl)) rfl rfl rfl rfl
  have adds : ∀ (g : Nat → Nat), moN (adN g 18) 9 = tbN → ∀ (k i : Nat), i + k = 18 → G E X 2 1538 28 [(1, .int (zI (i : Int))), (0, .ref r)] [] (tW E ws0 r p c0 (adN g i)) := by
    intro g hg k
    induction k with
    | zero =>
      intro i hi
      have hi2 : i = 18 := hi
      subst hi2
      refine G_iload_n hX 0 rfl rfl d_Rd_makeStandardTable_28 ?_
      refine G_bipush hX (by decide) d_Rd_makeStandardTable_29 ?_
      refine G_icmp_gt_z hX (tgt := 50) d_Rd_makeStandardTable_31 rfl ⟨by omega, by omega, by omega, by omega⟩ (fun _ => ?_) (fun q => by exfalso; omega)
      refine G_iconst hX d_Rd_makeStandardTable_50 ?_
      refine G_istore_n hX (lv' := [(1, .int (zI 0)), (0, .ref r)]) rfl (by decide) rfl d_Rd_makeStandardTable_51 ?_
      exact outer _ hg 9 0 (by omega) [] (Or.inl rfl)
    | succ k ih =>
      intro i hi
      refine G_iload_n hX 0 rfl rfl d_Rd_makeStandardTable_28 ?_
      refine G_bipush hX (by decide) d_Rd_makeStandardTable_29 ?_
      refine G_icmp_gt_z hX (tgt := 50) d_Rd_makeStandardTable_31 rfl ⟨by omega, by omega, by omega, by omega⟩ (fun q => by exfalso; omega) (fun _ => ?_)
      refine G_aload_n hX 1 rfl rfl d_Rd_makeStandardTable_34 ?_
      refine G_iconst hX d_Rd_makeStandardTable_35 ?_
      refine G_iload_n hX 0 rfl rfl d_Rd_makeStandardTable_36 ?_
      refine G_iadd_z hX d_Rd_makeStandardTable_37 ?_
      refine G_iconst hX d_Rd_makeStandardTable_38 ?_
      refine G_iload_n hX 0 rfl rfl d_Rd_makeStandardTable_39 ?_
      refine G_iconst hX d_Rd_makeStandardTable_40 ?_
      refine G_callS hX (st := []) (i_enter E ws0 r p c0 (adN g i) (x := (1 + ((i : Int)))) (t1 := 1) (s1 := ((i : Int))) (m1 := 0) (e := (1 + i)) (t := 1) (s := i) (m := 0) (by omega) (by omega) (by omega) (by omega) (by omega)) cm_Rd_enter sm_Rd_enter ml_Rd_119 d_Rd_makeStandardTable_41 rfl rfl (Nat.le_of_ble_eq_true rfl) ⟨Nat.le_of_ble_eq_true rfl, Nat.le_of_ble_eq_true rfl⟩ ⟨Nat.le_of_ble_eq_true rfl, Nat.le_of_ble_eq_true rfl⟩ ?_
      rintro _ w9 ⟨rfl, rfl⟩
      refine G_cast (st' := []) (ws' := tW E ws0 r p c0 (enN (adN g i) (1 + i) 1 i 0)) ?_ rfl rfl rfl rfl
      refine G_iinc_z hX (lv' := [(1, .int (zI (((i : Int)) + 1))), (0, .ref r)]) 0 rfl (by decide) rfl d_Rd_makeStandardTable_44 ?_
      refine G_goto hX (tgt := 28) d_Rd_makeStandardTable_47 rfl ?_
      exact ih (i + 1) (by omega)
  refine G_aload_n hX 0 rfl rfl d_Rd_makeStandardTable_18 ?_
  refine G_iconst hX d_Rd_makeStandardTable_19 ?_
  refine G_iconst hX d_Rd_makeStandardTable_20 ?_
  refine G_iconst hX d_Rd_makeStandardTable_21 ?_
  refine G_iconst hX d_Rd_makeStandardTable_22 ?_
  refine G_callS hX (st := []) (i_enter E ws0 r p c0 (fun _ => 0) (x := 0) (t1 := 2) (s1 := 0) (m1 := 0) (e := 0) (t := 2) (s := 0) (m := 0) (by omega) (by omega) (by omega) (by omega) (by omega)) cm_Rd_enter sm_Rd_enter ml_Rd_119 d_Rd_makeStandardTable_23 rfl rfl (Nat.le_of_ble_eq_true rfl) ⟨Nat.le_of_ble_eq_true rfl, Nat.le_of_ble_eq_true rfl⟩ ⟨Nat.le_of_ble_eq_true rfl, Nat.le_of_ble_eq_true rfl⟩ ?_
  rintro _ w9 ⟨rfl, rfl⟩
  refine G_cast (st' := []) (ws' := tW E ws0 r p c0 (enN (fun _ => 0) 0 2 0 0)) ?_ rfl rfl rfl rfl
  refine G_iconst hX d_Rd_makeStandardTable_26 ?_
  refine G_istore_n hX (lv' := [(1, .int (zI 0)), (0, .ref r)]) rfl (by decide) rfl d_Rd_makeStandardTable_27 ?_
  exact adds _ rfl 18 0 (by omega)
