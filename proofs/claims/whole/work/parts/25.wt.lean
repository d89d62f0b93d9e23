/-! Writer.writeWindow: printed by wip/tools/m_wt4.py -/
/-- a plan that tiles the c bytes of NEW, window by window -/
def plW (P : PS) (w c : Int) : Prop := (0 ≤ pC P ∧ pC P ≤ 300) ∧ psI P (pC P) = c ∧ ∀ i, 0 ≤ i → i < pC P → 1 ≤ pS P i ∧ pN P i * w ≤ psI P i ∧ psI P (i + 1) ≤ (pN P i + 1) * w ∧ (1 ≤ pT P i ∧ pT P i ≤ 3) ∧ (pT P i = 3 → 0 ≤ pA P i ∧ pA P i ≤ 700)
theorem psI_mono {P : PS} {w c : Int} (h : plW P w c) : ∀ (k : Nat) (i : Int), 0 ≤ i → i + k ≤ pC P → psI P i + k ≤ psI P (i + k) := by
  intro k
  induction k with
  | zero => intro i _ _; simp
  | succ k ih =>
    intro i h1 h2
    have h3 := ih i h1 (by omega)
    have h4 := h.2.2 (i + k) (by omega) (by omega)
    have h5 := psI_s (P := P) (i := i + k) (by omega)
    rw [show i + ((k + 1 : Nat) : Int) = i + (k : Int) + 1 by omega]
    omega
theorem psI_le {P : PS} {w c i j : Int} (h : plW P w c) (h1 : 0 ≤ i) (h2 : i ≤ j) (h3 : j ≤ pC P) : psI P i + (j - i) ≤ psI P j := by
  have := psI_mono h (j - i).toNat i h1 (by omega)
  rw [show i + ((j - i).toNat : Int) = j by omega] at this
  omega
/-- where the instructions of window num, which begin at a, end -/
def wnE (P : PS) (num a : Int) : Int := cntF (fun i => decide (pN P i = num)) (pC P) a
theorem wnE_b {P : PS} {num a : Int} (h : a ≤ pC P) : a ≤ wnE P num a ∧ wnE P num a ≤ pC P := cnt_b h
theorem cnt_all {p : Int → Bool} {B : Int} : ∀ (k : Nat) (r : Int), B - r = k → ∀ i, r ≤ i → i < cntF p B r → p i = true := by
  intro k
  induction k with
  | zero =>
    intro r hr i h1 h2
    rw [cnt_stop (Or.inr (by omega))] at h2
    omega
  | succ k ih =>
    intro r hr i h1 h2
    by_cases hp : p r = true
    · by_cases hi : i = r
      · rw [hi]; exact hp
      · rw [cnt_go (by omega) hp] at h2
        exact ih (r + 1) (by omega) i (by omega) h2
    · have hf : p r = false := by cases h : p r <;> simp_all
      rw [cnt_stop (Or.inl hf)] at h2
      omega
theorem wnE_in {P : PS} {num a i : Int} (h : a ≤ pC P) (h1 : a ≤ i) (h2 : i < wnE P num a) : pN P i = num :=
  of_decide_eq_true (cnt_all (p := fun i => decide (pN P i = num)) (B := pC P) (pC P - a).toNat a (by omega) i h1 h2)
theorem wnOK_of {P : PS} {w c num a : Int} (h : plW P w c) (hw : 16 ≤ w ∧ w ≤ 256) (hc : c ≤ 300) (ha : 0 ≤ a ∧ a ≤ pC P) (hx : num * w = psI P a) (h0 : 0 ≤ num * w) : wnOK P a (wnE P num a) (num * w) c := by
  have hb := wnE_b (P := P) (num := num) ha.2
  have hcc := h.1
  have hle := psI_le h ha.1 ha.2 (Int.le_refl _)
  rw [h.2.1] at hle
  refine ⟨⟨ha.1, hb.1, by omega⟩, ⟨hx, h0, by omega, hc⟩, fun i h1 h2 => ?_⟩
  have h3 := h.2.2 i (by omega) (by omega)
  have h4 := wnE_in ha.2 h1 h2
  have h5 := psI_le h (show 0 ≤ i + 1 by omega) (show i + 1 ≤ pC P by omega) (Int.le_refl _)
  rw [h.2.1] at h5
  rw [h4] at h3
  have h6 : (num + 1) * w = num * w + w := by rw [Int.add_mul, Int.one_mul]
  refine ⟨h3.1, by omega, by omega, h3.2.2.2.1, h3.2.2.2.2⟩
theorem mdI_b {P : PS} {a so i : Int} (h : 0 ≤ pA P i) : 0 ≤ mdI P a so i ∧ mdI P a so i ≤ 8 := by
  have := mdF_b (nr := (arI P a i).1) (sm := (arI P a i).2.1) (N := 4) (S := 3) (ad := pA P i) (here := so + psI P i - psI P a) ⟨h, by decide, by decide⟩
  rw [if_neg (by decide)] at this
  unfold mdI
  omega
theorem c2F_c {P : PS} {m1 m2 : Int → Int} {i : Int} (h1 : pT P i = 3 → m1 i = m2 i) (h2 : pT P (i + 1) = 3 → m1 (i + 1) = m2 (i + 1)) : c2F P m1 i = c2F P m2 i := by
  unfold c2F
  by_cases h3 : pT P i = 1 ∧ pT P (i + 1) = 3 ∧ pS P i ≤ 4
  · rw [if_pos h3, if_pos h3, h2 h3.2.1]
  · rw [if_neg h3, if_neg h3]
    by_cases h4 : pT P i = 3 ∧ pS P i = 4 ∧ pT P (i + 1) = 1 ∧ pS P (i + 1) = 1
    · rw [if_pos h4, if_pos h4, h1 h4.1]
    · rw [if_neg h4, if_neg h4]
theorem c1L_c {t n m1 m2 : Int} (ht : 1 ≤ t ∧ t ≤ 3) (h : t = 3 → m1 = m2) : c1L t n m1 = c1L t n m2 := by
  by_cases h3 : t = 3
  · rw [h h3]
  · have hn : ¬ (t = 3 ∧ 4 ≤ n ∧ n ≤ 18) := fun q => h3 q.1
    have hv : (if t = 2 then 0 else if t = 1 then 1 else 19 + 16 * m1) = (if t = 2 then 0 else if t = 1 then 1 else 19 + 16 * m2) := by
      by_cases h2 : t = 2
      · rw [if_pos h2, if_pos h2]
      · have h1 : t = 1 := by omega
        rw [if_neg h2, if_neg h2, if_pos h1, if_pos h1]
    unfold c1L
    rw [if_neg hn, if_neg hn, hv]
theorem cdL_c {P : PS} {m1 m2 : Int → Int} {a b : Int} (hT : ∀ i, a ≤ i → i < b → 1 ≤ pT P i ∧ pT P i ≤ 3) (h : ∀ i, a ≤ i → i < b → pT P i = 3 → m1 i = m2 i) : ∀ (k : Nat) (i : Int), a ≤ i → cdL P m1 b k i = cdL P m2 b k i := by
  intro k
  induction k with
  | zero => intro i _; rfl
  | succ k ih =>
    intro i hi
    simp only [cdL]
    by_cases h1 : i < b
    · rw [if_pos h1, if_pos h1]
      have e1 := c1L_c (n := pS P i) (hT i hi h1) (h i hi h1)
      by_cases h2 : i + 1 < b
      · have e2 := c2F_c (P := P) (h i hi h1) (h (i + 1) (by omega) h2)
        rw [e2, e1, ih (i + 2) (by omega), ih (i + 1) (by omega)]
      · rw [if_neg (fun q => h2 q.1), if_neg (fun q => h2 q.1), e1, ih (i + 1) (by omega)]
    · rw [if_neg h1, if_neg h1]
theorem da_len {P : PS} {g : Int → Int} {a b x c s : Int} (h : wnOK P a b x c) : ∀ (k : Nat) (i : Int), a ≤ i → i + k = b → ((gdL P g k i).length : Int) + (adL P a s k i).length ≤ 2 * (psI P b - psI P i) := by
  intro k
  induction k with
  | zero => intro i _ h2; simp only [gdL, adL, List.length_nil]; rw [show i = b by omega]; omega
  | succ k ih =>
    intro i h1 h2
    have h0 := h.1
    have h3 := ih (i + 1) (by omega) (by omega)
    have h4 := h.2.2 i h1 (by omega)
    have h5 := psI_s (P := P) (i := i) (by omega)
    have h6 : ((gdI P g i (psI P i)).length : Int) + (adI P a s i).length ≤ 2 * pS P i := by
      unfold gdI adI
      by_cases t1 : pT P i = 1
      · rw [if_pos t1, if_neg (by omega), sl_len]
        simp only [List.length_nil]
        omega
      · by_cases t2 : pT P i = 2
        · rw [if_neg t1, if_pos t2, if_neg (by omega)]
          simp only [List.length_nil, List.length_cons]
          omega
        · have t3 : pT P i = 3 := by omega
          have h7 := h4.2.2.2.2 t3
          have h8 := tlW_b (nr := (arI P a i).1) (sm := (arI P a i).2.1) (N := 4) (S := 3) (ad := pA P i) (here := s + psI P i - psI P a) ⟨h7.1, by decide, by decide, by omega⟩
          rw [if_neg t1, if_neg t2, if_pos t3, lst_len]
          simp only [List.length_nil]
          omega
    simp only [gdL, adL, List.length_append]
    omega
/-- the bytes of one window of the delta -/
def wnL (P : PS) (w s : Int) (g : Int → Int) (c num a ck : Int) : List Int :=
  wsL s ck ++ (nbL (((hdL (if w ≤ c - num * w then w else c - num * w) ck (adV g (num * w) (if w ≤ c - num * w then w else c - num * w)) ((gdL P g (wnE P num a - a).toNat a).length) ((cdL P (mdI P a s) (wnE P num a) (wnE P num a - a).toNat a).length) ((adL P a s (wnE P num a - a).toNat a).length)).length : Int) + (gdL P g (wnE P num a - a).toNat a).length + (cdL P (mdI P a s) (wnE P num a) (wnE P num a - a).toNat a).length + (adL P a s (wnE P num a - a).toNat a).length)
    ++ (hdL (if w ≤ c - num * w then w else c - num * w) ck (adV g (num * w) (if w ≤ c - num * w then w else c - num * w)) ((gdL P g (wnE P num a - a).toNat a).length) ((cdL P (mdI P a s) (wnE P num a) (wnE P num a - a).toNat a).length) ((adL P a s (wnE P num a - a).toNat a).length)
    ++ (gdL P g (wnE P num a - a).toNat a ++ (cdL P (mdI P a s) (wnE P num a) (wnE P num a - a).toNat a ++ adL P a s (wnE P num a - a).toNat a))))
theorem hdL_len {sz ck v cd cc ca : Int} (h : sz < 16384 ∧ cd < 16384 ∧ cc < 16384 ∧ ca < 16384) : ((hdL sz ck v cd cc ca).length : Int) ≤ 13 := by
  have h1 := nbL_len sz
  have h2 := nbL_len cd
  have h3 := nbL_len cc
  have h4 := nbL_len ca
  have g1 := wid_2 h.1
  have g2 := wid_2 h.2.1
  have g3 := wid_2 h.2.2.1
  have g4 := wid_2 h.2.2.2
  unfold hdL
  by_cases hk : ck = 0
  · rw [if_pos hk]; simp only [List.length_append, List.length_cons, List.length_nil]; omega
  · rw [if_neg hk]; simp only [List.length_append, List.length_cons, List.length_nil]; omega
theorem wsL_len {so ck : Int} (h : so < 16384) : ((wsL so ck).length : Int) ≤ 4 := by
  have h1 := nbL_len so
  have h2 := wid_2 h
  have h3 : ((nbL 0).length : Int) = 1 := by rw [nbL_len]; rfl
  unfold wsL
  by_cases hs : 0 < so
  · simp only [if_pos hs, List.length_append, List.length_cons, List.length_nil]; omega
  · simp only [if_neg hs, List.length_append, List.length_cons, List.length_nil]; omega
def wtS (E : EV) (f : Nat → va_E) : Prop := ∃ (g1 : Int → Int) (c1 : Int) (g2 : Int → Int) (c2 : Int) (g3 : Int → Int) (c3 : Int) (g4 : Int → Int) (c4 : Int) (m nr sm : Int → Int) (N S T : Int), isR E f 32 33 20 g1 c1 ∧ isR E f 34 35 256 g2 c2 ∧ isR E f 36 37 768 g3 c3 ∧ isR E f 38 39 512 g4 c4 ∧ f 40 = iz E 300 m ∧ isA E f 41 42 43 nr sm N S T
theorem wnE_st {P : PS} {num a : Int} (h : a ≤ pC P) : wnE P num a = pC P ∨ pN P (wnE P num a) ≠ num := by
  have key : ∀ (k : Nat) (r : Int), pC P - r = k → cntF (fun i => decide (pN P i = num)) (pC P) r = pC P ∨ pN P (cntF (fun i => decide (pN P i = num)) (pC P) r) ≠ num := by
    intro k
    induction k with
    | zero => intro r hr; rw [cnt_stop (Or.inr (by omega))]; left; omega
    | succ k ih =>
      intro r hr
      by_cases hp : pN P r = num
      · rw [cnt_go (by omega) (decide_eq_true hp)]
        exact ih (r + 1) (by omega)
      · rw [cnt_stop (Or.inl (decide_eq_false hp))]
        exact Or.inr hp
  exact key (pC P - a).toNat a (by omega)
/-- the window's instructions make its bytes, all of them -/
theorem wnOK_sz {P : PS} {w c num a : Int} (h : plW P w c) (hw : 16 ≤ w ∧ w ≤ 256) (hc : c ≤ 300) (ha : 0 ≤ a ∧ a ≤ pC P) (hx : num * w = psI P a) (hn : num * w < c) : psI P (wnE P num a) = num * w + (if w ≤ c - num * w then w else c - num * w) := by
  have hb := wnE_b (P := P) (num := num) ha.2
  have h6 : (num + 1) * w = num * w + w := by rw [Int.add_mul, Int.one_mul]
  have hmx : psI P (wnE P num a) ≤ num * w + w := by
    by_cases hab : a = wnE P num a
    · rw [← hab, ← hx]; omega
    · have h3 := h.2.2 (wnE P num a - 1) (by omega) (by omega)
      rw [show wnE P num a - 1 + 1 = wnE P num a by omega, wnE_in (num := num) ha.2 (show a ≤ wnE P num a - 1 by omega) (by omega)] at h3
      omega
  have hle := psI_le h (show 0 ≤ wnE P num a by omega) hb.2 (Int.le_refl _)
  rw [h.2.1] at hle
  rcases wnE_st (P := P) (num := num) ha.2 with e | e
  · rw [e] at hmx ⊢
    rw [h.2.1] at hmx ⊢
    split <;> omega
  · by_cases hE : wnE P num a = pC P
    · rw [hE] at hmx ⊢
      rw [h.2.1] at hmx ⊢
      split <;> omega
    · have h3 := h.2.2 (wnE P num a) (by omega) (by omega)
      have h5 := psI_s (P := P) (i := wnE P num a) (by omega)
      have h7 := psI_le h ha.1 hb.1 hb.2
      have h8 : pN P (wnE P num a) < num ∨ num < pN P (wnE P num a) := by omega
      rcases h8 with h8 | h8
      · have h9 : (pN P (wnE P num a) + 1) * w ≤ num * w := Int.mul_le_mul_of_nonneg_right (by omega) (by omega)
        omega
      · have h9 : (num + 1) * w ≤ pN P (wnE P num a) * w := Int.mul_le_mul_of_nonneg_right (by omega) (by omega)
        split <;> omega
theorem c_Wt_writeWindow (E : EV) (f : Nat → va_E) (P : PS) (md w s : Int) (g go : Int → Int) (c co num a ck : Int) (Lo : List Int) (hT : isWt E f a) (hP : isPl E f P md w s) (hB : plB P) (hR : isR E f 4 5 300 g c) (hg : isB g) (hO : isR E f 30 31 1885 go co) (hLo : rep go co Lo) (hS0 : wtS E f) (hW : plW P w c) (hw : 16 ≤ w ∧ w ≤ 256) (hc : 0 ≤ c ∧ c ≤ 300) (ha : 0 ≤ a ∧ a ≤ pC P) (hx : num * w = psI P a) (hn : 0 ≤ num ∧ num ≤ 300 ∧ num * w < c) (hso : 0 ≤ s ∧ s ≤ 300) (hco : co + 5 * (if w ≤ c - num * w then w else c - num * w) + 20 ≤ 1885) (hck : ck = 0 ∨ ck = 1) : CF yn_Wt_writeWindow cd_Wt_writeWindow 8 none 4 E [.ref (eA E 29), .ref (eA E 22), .ref (eA E 4), .int (zI num), .int (zI ck)] f (fun r f' => r = none ∧ isWt E f' (wnE P num a) ∧ wtS E f' ∧ (∃ go' co', isR E f' 30 31 1885 go' co' ∧ rep go' co' (Lo ++ wnL P w s g c num a ck) ∧ co' ≤ co + 5 * (if w ≤ c - num * w then w else c - num * w) + 20) ∧ Fr [29, 30, 31, 32, 33, 34, 35, 36, 37, 38, 39, 40, 41, 42, 43] f f') := by
  refine CF.of (by decide +kernel) (Nat.le_of_ble_eq_true rfl) fun X hX hE => ?_
  have hX : Ok E X "DeltaFerry$Writer" "writeWindow" cd_Wt_writeWindow 8 none (rl 4) := hX
  refine G_cast (lv' := [(0, .ref (eA E 29)), (1, .ref (eA E 22)), (2, .ref (eA E 4)), (3, .int (zI num)), (4, .int (zI ck))]) ?_ rfl rfl rfl rfl
  obtain ⟨g1, c1, g2, c2, g3, c3, g4, c4, m, nr, sm, N, S, T, hS1, hS2, hS3, hS4, hS5, hS6⟩ := hS0
  have hx0 : 0 ≤ num * w := Int.mul_nonneg hn.1 (by omega)
  have hwo := wnOK_of hW hw hc.2 ha hx hx0
  have hE9 := wnE_b (P := P) (num := num) ha.2
  have hWc := hW.1
  have hco0 := hLo.1
  refine G_iload_n hX 3 rfl rfl d_Wt_writeWindow_0 ?_
  refine G_aload_n hX 1 rfl rfl d_Wt_writeWindow_1 ?_
  refine F_get hX fg_Wt_53 d_Wt_writeWindow_2 22 (by decide) hP.1 rfl ?_
  refine G_imul_z hX d_Wt_writeWindow_5 ?_
  refine G_istore hX (lv' := [(5, .int (zI (num * w))), (0, .ref (eA E 29)), (1, .ref (eA E 22)), (2, .ref (eA E 4)), (3, .int (zI num)), (4, .int (zI ck))]) (by decide) rfl d_Wt_writeWindow_6 ?_
  refine G_aload_n hX 2 rfl rfl d_Wt_writeWindow_8 ?_
  refine F_get hX fg_Wt_53 d_Wt_writeWindow_9 22 (by decide) hP.1 rfl ?_
  refine G_aload_n hX 3 rfl rfl d_Wt_writeWindow_12 ?_
  refine F_get hX fg_Wt_47 d_Wt_writeWindow_13 4 (by decide) hR.1 rfl ?_
  refine G_iload hX 0 rfl d_Wt_writeWindow_16 ?_
  refine G_isub_z hX d_Wt_writeWindow_18 ?_
  refine F_min hX ml_Wt_58 kw_st_Math kj_Math kw_min (by decide) (Nat.le_of_ble_eq_true rfl) (by omega) d_Wt_writeWindow_19 ?_
  generalize hsz : (if w ≤ c - num * w then w else c - num * w) = sz at *
  have hsz2 : 0 ≤ sz ∧ sz ≤ 256 ∧ num * w + sz ≤ c := by rw [← hsz]; split <;> omega
  refine G_istore hX (lv' := [(6, .int (zI sz)), (5, .int (zI (num * w))), (0, .ref (eA E 29)), (1, .ref (eA E 22)), (2, .ref (eA E 4)), (3, .int (zI num)), (4, .int (zI ck))]) (by decide) rfl d_Wt_writeWindow_22 ?_
  refine G_aload_n hX 2 rfl rfl d_Wt_writeWindow_24 ?_
  refine F_get hX fg_Wt_43 d_Wt_writeWindow_25 29 (by decide) hT rfl ?_
  refine G_istore hX (lv' := [(7, .int (zI a)), (6, .int (zI sz)), (5, .int (zI (num * w))), (0, .ref (eA E 29)), (1, .ref (eA E 22)), (2, .ref (eA E 4)), (3, .int (zI num)), (4, .int (zI ck))]) (by decide) rfl d_Wt_writeWindow_28 ?_
  have join4 : ∀ (f5 : Nat → va_E), f5 29 = ob 10 [.ref (eA E 30), .ref (eA E 32), .ref (eA E 34), .ref (eA E 36), .ref (eA E 38), .ref (eA E 40), .ref (eA E 41), .int (zI (wnE P num a))] → Fr [29] f f5 → G E X 0 0 67 [(0, .ref (eA E 29)), (1, .ref (eA E 22)), (2, .ref (eA E 4)), (3, .int (zI num)), (4, .int (zI ck)), (5, .int (zI (num * w))), (6, .int (zI sz)), (7, .int (zI a))] [] (wl E f5) := by
    intro f5 h7 k6
    refine G_aload_n hX 0 rfl rfl d_Wt_writeWindow_67 ?_
    refine G_aload_n hX 1 rfl rfl d_Wt_writeWindow_68 ?_
    refine G_aload_n hX 2 rfl rfl d_Wt_writeWindow_69 ?_
    refine G_iload hX 7 rfl d_Wt_writeWindow_70 ?_
    refine G_iload hX 5 rfl d_Wt_writeWindow_72 ?_
    have h8 : f5 22 = ob 4 [.ref (eA E 23), .ref (eA E 24), .ref (eA E 25), .ref (eA E 26), .int (zI md), .int (zI (pC P)), .int (zI w), .int (zI s)] := (k6 22 (by decide)).trans hP.1
    have h9 : f5 23 = iz E 300 (pT P) := (k6 23 (by decide)).trans hP.2.1
    have h10 : f5 24 = iz E 300 (pS P) := (k6 24 (by decide)).trans hP.2.2.1
    have h11 : f5 25 = iz E 300 (pA P) := (k6 25 (by decide)).trans hP.2.2.2.1
    have h12 : f5 26 = iz E 300 (pN P) := (k6 26 (by decide)).trans hP.2.2.2.2
    have h13 : f5 34 = ob 6 [.ref (eA E 35), .int (zI c2)] := (k6 34 (by decide)).trans hS2.1
    have h14 : f5 35 = iz E 256 g2 := (k6 35 (by decide)).trans hS2.2
    have h15 : f5 4 = ob 6 [.ref (eA E 5), .int (zI c)] := (k6 4 (by decide)).trans hR.1
    have h16 : f5 5 = iz E 300 g := (k6 5 (by decide)).trans hR.2
    refine F_callV hX (st := []) (c_Wt_gatherData E f5 P md w s g g2 c c2 a (wnE P num a) (num * w) h7 ⟨h8, h9, h10, h11, h12⟩ hB ⟨h15, h16⟩ ⟨h13, h14⟩ hwo) cm_Wt_gatherData im_Wt_gatherData se_Wt_gatherData rfl ml_Wt_68 d_Wt_writeWindow_74 (by decide) h7 rfl rfl (Nat.le_of_ble_eq_true rfl) (by decide) ?_
    rintro _ f17 ⟨rfl, ⟨g20, n21, ⟨h22, h23⟩, rp24, l25⟩, k26⟩
    refine G_cast (st' := []) ?_ rfl rfl rfl rfl
    refine G_aload_n hX 0 rfl rfl d_Wt_writeWindow_77 ?_
    refine G_aload_n hX 1 rfl rfl d_Wt_writeWindow_78 ?_
    refine G_iload hX 7 rfl d_Wt_writeWindow_79 ?_
    have h27 : f17 29 = ob 10 [.ref (eA E 30), .ref (eA E 32), .ref (eA E 34), .ref (eA E 36), .ref (eA E 38), .ref (eA E 40), .ref (eA E 41), .int (zI (wnE P num a))] := (k26 29 (by decide)).trans h7
    have h28 : f17 22 = ob 4 [.ref (eA E 23), .ref (eA E 24), .ref (eA E 25), .ref (eA E 26), .int (zI md), .int (zI (pC P)), .int (zI w), .int (zI s)] := (k26 22 (by decide)).trans h8
    have h29 : f17 23 = iz E 300 (pT P) := (k26 23 (by decide)).trans h9
    have h30 : f17 24 = iz E 300 (pS P) := (k26 24 (by decide)).trans h10
    have h31 : f17 25 = iz E 300 (pA P) := (k26 25 (by decide)).trans h11
    have h32 : f17 26 = iz E 300 (pN P) := (k26 26 (by decide)).trans h12
    have h33 : f17 38 = ob 6 [.ref (eA E 39), .int (zI c4)] := (k26 38 (by decide)).trans ((k6 38 (by decide)).trans hS4.1)
    have h34 : f17 39 = iz E 512 g4 := (k26 39 (by decide)).trans ((k6 39 (by decide)).trans hS4.2)
    have h35 : f17 40 = iz E 300 m := (k26 40 (by decide)).trans ((k6 40 (by decide)).trans hS5)
    have h36 : f17 41 = ob 0 [.ref (eA E 42), .ref (eA E 43), .int (zI N), .int (zI S), .int (zI T)] := (k26 41 (by decide)).trans ((k6 41 (by decide)).trans hS6.1)
    have h37 : f17 42 = iz E 8 nr := (k26 42 (by decide)).trans ((k6 42 (by decide)).trans hS6.2.1)
    have h38 : f17 43 = iz E 1024 sm := (k26 43 (by decide)).trans ((k6 43 (by decide)).trans hS6.2.2)
    refine F_callV hX (st := []) (c_Wt_tellAddresses E f17 P md w s g4 m nr sm c4 N S T a (wnE P num a) (num * w) c h27 ⟨h28, h29, h30, h31, h32⟩ hB ⟨h33, h34⟩ h35 ⟨h36, h37, h38⟩ hwo hso) cm_Wt_tellAddresses im_Wt_tellAddresses se_Wt_tellAddresses rfl ml_Wt_72 d_Wt_writeWindow_81 (by decide) h27 rfl rfl (Nat.le_of_ble_eq_true rfl) (by decide) ?_
    rintro _ f39 ⟨rfl, ⟨g42, n43, md44, nr45, sm46, T47, ⟨h48, h49⟩, rp56, h50, h51, hmd9, ⟨h52, h53, h54⟩⟩, k57⟩
    refine G_cast (st' := []) ?_ rfl rfl rfl rfl
    refine G_aload_n hX 0 rfl rfl d_Wt_writeWindow_84 ?_
    refine G_aload_n hX 1 rfl rfl d_Wt_writeWindow_85 ?_
    refine G_iload hX 7 rfl d_Wt_writeWindow_86 ?_
    have h58 : f39 29 = ob 10 [.ref (eA E 30), .ref (eA E 32), .ref (eA E 34), .ref (eA E 36), .ref (eA E 38), .ref (eA E 40), .ref (eA E 41), .int (zI (wnE P num a))] := (k57 29 (by decide)).trans h27
    have h59 : f39 22 = ob 4 [.ref (eA E 23), .ref (eA E 24), .ref (eA E 25), .ref (eA E 26), .int (zI md), .int (zI (pC P)), .int (zI w), .int (zI s)] := (k57 22 (by decide)).trans h28
    have h60 : f39 23 = iz E 300 (pT P) := (k57 23 (by decide)).trans h29
    have h61 : f39 24 = iz E 300 (pS P) := (k57 24 (by decide)).trans h30
    have h62 : f39 25 = iz E 300 (pA P) := (k57 25 (by decide)).trans h31
    have h63 : f39 26 = iz E 300 (pN P) := (k57 26 (by decide)).trans h32
    have h64 : f39 36 = ob 6 [.ref (eA E 37), .int (zI c3)] := (k57 36 (by decide)).trans ((k26 36 (by decide)).trans ((k6 36 (by decide)).trans hS3.1))
    have h65 : f39 37 = iz E 768 g3 := (k57 37 (by decide)).trans ((k26 37 (by decide)).trans ((k6 37 (by decide)).trans hS3.2))
    have hmd8 : ∀ i, a ≤ i → i < (wnE P num a) → pT P i = 3 → 0 ≤ md44 i ∧ md44 i ≤ 8 := fun i h1 h2 h3 => by rw [hmd9 i h1 h2 h3]; exact mdI_b ((hwo.2.2 i h1 h2).2.2.2.2 h3).1
    refine F_callV hX (st := []) (c_Wt_writeCodes E f39 P md w s md44 g3 c3 a (wnE P num a) (num * w) c h58 ⟨h59, h60, h61, h62, h63⟩ hB h51 ⟨h64, h65⟩ hwo hmd8) cm_Wt_writeCodes im_Wt_writeCodes se_Wt_writeCodes rfl ml_Wt_76 d_Wt_writeWindow_88 (by decide) h58 rfl rfl (Nat.le_of_ble_eq_true rfl) (by decide) ?_
    rintro _ f66 ⟨rfl, ⟨g69, n70, ⟨h71, h72⟩, rp73, l74⟩, k75⟩
    rw [cdL_c (m2 := mdI P a s) (fun i h1 h2 => (hwo.2.2 i h1 h2).2.2.2.1) hmd9 _ a (Int.le_refl a)] at rp73
    refine G_cast (st' := []) ?_ rfl rfl rfl rfl
    have hbn := wnOK_gi hwo hwo.1.2.1 (Int.le_refl _)
    have hbl := wnOK_le hwo
    have hdl := (rp24).1
    have hal := (rp56).1
    have hql := (rp73).1
    have hda := da_len (g := g) (s := s) hwo ((wnE P num a) - a).toNat a (Int.le_refl a) (by omega)
    have hpe := wnOK_sz hW hw hc.2 ha hx hn.2.2
    rw [hsz] at hpe
    have had := adS_b g (num * w) sz.toNat
    have had2 : 0 ≤ adV g (num * w) sz ∧ adV g (num * w) sz < 4294967296 := by unfold adV; omega
    refine G_aload_n hX 0 rfl rfl d_Wt_writeWindow_91 ?_
    refine G_iload hX 6 rfl d_Wt_writeWindow_92 ?_
    refine G_iload hX 4 rfl d_Wt_writeWindow_94 ?_
    refine G_aload_n hX 2 rfl rfl d_Wt_writeWindow_96 ?_
    have h76 : f66 4 = ob 6 [.ref (eA E 5), .int (zI c)] := (k75 4 (by decide)).trans ((k57 4 (by decide)).trans ((k26 4 (by decide)).trans h15))
    refine F_get hX fg_Wt_79 d_Wt_writeWindow_97 4 (by decide) h76 rfl ?_
    refine G_iload hX 5 rfl d_Wt_writeWindow_100 ?_
    refine G_iload hX 6 rfl d_Wt_writeWindow_102 ?_
    have h77 : f66 5 = iz E 300 g := (k75 5 (by decide)).trans ((k57 5 (by decide)).trans ((k26 5 (by decide)).trans h16))
    refine F_callSN hX (st := [.int (zI ck), .int (zI sz), .ref (eA E 29)]) (host := "DeltaFerry") (c_Df_checkOf E f66 5 300 g (num * w) sz (by decide) h77 hg (by omega)) cm_Df_checkOf sm_Df_checkOf (by decide +kernel) d_Wt_writeWindow_104 rfl rfl (Nat.le_of_ble_eq_true rfl) (by decide) ?_
    rintro _ f78 ⟨rfl, e81⟩
    obtain rfl := e81.symm
    refine G_cast (st' := [.long (zL (adV g (num * w) sz)), .int (zI ck), .int (zI sz), .ref (eA E 29)]) ?_ rfl rfl rfl rfl
    have h82 : f66 29 = ob 10 [.ref (eA E 30), .ref (eA E 32), .ref (eA E 34), .ref (eA E 36), .ref (eA E 38), .ref (eA E 40), .ref (eA E 41), .int (zI (wnE P num a))] := (k75 29 (by decide)).trans h58
    have h83 : f66 32 = ob 6 [.ref (eA E 33), .int (zI c1)] := (k75 32 (by decide)).trans ((k57 32 (by decide)).trans ((k26 32 (by decide)).trans ((k6 32 (by decide)).trans hS1.1)))
    have h84 : f66 33 = iz E 20 g1 := (k75 33 (by decide)).trans ((k57 33 (by decide)).trans ((k26 33 (by decide)).trans ((k6 33 (by decide)).trans hS1.2)))
    have h85 : f66 34 = ob 6 [.ref (eA E 35), .int (zI n21)] := (k75 34 (by decide)).trans ((k57 34 (by decide)).trans h22)
    have h86 : f66 35 = iz E 256 g20 := (k75 35 (by decide)).trans ((k57 35 (by decide)).trans h23)
    have h87 : f66 38 = ob 6 [.ref (eA E 39), .int (zI n43)] := (k75 38 (by decide)).trans h48
    have h88 : f66 39 = iz E 512 g42 := (k75 39 (by decide)).trans h49
    refine F_callV hX (st := []) (c_Wt_writeHead E f66 (wnE P num a) g1 g20 g69 g42 c1 n21 n70 n43 sz ck (adV g (num * w) sz) h82 ⟨h83, h84⟩ ⟨h85, h86⟩ ⟨h71, h72⟩ ⟨h87, h88⟩ (by omega) (by omega) hck) cm_Wt_writeHead im_Wt_writeHead se_Wt_writeHead rfl ml_Wt_86 d_Wt_writeWindow_107 (by decide) h82 rfl rfl (Nat.le_of_ble_eq_true rfl) (by decide) ?_
    rintro _ f89 ⟨rfl, ⟨g92, n93, ⟨h94, h95⟩, rp96⟩, k97⟩
    refine G_cast (st' := []) ?_ rfl rfl rfl rfl
    refine G_aload_n hX 0 rfl rfl d_Wt_writeWindow_110 ?_
    refine G_aload_n hX 1 rfl rfl d_Wt_writeWindow_111 ?_
    have h98 : f89 22 = ob 4 [.ref (eA E 23), .ref (eA E 24), .ref (eA E 25), .ref (eA E 26), .int (zI md), .int (zI (pC P)), .int (zI w), .int (zI s)] := (k97 22 (by decide)).trans ((k75 22 (by decide)).trans h59)
    refine F_get hX fg_Wt_90 d_Wt_writeWindow_112 22 (by decide) h98 rfl ?_
    refine G_iload hX 4 rfl d_Wt_writeWindow_115 ?_
    have h99 : f89 29 = ob 10 [.ref (eA E 30), .ref (eA E 32), .ref (eA E 34), .ref (eA E 36), .ref (eA E 38), .ref (eA E 40), .ref (eA E 41), .int (zI (wnE P num a))] := (k97 29 (by decide)).trans h82
    have h100 : f89 30 = ob 6 [.ref (eA E 31), .int (zI co)] := (k97 30 (by decide)).trans ((k75 30 (by decide)).trans ((k57 30 (by decide)).trans ((k26 30 (by decide)).trans ((k6 30 (by decide)).trans hO.1))))
    have h101 : f89 31 = iz E 1885 go := (k97 31 (by decide)).trans ((k75 31 (by decide)).trans ((k57 31 (by decide)).trans ((k26 31 (by decide)).trans ((k6 31 (by decide)).trans hO.2))))
    refine F_callV hX (st := []) (c_Wt_writeSource E f89 (wnE P num a) go co Lo s ck h99 ⟨h100, h101⟩ hLo (by omega) hck) cm_Wt_writeSource im_Wt_writeSource se_Wt_writeSource rfl ml_Wt_93 d_Wt_writeWindow_117 (by decide) h99 rfl rfl (Nat.le_of_ble_eq_true rfl) (by decide) ?_
    rintro _ f102 ⟨rfl, ⟨g105, n106, ⟨h107, h108⟩, rp109⟩, k110⟩
    have hol := rp109.1
    rw [List.length_append] at hol
    have hol2 := hLo.1
    have hol3 := wsL_len (so := s) (ck := ck) (by omega)
    refine G_cast (st' := []) ?_ rfl rfl rfl rfl
    have hhl := (rp96).1
    have h111 : f102 34 = ob 6 [.ref (eA E 35), .int (zI n21)] := (k110 34 (by decide)).trans ((k97 34 (by decide)).trans h85)
    have h112 : f102 36 = ob 6 [.ref (eA E 37), .int (zI n70)] := (k110 36 (by decide)).trans ((k97 36 (by decide)).trans h71)
    have h113 : f102 38 = ob 6 [.ref (eA E 39), .int (zI n43)] := (k110 38 (by decide)).trans ((k97 38 (by decide)).trans h87)
    have hh13 := hdL_len (sz := sz) (ck := ck) (v := adV g (num * w) sz) (cd := n21) (cc := n70) (ca := n43) (by omega)
    have h114 : f102 32 = ob 6 [.ref (eA E 33), .int (zI n93)] := (k110 32 (by decide)).trans h94
    have hwT := wid_2 (v := n93 + n21 + n70 + n43) (by omega)
    have hwT2 := wid_b (n93 + n21 + n70 + n43)
    refine G_aload_n hX 0 rfl rfl d_Wt_writeWindow_120 ?_
    have h115 : f102 29 = ob 10 [.ref (eA E 30), .ref (eA E 32), .ref (eA E 34), .ref (eA E 36), .ref (eA E 38), .ref (eA E 40), .ref (eA E 41), .int (zI (wnE P num a))] := (k110 29 (by decide)).trans h99
    refine F_get hX fg_Wt_16 d_Wt_writeWindow_121 29 (by decide) h115 rfl ?_
    refine G_aload_n hX 0 rfl rfl d_Wt_writeWindow_124 ?_
    refine F_get hX fg_Wt_20 d_Wt_writeWindow_125 29 (by decide) h115 rfl ?_
    refine F_get hX fg_Wt_47 d_Wt_writeWindow_128 32 (by decide) h114 rfl ?_
    refine G_aload_n hX 0 rfl rfl d_Wt_writeWindow_131 ?_
    refine F_get hX fg_Wt_23 d_Wt_writeWindow_132 29 (by decide) h115 rfl ?_
    refine F_get hX fg_Wt_47 d_Wt_writeWindow_135 34 (by decide) h111 rfl ?_
    refine G_iadd_z hX d_Wt_writeWindow_138 ?_
    refine G_aload_n hX 0 rfl rfl d_Wt_writeWindow_139 ?_
    refine F_get hX fg_Wt_26 d_Wt_writeWindow_140 29 (by decide) h115 rfl ?_
    refine F_get hX fg_Wt_47 d_Wt_writeWindow_143 36 (by decide) h112 rfl ?_
    refine G_iadd_z hX d_Wt_writeWindow_146 ?_
    refine G_aload_n hX 0 rfl rfl d_Wt_writeWindow_147 ?_
    refine F_get hX fg_Wt_29 d_Wt_writeWindow_148 29 (by decide) h115 rfl ?_
    refine F_get hX fg_Wt_47 d_Wt_writeWindow_151 38 (by decide) h113 rfl ?_
    refine G_iadd_z hX d_Wt_writeWindow_154 ?_
    refine F_callV hX (st := []) (c_Ro_pushNumber E f102 30 31 1885 g105 n106 (((n93 + n21) + n70) + n43) (by decide) (by decide) (by decide) ⟨h107, h108⟩ (by omega) (by omega) (by omega)) cm_Ro_pushNumber im_Ro_pushNumber se_Ro_pushNumber rfl ml_Wt_97 d_Wt_writeWindow_155 (by decide) h107 rfl rfl (Nat.le_of_ble_eq_true rfl) (by decide) ?_
    rintro _ f116 ⟨rfl, ⟨h119, h120⟩, k121⟩
    refine G_cast (st' := []) ?_ rfl rfl rfl rfl
    have rp122 := rep_nb (v := ((n93 + n21) + n70) + n43) rp109
    refine G_aload_n hX 0 rfl rfl d_Wt_writeWindow_158 ?_
    refine G_aload_n hX 0 rfl rfl d_Wt_writeWindow_159 ?_
    have h123 : f116 29 = ob 10 [.ref (eA E 30), .ref (eA E 32), .ref (eA E 34), .ref (eA E 36), .ref (eA E 38), .ref (eA E 40), .ref (eA E 41), .int (zI (wnE P num a))] := (k121 29 (by decide)).trans h115
    refine F_get hX fg_Wt_20 d_Wt_writeWindow_160 29 (by decide) h123 rfl ?_
    have h124 : f116 32 = ob 6 [.ref (eA E 33), .int (zI n93)] := (k121 32 (by decide)).trans h114
    have h125 : f116 33 = iz E 20 g92 := (k121 33 (by decide)).trans ((k110 33 (by decide)).trans h95)
    refine F_callV hX (st := []) (c_Wt_pushRow E f116 (wnE P num a) (pz g105 n106 (nby (((n93 + n21) + n70) + n43)) (wid (((n93 + n21) + n70) + n43))) (n106 + wid (((n93 + n21) + n70) + n43)) 32 33 20 g92 n93 h123 ⟨h119, h120⟩ (by decide) (by decide) (by decide) ⟨h124, h125⟩ (by omega)) cm_Wt_pushRow im_Wt_pushRow se_Wt_pushRow rfl ml_Wt_100 d_Wt_writeWindow_163 (by decide) h123 rfl rfl (Nat.le_of_ble_eq_true rfl) (by decide) ?_
    rintro _ f126 ⟨rfl, ⟨h129, h130⟩, k132⟩
    have rp131 := rep_cz (g0 := g92) (p := 0) (m := n93) rp122 (by omega)
    rw [rep_sl rp96] at rp131
    refine G_cast (st' := []) ?_ rfl rfl rfl rfl
    refine G_aload_n hX 0 rfl rfl d_Wt_writeWindow_166 ?_
    refine G_aload_n hX 0 rfl rfl d_Wt_writeWindow_167 ?_
    have h133 : f126 29 = ob 10 [.ref (eA E 30), .ref (eA E 32), .ref (eA E 34), .ref (eA E 36), .ref (eA E 38), .ref (eA E 40), .ref (eA E 41), .int (zI (wnE P num a))] := (k132 29 (by decide)).trans h123
    refine F_get hX fg_Wt_23 d_Wt_writeWindow_168 29 (by decide) h133 rfl ?_
    have h134 : f126 34 = ob 6 [.ref (eA E 35), .int (zI n21)] := (k132 34 (by decide)).trans ((k121 34 (by decide)).trans h111)
    have h135 : f126 35 = iz E 256 g20 := (k132 35 (by decide)).trans ((k121 35 (by decide)).trans ((k110 35 (by decide)).trans ((k97 35 (by decide)).trans h86)))
    refine F_callV hX (st := []) (c_Wt_pushRow E f126 (wnE P num a) (cz g92 (pz g105 n106 (nby (((n93 + n21) + n70) + n43)) (wid (((n93 + n21) + n70) + n43))) 0 (n106 + wid (((n93 + n21) + n70) + n43)) n93) ((n106 + wid (((n93 + n21) + n70) + n43)) + n93) 34 35 256 g20 n21 h133 ⟨h129, h130⟩ (by decide) (by decide) (by decide) ⟨h134, h135⟩ (by omega)) cm_Wt_pushRow im_Wt_pushRow se_Wt_pushRow rfl ml_Wt_100 d_Wt_writeWindow_171 (by decide) h133 rfl rfl (Nat.le_of_ble_eq_true rfl) (by decide) ?_
    rintro _ f136 ⟨rfl, ⟨h139, h140⟩, k142⟩
    have rp141 := rep_cz (g0 := g20) (p := 0) (m := n21) rp131 (by omega)
    rw [rep_sl rp24] at rp141
    refine G_cast (st' := []) ?_ rfl rfl rfl rfl
    refine G_aload_n hX 0 rfl rfl d_Wt_writeWindow_174 ?_
    refine G_aload_n hX 0 rfl rfl d_Wt_writeWindow_175 ?_
    have h143 : f136 29 = ob 10 [.ref (eA E 30), .ref (eA E 32), .ref (eA E 34), .ref (eA E 36), .ref (eA E 38), .ref (eA E 40), .ref (eA E 41), .int (zI (wnE P num a))] := (k142 29 (by decide)).trans h133
    refine F_get hX fg_Wt_26 d_Wt_writeWindow_176 29 (by decide) h143 rfl ?_
    have h144 : f136 36 = ob 6 [.ref (eA E 37), .int (zI n70)] := (k142 36 (by decide)).trans ((k132 36 (by decide)).trans ((k121 36 (by decide)).trans h112))
    have h145 : f136 37 = iz E 768 g69 := (k142 37 (by decide)).trans ((k132 37 (by decide)).trans ((k121 37 (by decide)).trans ((k110 37 (by decide)).trans ((k97 37 (by decide)).trans h72))))
    refine F_callV hX (st := []) (c_Wt_pushRow E f136 (wnE P num a) (cz g20 (cz g92 (pz g105 n106 (nby (((n93 + n21) + n70) + n43)) (wid (((n93 + n21) + n70) + n43))) 0 (n106 + wid (((n93 + n21) + n70) + n43)) n93) 0 ((n106 + wid (((n93 + n21) + n70) + n43)) + n93) n21) (((n106 + wid (((n93 + n21) + n70) + n43)) + n93) + n21) 36 37 768 g69 n70 h143 ⟨h139, h140⟩ (by decide) (by decide) (by decide) ⟨h144, h145⟩ (by omega)) cm_Wt_pushRow im_Wt_pushRow se_Wt_pushRow rfl ml_Wt_100 d_Wt_writeWindow_179 (by decide) h143 rfl rfl (Nat.le_of_ble_eq_true rfl) (by decide) ?_
    rintro _ f146 ⟨rfl, ⟨h149, h150⟩, k152⟩
    have rp151 := rep_cz (g0 := g69) (p := 0) (m := n70) rp141 (by omega)
    rw [rep_sl rp73] at rp151
    refine G_cast (st' := []) ?_ rfl rfl rfl rfl
    refine G_aload_n hX 0 rfl rfl d_Wt_writeWindow_182 ?_
    refine G_aload_n hX 0 rfl rfl d_Wt_writeWindow_183 ?_
    have h153 : f146 29 = ob 10 [.ref (eA E 30), .ref (eA E 32), .ref (eA E 34), .ref (eA E 36), .ref (eA E 38), .ref (eA E 40), .ref (eA E 41), .int (zI (wnE P num a))] := (k152 29 (by decide)).trans h143
    refine F_get hX fg_Wt_29 d_Wt_writeWindow_184 29 (by decide) h153 rfl ?_
    have h154 : f146 38 = ob 6 [.ref (eA E 39), .int (zI n43)] := (k152 38 (by decide)).trans ((k142 38 (by decide)).trans ((k132 38 (by decide)).trans ((k121 38 (by decide)).trans h113)))
    have h155 : f146 39 = iz E 512 g42 := (k152 39 (by decide)).trans ((k142 39 (by decide)).trans ((k132 39 (by decide)).trans ((k121 39 (by decide)).trans ((k110 39 (by decide)).trans ((k97 39 (by decide)).trans h88)))))
    refine F_callV hX (st := []) (c_Wt_pushRow E f146 (wnE P num a) (cz g69 (cz g20 (cz g92 (pz g105 n106 (nby (((n93 + n21) + n70) + n43)) (wid (((n93 + n21) + n70) + n43))) 0 (n106 + wid (((n93 + n21) + n70) + n43)) n93) 0 ((n106 + wid (((n93 + n21) + n70) + n43)) + n93) n21) 0 (((n106 + wid (((n93 + n21) + n70) + n43)) + n93) + n21) n70) ((((n106 + wid (((n93 + n21) + n70) + n43)) + n93) + n21) + n70) 38 39 512 g42 n43 h153 ⟨h149, h150⟩ (by decide) (by decide) (by decide) ⟨h154, h155⟩ (by omega)) cm_Wt_pushRow im_Wt_pushRow se_Wt_pushRow rfl ml_Wt_100 d_Wt_writeWindow_187 (by decide) h153 rfl rfl (Nat.le_of_ble_eq_true rfl) (by decide) ?_
    rintro _ f156 ⟨rfl, ⟨h159, h160⟩, k162⟩
    have rp161 := rep_cz (g0 := g42) (p := 0) (m := n43) rp151 (by omega)
    rw [rep_sl rp56] at rp161
    refine G_cast (st' := []) ?_ rfl rfl rfl rfl
    have h163 : f156 29 = ob 10 [.ref (eA E 30), .ref (eA E 32), .ref (eA E 34), .ref (eA E 36), .ref (eA E 38), .ref (eA E 40), .ref (eA E 41), .int (zI (wnE P num a))] := (k162 29 (by decide)).trans h153
    have h164 : f156 32 = ob 6 [.ref (eA E 33), .int (zI n93)] := (k162 32 (by decide)).trans ((k152 32 (by decide)).trans ((k142 32 (by decide)).trans ((k132 32 (by decide)).trans h124)))
    have h165 : f156 33 = iz E 20 g92 := (k162 33 (by decide)).trans ((k152 33 (by decide)).trans ((k142 33 (by decide)).trans ((k132 33 (by decide)).trans h125)))
    have h166 : f156 34 = ob 6 [.ref (eA E 35), .int (zI n21)] := (k162 34 (by decide)).trans ((k152 34 (by decide)).trans ((k142 34 (by decide)).trans h134))
    have h167 : f156 35 = iz E 256 g20 := (k162 35 (by decide)).trans ((k152 35 (by decide)).trans ((k142 35 (by decide)).trans h135))
    have h168 : f156 36 = ob 6 [.ref (eA E 37), .int (zI n70)] := (k162 36 (by decide)).trans ((k152 36 (by decide)).trans h144)
    have h169 : f156 37 = iz E 768 g69 := (k162 37 (by decide)).trans ((k152 37 (by decide)).trans h145)
    have h170 : f156 38 = ob 6 [.ref (eA E 39), .int (zI n43)] := (k162 38 (by decide)).trans h154
    have h171 : f156 39 = iz E 512 g42 := (k162 39 (by decide)).trans h155
    have h172 : f156 40 = iz E 300 md44 := (k162 40 (by decide)).trans ((k152 40 (by decide)).trans ((k142 40 (by decide)).trans ((k132 40 (by decide)).trans ((k121 40 (by decide)).trans ((k110 40 (by decide)).trans ((k97 40 (by decide)).trans ((k75 40 (by decide)).trans h51)))))))
    have h173 : f156 41 = ob 0 [.ref (eA E 42), .ref (eA E 43), .int (zI 4), .int (zI 3), .int (zI T47)] := (k162 41 (by decide)).trans ((k152 41 (by decide)).trans ((k142 41 (by decide)).trans ((k132 41 (by decide)).trans ((k121 41 (by decide)).trans ((k110 41 (by decide)).trans ((k97 41 (by decide)).trans ((k75 41 (by decide)).trans h52)))))))
    have h174 : f156 42 = iz E 8 nr45 := (k162 42 (by decide)).trans ((k152 42 (by decide)).trans ((k142 42 (by decide)).trans ((k132 42 (by decide)).trans ((k121 42 (by decide)).trans ((k110 42 (by decide)).trans ((k97 42 (by decide)).trans ((k75 42 (by decide)).trans h53)))))))
    have h175 : f156 43 = iz E 1024 sm46 := (k162 43 (by decide)).trans ((k152 43 (by decide)).trans ((k142 43 (by decide)).trans ((k132 43 (by decide)).trans ((k121 43 (by decide)).trans ((k110 43 (by decide)).trans ((k97 43 (by decide)).trans ((k75 43 (by decide)).trans h54)))))))
    refine F_vret hX hE d_Wt_writeWindow_190 ⟨rfl, h163, ⟨_, _, _, _, _, _, _, _, _, _, _, _, _, _, ⟨h164, h165⟩, ⟨h166, h167⟩, ⟨h168, h169⟩, ⟨h170, h171⟩, h172, ⟨h173, h174, h175⟩⟩, ⟨_, _, ⟨h159, h160⟩, ?_, by omega⟩, (Fr.tr (Fr.tr (Fr.tr (Fr.tr (Fr.tr (Fr.tr (Fr.tr (Fr.tr (Fr.tr (Fr.tr (Fr.tr Fr.rf k6 (by decide)) k26 (by decide)) k57 (by decide)) k75 (by decide)) k97 (by decide)) k110 (by decide)) k121 (by decide)) k132 (by decide)) k142 (by decide)) k152 (by decide)) k162 (by decide))⟩
    have e9 : wnL P w s g c num a ck = _ := rfl
    unfold wnL
    rw [hsz, ← hdl, ← hql, ← hal, ← hhl]
    simp only [← List.append_assoc]
    exact rp161
  have loop1 : ∀ (q : Nat) (i : Int) (f2 : Nat → va_E), (pC P - i).toNat < q → (a ≤ i ∧ i ≤ wnE P num a) → (wnE P num a = cntF (fun i => decide (pN P i = num)) (pC P) i) → f2 29 = ob 10 [.ref (eA E 30), .ref (eA E 32), .ref (eA E 34), .ref (eA E 36), .ref (eA E 38), .ref (eA E 40), .ref (eA E 41), .int (zI i)] → Fr [29] f f2 → G E X 0 0 30 [(0, .ref (eA E 29)), (1, .ref (eA E 22)), (2, .ref (eA E 4)), (3, .int (zI num)), (4, .int (zI ck)), (5, .int (zI (num * w))), (6, .int (zI sz)), (7, .int (zI a))] [] (wl E f2) := by
    intro q
    induction q with
    | zero => intro i f2 hms176; exact absurd hms176 (Nat.not_lt_zero _)
    | succ q ih177 =>
      intro i f2 hms176 hi hs h178 k3
      have hWc2 := hW.1
      refine G_aload_n hX 0 rfl rfl d_Wt_writeWindow_30 ?_
      refine F_get hX fg_Wt_43 d_Wt_writeWindow_31 29 (by decide) h178 rfl ?_
      refine G_aload_n hX 1 rfl rfl d_Wt_writeWindow_34 ?_
      have h179 : f2 22 = ob 4 [.ref (eA E 23), .ref (eA E 24), .ref (eA E 25), .ref (eA E 26), .int (zI md), .int (zI (pC P)), .int (zI w), .int (zI s)] := (k3 22 (by decide)).trans hP.1
      refine F_get hX fg_Wt_64 d_Wt_writeWindow_35 22 (by decide) h179 rfl ?_
      refine G_icmp_ge_z hX (tgt := 67) d_Wt_writeWindow_38 rfl (by omega) (fun c180 => ?_) (fun c181 => ?_)
      · skip
        have e67 : wnE P num a = i := hs.trans (cnt_stop (by first | exact Or.inr (by omega) | exact Or.inl (decide_eq_false (by omega))))
        exact join4  f2   (by rw [e67]; exact h178) (Fr.tr Fr.rf k3 (by decide))
      · skip
        refine G_aload_n hX 1 rfl rfl d_Wt_writeWindow_41 ?_
        refine F_get hX fg_Wt_65 d_Wt_writeWindow_42 22 (by decide) h179 rfl ?_
        refine G_aload_n hX 0 rfl rfl d_Wt_writeWindow_45 ?_
        refine F_get hX fg_Wt_43 d_Wt_writeWindow_46 29 (by decide) h178 rfl ?_
        have h182 : f2 26 = iz E 300 (pN P) := (k3 26 (by decide)).trans hP.2.2.2.2
        refine F_iald hX d_Wt_writeWindow_49 26 (by decide) h182 (by omega) ?_
        have b183 := hB i
        refine G_iload_n hX 3 rfl rfl d_Wt_writeWindow_50 ?_
        refine G_icmp_ne_z hX (tgt := 67) d_Wt_writeWindow_51 rfl (by omega) (fun c184 => ?_) (fun c185 => ?_)
        · skip
          have e67 : wnE P num a = i := hs.trans (cnt_stop (by first | exact Or.inr (by omega) | exact Or.inl (decide_eq_false (by omega))))
          exact join4  f2   (by rw [e67]; exact h178) (Fr.tr Fr.rf k3 (by decide))
        · skip
          refine G_aload_n hX 0 rfl rfl d_Wt_writeWindow_54 ?_
          refine G_dup hX rfl d_Wt_writeWindow_55 ?_
          refine F_get hX fg_Wt_43 d_Wt_writeWindow_56 29 (by decide) h178 rfl ?_
          refine G_iconst hX d_Wt_writeWindow_59 ?_
          refine G_iadd_z hX d_Wt_writeWindow_60 ?_
          refine F_put hX fg_Wt_43 fp_Wt_7 d_Wt_writeWindow_61 29 (fs' := [.ref (eA E 30), .ref (eA E 32), .ref (eA E 34), .ref (eA E 36), .ref (eA E 38), .ref (eA E 40), .ref (eA E 41), .int (zI (i + 1))]) (by decide) h178 rfl rfl (Nat.le_of_ble_eq_true rfl) rfl (fun f186 h187 k188 => ?_)
          refine G_goto hX (tgt := 30) d_Wt_writeWindow_64 rfl ?_
          exact ih177 (i + 1) f186 (by omega) (by have h8 := cnt_b (p := fun i => decide (pN P i = num)) (B := pC P) (r := i + 1) (by omega); rw [← cnt_go (by omega) (decide_eq_true (by omega)), ← hs] at h8; omega) (hs.trans (cnt_go (by omega) (decide_eq_true (by omega)))) h187 (Fr.tr (Fr.tr Fr.rf k3 (by decide)) k188 (by decide))
  refine G_loc (lv' := [(0, .ref (eA E 29)), (1, .ref (eA E 22)), (2, .ref (eA E 4)), (3, .int (zI num)), (4, .int (zI ck)), (5, .int (zI (num * w))), (6, .int (zI sz)), (7, .int (zI a))]) [3, 4, 5, 6, 7, 2, 1, 0] rfl ?_
  exact loop1 (_ + 1) a f (Nat.lt_succ_self _) (by omega) rfl hT Fr.rf
