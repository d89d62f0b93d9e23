/-! DeltaFerryModel: scan; printed by wip/tools/m_mo5.py -/
/-- a raw instruction's pieces, appended -/
def apX (w t x0 a e : Int) : Nat → Int → PS → PS
  | 0, _, P => P
  | k + 1, x, P => if x < e then apX w t x0 a e k (x + wpt w x e) (plApp P t (wpt w x e) (if t = 3 then a + x - x0 else -1) (x / w)) else P
theorem apX_e {w t x0 a e x : Int} {k : Nat} {P : PS} (h : e ≤ x) : apX w t x0 a e k x P = P := by
  cases k with
  | zero => rfl
  | succ k => unfold apX; rw [if_neg (by omega)]
theorem apX_s {w t x0 a e x : Int} {k : Nat} {P : PS} (h : x < e) (hk : e - x ≤ k) : apX w t x0 a e k x P = apX w t x0 a e (k - 1) (x + wpt w x e) (plApp P t (wpt w x e) (if t = 3 then a + x - x0 else -1) (x / w)) := by
  cases k with
  | zero => exfalso; have : ((0 : Nat) : Int) = 0 := rfl; omega
  | succ k => show (if x < e then _ else _) = _; rw [if_pos h]; rfl
theorem exL_s2 {w t x0 a e x : Int} {k : Nat} {P : PS} (h : x < e) (hk : e - x ≤ k) : exL w t x0 a e k x P = exL w t x0 a e (k - 1) (x + wpt w x e) (plExt P t (wpt w x e) (if t = 3 then a + x - x0 else -1) (x / w)) := by
  cases k with
  | zero => exfalso; have : ((0 : Nat) : Int) = 0 := rfl; omega
  | succ k => show (if x < e then _ else _) = _; rw [if_pos h]; rfl
theorem exL_e2 {w t x0 a e x : Int} {k : Nat} {P : PS} (h : e ≤ x) : exL w t x0 a e k x P = P := by
  cases k with
  | zero => rfl
  | succ k => unfold exL; rw [if_neg (by omega)]
/-- fuel and the way the address is told do not matter -/
theorem apX_c {w t e : Int} (hw : 0 < w) : ∀ (n : Nat) (k k2 : Nat) (x0 a x1 b x : Int) (P : PS), e - x ≤ n → e - x ≤ k → e - x ≤ k2 → (t = 3 → a - x0 = b - x1) → apX w t x0 a e k x P = apX w t x1 b e k2 x P := by
  intro n
  induction n with
  | zero => intro k k2 x0 a x1 b x P h1 _ _ _; have : ((0 : Nat) : Int) = 0 := rfl; rw [apX_e (by omega), apX_e (by omega)]
  | succ n ih =>
    intro k k2 x0 a x1 b x P h1 h2 h3 h4
    by_cases hx : x < e
    · have hb := wpt_b hw hx
      have hi : (if t = 3 then a + x - x0 else -1) = (if t = 3 then b + x - x1 else -1) := by
        by_cases h3 : t = 3
        · have := h4 h3
          rw [if_pos h3, if_pos h3]; omega
        · rw [if_neg h3, if_neg h3]
      rw [apX_s hx h2, apX_s hx h3, hi]
      exact ih _ _ _ _ _ _ _ _ (by omega) (by omega) (by omega) h4
    · rw [apX_e (by omega), apX_e (by omega)]
theorem wpt_end {w x e : Int} (hw : 0 < w) (h : x + wpt w x e < e) : (x + wpt w x e) / w = x / w + 1 := by
  unfold wpt at h ⊢
  by_cases hc : e ≤ (x / w + 1) * w
  · rw [if_pos hc] at h; omega
  · rw [if_neg hc]
    rw [show x + ((x / w + 1) * w - x) = (x / w + 1) * w by omega]
    exact Int.mul_ediv_cancel _ (by omega)
theorem app_last (P : PS) (t n a w : Int) : pC (plApp P t n a w) - 1 = pC P ∧ pT (plApp P t n a w) (pC P) = t ∧ pS (plApp P t n a w) (pC P) = n ∧ pA (plApp P t n a w) (pC P) = a ∧ pN (plApp P t n a w) (pC P) = w := by
  refine ⟨?_, if_pos rfl, if_pos rfl, if_pos rfl, if_pos rfl⟩
  show pC P + 1 - 1 = pC P
  omega
/-- what does not go on is appended -/
theorem ex_ap {w t e x0 a : Int} (hw : 0 < w) : ∀ (n : Nat) (k k2 : Nat) (x : Int) (P : PS), e - x ≤ n → e - x ≤ k → e - x ≤ k2 → (x < e → ¬ goP P t (if t = 3 then a + x - x0 else -1) (x / w)) → exL w t x0 a e k x P = apX w t x0 a e k2 x P := by
  intro n
  induction n with
  | zero => intro k k2 x P h1 _ _ _; have : ((0 : Nat) : Int) = 0 := rfl; rw [exL_e2 (by omega), apX_e (by omega)]
  | succ n ih =>
    intro k k2 x P h1 h2 h3 h4
    by_cases hx : x < e
    · have hb := wpt_b hw hx
      rw [exL_s2 hx h2, apX_s hx h3]
      have e1 : plExt P t (wpt w x e) (if t = 3 then a + x - x0 else -1) (x / w) = plApp P t (wpt w x e) (if t = 3 then a + x - x0 else -1) (x / w) := if_neg (h4 hx)
      rw [e1]
      refine ih _ _ _ _ (by omega) (by omega) (by omega) (fun h5 hg => ?_)
      have h6 := wpt_end hw h5
      have hl := app_last P t (wpt w x e) (if t = 3 then a + x - x0 else -1) (x / w)
      have h7 := hg.2.2.1
      rw [hl.1, hl.2.2.2.2] at h7
      omega
    · rw [exL_e2 (by omega), apX_e (by omega)]
/-- a raw instruction that goes on: its pieces, and those of what is added -/
theorem ap_ex {w t e e2 x0 a b : Int} (hw : 0 < w) (he : e ≤ e2) (ht : t = 1 ∨ t = 3) (hb : t = 3 → b = a + e - x0) : ∀ (n : Nat) (k k2 k3 : Nat) (x : Int) (P : PS), 0 ≤ pC P → e - x ≤ n → e - x ≤ k → e2 - x ≤ k2 → e2 - e ≤ k3 → x < e → exL w t e b e2 k3 e (apX w t x0 a e k x P) = apX w t x0 a e2 k2 x P := by
  intro n
  induction n with
  | zero => intro k k2 k3 x P _ h1 _ _ _ h5; have : ((0 : Nat) : Int) = 0 := rfl; omega
  | succ n ih =>
    intro k k2 k3 x P hP h1 h2 h3 h4 hx
    have hwb := wpt_b hw hx
    have hwb2 := wpt_b (e := e2) hw (show x < e2 by omega)
    have hm := wm_b (w := w) (x := x) hw
    rw [apX_s hx h2, apX_s (show x < e2 by omega) h3]
    by_cases hc : (x / w + 1) * w ≤ e
    · have q1 : wpt w x e = (x / w + 1) * w - x := by
        unfold wpt; split <;> omega
      have q2 : wpt w x e2 = (x / w + 1) * w - x := by
        unfold wpt; split <;> omega
      rw [q1, q2]
      by_cases hl : (x / w + 1) * w < e
      · exact ih _ _ _ _ _ (show 0 ≤ pC P + 1 by omega) (by omega) (by omega) (by omega) (by omega) (by omega)
      · have he' : x + ((x / w + 1) * w - x) = e := by omega
        rw [he', apX_e (Int.le_refl e)]
        rw [ex_ap hw (e2 - e).toNat _ k3 _ _ (by omega) h4 h4]
        · exact apX_c hw (e2 - e).toNat _ _ _ _ _ _ _ _ (by omega) h4 (by omega) (fun q => by have := hb q; omega)
        · intro _ hg
          have hl := app_last P t ((x / w + 1) * w - x) (if t = 3 then a + x - x0 else -1) (x / w)
          have h7 := hg.2.2.1
          rw [hl.1, hl.2.2.2.2] at h7
          have h8 : e / w = x / w + 1 := by
            rw [← he', show x + ((x / w + 1) * w - x) = (x / w + 1) * w by omega]
            exact Int.mul_ediv_cancel _ (by omega)
          omega
    · have q1 : wpt w x e = e - x := by
        unfold wpt; rw [if_pos (by omega)]
      have hd : e / w = x / w := by
        have h8 := Int.ediv_mul_le x (show w ≠ 0 by omega)
        apply Int.le_antisymm
        · have := (Int.ediv_lt_iff_lt_mul hw).mpr (show e < (x / w + 1) * w by omega)
          omega
        · exact Int.ediv_le_ediv hw (by omega)
      rw [q1, show x + (e - x) = e by omega, apX_e (Int.le_refl e)]
      by_cases hee : e < e2
      · have hwb3 := wpt_b hw hee
        have q2 : wpt w x e2 = (e - x) + wpt w e e2 := by
          unfold wpt; rw [hd]; split <;> omega
        rw [exL_s2 hee h4]
        have hl := app_last P t (e - x) (if t = 3 then a + x - x0 else -1) (x / w)
        have hg : goP (plApp P t (e - x) (if t = 3 then a + x - x0 else -1) (x / w)) t (if t = 3 then b + e - e else -1) (e / w) := by
          refine ⟨?_, ?_, ?_, ?_⟩
          · show 0 < pC P + 1
            omega
          · rw [hl.1]; exact hl.2.1
          · rw [hl.1, hd]; exact hl.2.2.2.2
          · rcases ht with h | h
            · exact Or.inl h
            · right
              have := hb h
              rw [hl.1, hl.2.2.2.1, hl.2.2.1, if_pos h, if_pos h]
              omega
        have e1 : plExt (plApp P t (e - x) (if t = 3 then a + x - x0 else -1) (x / w)) t (wpt w e e2) (if t = 3 then b + e - e else -1) (e / w) = plApp P t ((e - x) + wpt w e e2) (if t = 3 then a + x - x0 else -1) (x / w) := by
          unfold plExt
          rw [if_pos hg, hl.1, hl.2.2.1]
          show (uz (pT P) (pC P) t, uz (uz (pS P) (pC P) (e - x)) (pC P) ((e - x) + wpt w e e2), _, _, _) = _
          rw [uz_uz]
          rfl
        rw [e1, q2, show x + ((e - x) + wpt w e e2) = e + wpt w e e2 by omega]
        rw [ex_ap hw (e2 - e).toNat _ (k3 - 1) _ _ (by omega) (by omega) (by omega)]
        · exact apX_c hw (e2 - e).toNat _ _ _ _ _ _ _ _ (by omega) (by omega) (by omega) (fun q => by have := hb q; omega)
        · intro h5 hg2
          have h6 := wpt_end hw h5
          have hl2 := app_last P t ((e - x) + wpt w e e2) (if t = 3 then a + x - x0 else -1) (x / w)
          have h7 := hg2.2.2.1
          rw [hl2.1, hl2.2.2.2.2] at h7
          omega
      · have : e2 = e := by omega
        subst this
        rw [exL_e2 (Int.le_refl e2), q1, show x + (e2 - x) = e2 by omega, apX_e (Int.le_refl e2)]
/-- the last piece of a raw instruction -/
theorem ap_last {w t e x0 a : Int} (hw : 0 < w) : ∀ (n : Nat) (k : Nat) (x : Int) (P : PS), 0 ≤ pC P → e - x ≤ n → e - x ≤ k → x < e → 0 < pC (apX w t x0 a e k x P) ∧ pT (apX w t x0 a e k x P) (pC (apX w t x0 a e k x P) - 1) = t ∧ (t = 3 → pA (apX w t x0 a e k x P) (pC (apX w t x0 a e k x P) - 1) + pS (apX w t x0 a e k x P) (pC (apX w t x0 a e k x P) - 1) = a + e - x0) := by
  intro n
  induction n with
  | zero => intro k x P _ h1 _ h5; have : ((0 : Nat) : Int) = 0 := rfl; omega
  | succ n ih =>
    intro k x P hP h1 h2 hx
    have hb := wpt_b hw hx
    rw [apX_s hx h2]
    by_cases hc : x + wpt w x e < e
    · exact ih _ _ _ (show 0 ≤ pC P + 1 by omega) (by omega) (by omega) hc
    · have he : x + wpt w x e = e := by omega
      rw [he, apX_e (Int.le_refl e)]
      have hl := app_last P t (wpt w x e) (if t = 3 then a + x - x0 else -1) (x / w)
      refine ⟨show 0 < pC P + 1 by omega, by rw [hl.1]; exact hl.2.1, fun h3 => ?_⟩
      rw [hl.1, hl.2.2.2.1, hl.2.2.1, if_pos h3]
      omega
theorem ap_cnt {w t e x0 a : Int} (hw : 0 < w) : ∀ (n : Nat) (k : Nat) (x : Int) (P : PS), 0 ≤ pC P → pC P ≤ x → e - x ≤ n → x ≤ e → 0 ≤ pC (apX w t x0 a e k x P) ∧ pC (apX w t x0 a e k x P) ≤ e := by
  intro n
  induction n with
  | zero => intro k x P h0 h1 h2 h3; have : ((0 : Nat) : Int) = 0 := rfl; rw [apX_e (by omega)]; omega
  | succ n ih =>
    intro k x P h0 h1 h2 h3
    cases k with
    | zero => exact ⟨h0, by show pC P ≤ e; omega⟩
    | succ k =>
      by_cases hx : x < e
      · have hb := wpt_b hw hx
        show 0 ≤ pC (if x < e then _ else _) ∧ pC (if x < e then _ else _) ≤ e
        rw [if_pos hx]
        exact ih _ _ _ (show 0 ≤ pC P + 1 by omega) (show pC P + 1 ≤ _ by omega) (by omega) (by omega)
      · rw [apX_e (by omega)]; omega
def tyR (a : Int) : Int := if a < 0 then 1 else 3
def rwX (w : Int) (rs ra : Int → Int) (P : PS) : Nat → Int × PS
  | 0 => (0, P)
  | i + 1 => ((rwX w rs ra P i).1 + rs i, apX w (tyR (ra i)) (rwX w rs ra P i).1 (ra i) ((rwX w rs ra P i).1 + rs i) (rs i).toNat (rwX w rs ra P i).1 (rwX w rs ra P i).2)
theorem rwX_s {w : Int} {rs ra : Int → Int} {P : PS} {i : Int} (h : 0 ≤ i) : rwX w rs ra P (i + 1).toNat = ((rwX w rs ra P i.toNat).1 + rs i, apX w (tyR (ra i)) (rwX w rs ra P i.toNat).1 (ra i) ((rwX w rs ra P i.toNat).1 + rs i) (rs i).toNat (rwX w rs ra P i.toNat).1 (rwX w rs ra P i.toNat).2) := by
  rw [show (i + 1).toNat = i.toNat + 1 by omega]
  simp only [rwX, Int.toNat_of_nonneg h]
theorem rwX_c {w : Int} {rs ra rs2 ra2 : Int → Int} {P : PS} : ∀ n : Nat, (∀ i : Int, 0 ≤ i → i < n → rs i = rs2 i ∧ ra i = ra2 i) → rwX w rs ra P n = rwX w rs2 ra2 P n := by
  intro n
  induction n with
  | zero => intro _; rfl
  | succ n ih =>
    intro h
    have h1 := h n (by omega) (by omega)
    have h2 := ih (fun i a b => h i a (by omega))
    simp only [rwX, h2, h1.1, h1.2]
theorem rwX_b {w : Int} {rs ra : Int → Int} {P : PS} (hw : 0 < w) (hP : pC P = 0) : ∀ n : Nat, (∀ i : Int, 0 ≤ i → i < n → 1 ≤ rs i) → (n : Int) ≤ (rwX w rs ra P n).1 ∧ 0 ≤ pC (rwX w rs ra P n).2 ∧ pC (rwX w rs ra P n).2 ≤ (rwX w rs ra P n).1 := by
  intro n
  induction n with
  | zero => intro _; exact ⟨Int.le_refl 0, by show 0 ≤ pC P; omega, by show pC P ≤ 0; omega⟩
  | succ n ih =>
    intro h
    have h1 := ih (fun i a b => h i a (by omega))
    have h2 := h n (by omega) (by omega)
    have h3 := ap_cnt (w := w) (t := tyR (ra n)) (e := (rwX w rs ra P n).1 + rs n) (x0 := (rwX w rs ra P n).1) (a := ra n) hw (rs n).toNat (rs n).toNat (rwX w rs ra P n).1 (rwX w rs ra P n).2 h1.2.1 h1.2.2 (by omega) (by omega)
    exact ⟨by show ((n + 1 : Nat) : Int) ≤ (rwX w rs ra P n).1 + rs n; omega, h3.1, h3.2⟩
/-- does a raw instruction go on with the last one -/
abbrev goR (rs ra : Int → Int) (n a : Int) : Prop := 0 < n ∧ (if a < 0 then ra (n - 1) < 0 else 0 ≤ ra (n - 1) ∧ ra (n - 1) + rs (n - 1) = a)
theorem rw_app {w : Int} {rs ra : Int → Int} {P Q : PS} {n p m a : Int} (hw : 0 < w) (hP : pC P = 0) (hn : 0 ≤ n) (hrs : ∀ i : Int, 0 ≤ i → i < n → 1 ≤ rs i) (hQ : rwX w rs ra P n.toNat = (p, Q)) (hm : 1 ≤ m) (ha : -1 ≤ a) (hg : ¬ goR rs ra n a) : rwX w (uz rs n m) (uz ra n a) P (n + 1).toNat = (p + m, ext Q w (tyR a) p m a) := by
  have hc : rwX w (uz rs n m) (uz ra n a) P n.toNat = (p, Q) := by
    rw [← hQ]
    exact rwX_c _ (fun i h1 h2 => ⟨if_neg (by omega), if_neg (by omega)⟩)
  have hb := rwX_b (w := w) (rs := rs) (ra := ra) hw hP n.toNat (fun i h1 h2 => hrs i h1 (by omega))
  rw [hQ] at hb
  have e1 : uz rs n m n = m := if_pos rfl
  have e2 : uz ra n a n = a := if_pos rfl
  rw [rwX_s hn, hc, e1, e2]
  unfold ext
  rw [ex_ap hw m.toNat m.toNat m.toNat p Q (by omega) (by omega) (by omega)]
  intro _ hg2
  apply hg
  by_cases h0 : 0 < n
  · refine ⟨h0, ?_⟩
    have hr1 := hrs (n - 1) (by omega) (by omega)
    have hQ2 := hQ
    rw [show n = (n - 1) + 1 by omega, rwX_s (by omega)] at hQ2
    have hb1 := rwX_b (w := w) (rs := rs) (ra := ra) hw hP (n - 1).toNat (fun i h1 h2 => hrs i h1 (by omega))
    have hl := ap_last (w := w) (t := tyR (ra (n - 1))) (e := (rwX w rs ra P (n - 1).toNat).1 + rs (n - 1)) (x0 := (rwX w rs ra P (n - 1).toNat).1) (a := ra (n - 1)) hw (rs (n - 1)).toNat (rs (n - 1)).toNat (rwX w rs ra P (n - 1).toNat).1 (rwX w rs ra P (n - 1).toNat).2 hb1.2.1 (by omega) (by omega) (by omega)
    have e3 : apX w (tyR (ra (n - 1))) (rwX w rs ra P (n - 1).toNat).1 (ra (n - 1)) ((rwX w rs ra P (n - 1).toNat).1 + rs (n - 1)) (rs (n - 1)).toNat (rwX w rs ra P (n - 1).toNat).1 (rwX w rs ra P (n - 1).toNat).2 = Q := congrArg Prod.snd hQ2
    rw [e3] at hl
    have ht : tyR (ra (n - 1)) = tyR a := hl.2.1.symm.trans hg2.2.1
    unfold tyR at ht hl hg2
    by_cases c1 : a < 0
    · rw [if_pos c1] at ht ⊢
      by_cases c2 : ra (n - 1) < 0
      · exact c2
      · rw [if_neg c2] at ht; omega
    · rw [if_neg c1] at ht ⊢
      by_cases c2 : ra (n - 1) < 0
      · rw [if_pos c2] at ht; omega
      · rw [if_neg c2] at hl
        rw [if_neg c1] at hg2
        have h5 := hl.2.2 rfl
        have h6 := hg2.2.2.2
        rw [if_pos rfl] at h6
        omega
  · exfalso
    have : n = 0 := by omega
    subst this
    have e4 : (0, P) = (p, Q) := hQ
    have : Q = P := (congrArg Prod.snd e4).symm
    rw [this] at hg2
    have := hg2.1
    omega
theorem rw_ext {w : Int} {rs ra : Int → Int} {P Q : PS} {n p m a : Int} (hw : 0 < w) (hP : pC P = 0) (hn : 0 ≤ n) (hrs : ∀ i : Int, 0 ≤ i → i < n → 1 ≤ rs i) (hQ : rwX w rs ra P n.toNat = (p, Q)) (hm : 1 ≤ m) (hg : goR rs ra n a) : rwX w (uz rs (n - 1) (rs (n - 1) + m)) ra P n.toNat = (p + m, ext Q w (tyR a) p m a) := by
  have h0 := hg.1
  have hr1 := hrs (n - 1) (by omega) (by omega)
  have hb1 := rwX_b (w := w) (rs := rs) (ra := ra) hw hP (n - 1).toNat (fun i h1 h2 => hrs i h1 (by omega))
  have hc : rwX w (uz rs (n - 1) (rs (n - 1) + m)) ra P (n - 1).toNat = rwX w rs ra P (n - 1).toNat := rwX_c _ (fun i h1 h2 => ⟨if_neg (by omega), rfl⟩)
  have hQ2 := hQ
  rw [show n = (n - 1) + 1 by omega, rwX_s (by omega)] at hQ2
  have e1 : uz rs (n - 1) (rs (n - 1) + m) (n - 1) = rs (n - 1) + m := if_pos rfl
  have ht : tyR (ra (n - 1)) = tyR a ∧ (tyR a = 3 → a = ra (n - 1) + rs (n - 1)) := by
    have h2 := hg.2
    unfold tyR
    by_cases c1 : a < 0
    · rw [if_pos c1] at h2
      rw [if_pos c1, if_pos h2]
      exact ⟨rfl, fun q => by omega⟩
    · rw [if_neg c1] at h2
      rw [if_neg c1, if_neg (by omega)]
      exact ⟨rfl, fun _ => h2.2.symm⟩
  have hty : tyR a = 1 ∨ tyR a = 3 := by unfold tyR; split; exact Or.inl rfl; exact Or.inr rfl
  rw [show n = (n - 1) + 1 by omega, rwX_s (by omega), show n - 1 + 1 - 1 = n - 1 by omega, e1, hc]
  rw [ht.1] at hQ2 ⊢
  have ep : (rwX w rs ra P (n - 1).toNat).1 + rs (n - 1) = p := congrArg Prod.fst hQ2
  have eq : apX w (tyR a) (rwX w rs ra P (n - 1).toNat).1 (ra (n - 1)) ((rwX w rs ra P (n - 1).toNat).1 + rs (n - 1)) (rs (n - 1)).toNat (rwX w rs ra P (n - 1).toNat).1 (rwX w rs ra P (n - 1).toNat).2 = Q := congrArg Prod.snd hQ2
  have h9 := ap_ex (w := w) (t := tyR a) (e := p) (e2 := p + m) (x0 := (rwX w rs ra P (n - 1).toNat).1) (a := ra (n - 1)) (b := a) hw (by omega) hty (fun q => by have := ht.2 q; omega) (rs (n - 1)).toNat (rs (n - 1)).toNat (rs (n - 1) + m).toNat m.toNat (rwX w rs ra P (n - 1).toNat).1 (rwX w rs ra P (n - 1).toNat).2 hb1.2.1 (by omega) (by omega) (by omega) (by omega) (by omega)
  rw [← ep] at h9
  rw [eq] at h9
  rw [ep] at h9
  unfold ext
  rw [h9, show (rwX w rs ra P (n - 1).toNat).1 + (rs (n - 1) + m) = p + m by omega]
theorem fdL_no {W F L : Nat → Int64} {V A B : Int64} : ∀ (k : Nat) (i : Int), 0 ≤ i → (∀ j, i ≤ j → j < i + k → ¬ W j.toNat = V) → fdL W F L V A B k i = -1 := by
  intro k
  induction k with
  | zero => intro i _ _; rfl
  | succ k ih =>
    intro i h0 h
    show (if _ then _ else _) = _
    rw [if_neg (fun q => h i (by omega) (by omega) q.1)]
    exact ih (i + 1) (by omega) (fun j h1 h2 => h j (by omega) (by omega))
theorem wpt_m {w x e : Int} (hw : 0 < w) : wpt w x e = if e - x < w - x % w then e - x else w - x % w := by
  have h1 := Int.emod_add_mul_ediv x w
  have h2 : (x / w + 1) * w = w * (x / w) + w := by rw [Int.add_mul, Int.one_mul, Int.mul_comm]
  unfold wpt
  rw [h2]
  split <;> split <;> omega
theorem rwX_m {w : Int} {rs ra : Int → Int} {P : PS} (n : Nat) : ∀ m : Nat, n ≤ m → (∀ i : Int, 0 ≤ i → i < m → 1 ≤ rs i) → (rwX w rs ra P n).1 ≤ (rwX w rs ra P m).1 := by
  intro m
  induction m with
  | zero => intro h _; rw [show n = 0 by omega]; exact Int.le_refl _
  | succ m ih =>
    intro h h1
    by_cases e : n = m + 1
    · rw [e]; exact Int.le_refl _
    · have h2 := ih (by omega) (fun i a b => h1 i a (by omega))
      have h3 := h1 m (by omega) (by omega)
      show _ ≤ (rwX w rs ra P m).1 + rs m
      omega
/-- the model's plan and the class's -/
def plE (mt ms ma mn : Int → Int) (P : PS) : Prop := ∀ i, 0 ≤ i → i < pC P → mt i = pT P i ∧ ms i = pS P i ∧ ma i = pA P i ∧ mn i = pN P i
theorem plE_app {mt ms ma mn : Int → Int} {P : PS} (h : plE mt ms ma mn P) {t n a w t' n' a' w' : Int} (h1 : t' = t) (h2 : n' = n) (h3 : a' = a) (h4 : w' = w) : plE (uz mt (pC P) t') (uz ms (pC P) n') (uz ma (pC P) a') (uz mn (pC P) w') (plApp P t n a w) := by
  subst h1 h2 h3 h4
  intro i hi hi2
  have hi3 : i < pC P + 1 := hi2
  show (if i = pC P then t' else mt i) = (if i = pC P then t' else pT P i) ∧ (if i = pC P then n' else ms i) = (if i = pC P then n' else pS P i) ∧ (if i = pC P then a' else ma i) = (if i = pC P then a' else pA P i) ∧ (if i = pC P then w' else mn i) = (if i = pC P then w' else pN P i)
  by_cases e : i = pC P
  · refine ⟨?_, ?_, ?_, ?_⟩ <;> rw [if_pos e, if_pos e]
  · rw [if_neg e, if_neg e, if_neg e, if_neg e, if_neg e, if_neg e, if_neg e, if_neg e]; exact h i hi (by omega)
theorem tyR_n {a : Int} (h : a < 0) : tyR a = 1 := if_pos h
theorem tyR_p {a : Int} (h : ¬ a < 0) : tyR a = 3 := if_neg h
theorem c_Mo_blockAt (E : EV) (f : Nat → va_E) (F : Nat → Value) (p : Int) (bl : Int) (ct : Int) (b : Int → Int) (sz : Int → Int) (gF : Int → Int) (st : Nat → Int64) (W : Nat → Int64) (A : Nat → Int64) (L : Nat → Int64) (Wm : Nat → Int64) (Am : Nat → Int64) (Lm : Nat → Int64) (hMo : f 61 = mob F) (hmk : moK E F) (hF6 : F 6 = .int (zI bl)) (hF7 : F 7 = .int (zI ct)) (hc63 : f 63 = iz E 1600 b) (hc64 : f 64 = iz E 4 sz) (hc62 : f 62 = la E 32 kkF) (hc65 : f 65 = la E 4 st) (hc66 : f 66 = la E 75 Wm) (hc67 : f 67 = la E 75 Am) (hc68 : f 68 = la E 75 Lm) (hsz : ∀ k, 0 ≤ k → k ≤ 3 → 0 ≤ sz k ∧ sz k ≤ (if k = 2 then 700 else 300)) (hbl : 4 ≤ bl ∧ bl ≤ 64) (hct : 0 ≤ ct ∧ ct ≤ 75) (hp : 0 ≤ p ∧ p ≤ 300) (hG : isB gF) (hag : ∀ i, 0 ≤ i → i < sz 1 → b (300 + i) = gF i) (hsg : ∀ k : Int, 0 ≤ k → k < ct → Wm k.toNat = W k.toNat ∧ Am k.toNat = A k.toNat ∧ Lm k.toNat = L k.toNat) : CF yn_Mo_blockAt cd_Mo_blockAt 7 (some (.int)) 3 E [.ref (eA E 61), .int (zI p)] f (fun r f' => r = some (.int (zI (if p + bl ≤ sz 1 then fdF W A L gF bl ct p else -1))) ∧ ∃ (F' : Nat → Value) (st' : Nat → Int64), f' 61 = mob F' ∧ FrF [4, 5] F F' ∧ f' 65 = la E 4 st' ∧ Fr [65, 61] f f') := by
  refine CF.of (by decide +kernel) (Nat.le_of_ble_eq_true rfl) fun X hX hE => ?_
  have hX : Ok E X "DeltaFerryModel" "blockAt" cd_Mo_blockAt 7 (some (.int)) (rl 3) := hX
  refine G_cast (lv' := [(0, .ref (eA E 61)), (1, .int (zI p))]) ?_ rfl rfl rfl rfl
  have hsz1 := hsz 1 (by decide) (by decide)
  rw [if_neg (by decide)] at hsz1
  refine G_iload_n hX 1 rfl rfl d_Mo_blockAt_0 ?_
  refine G_aload_n hX 0 rfl rfl d_Mo_blockAt_1 ?_
  refine M_get hX fg_Mo_240 d_Mo_blockAt_2 hMo (by decide) hF6 ?_
  refine G_iadd_z hX d_Mo_blockAt_5 ?_
  refine G_aload_n hX 0 rfl rfl d_Mo_blockAt_6 ?_
  refine M_get hX fg_Mo_81 d_Mo_blockAt_7 hMo (by decide) (hmk 2 64 (by decide)) ?_
  refine G_iconst hX d_Mo_blockAt_10 ?_
  refine F_iald hX d_Mo_blockAt_11 64 (by decide) hc64 (by omega) ?_
  refine G_icmp_le_z hX (tgt := 17) d_Mo_blockAt_12 rfl (by omega) (fun c1 => ?_) (fun c2 => ?_)
  · skip
    refine G_aload_n hX 0 rfl rfl d_Mo_blockAt_17 ?_
    refine G_sipush hX (by decide) d_Mo_blockAt_18 ?_
    refine G_iload_n hX 1 rfl rfl d_Mo_blockAt_21 ?_
    refine G_iadd_z hX d_Mo_blockAt_22 ?_
    refine G_aload_n hX 0 rfl rfl d_Mo_blockAt_23 ?_
    refine M_get hX fg_Mo_240 d_Mo_blockAt_24 hMo (by decide) hF6 ?_
    refine F_callV hX (st := []) (c_Mo_weakOf E f F (300 + p) bl b gF p hMo hmk hc63 hG (fun i h1 h2 => by rw [Int.add_assoc, hag (p + i) (by omega) (by omega)]) (by omega)) cm_Mo_weakOf im_Mo_weakOf se_Mo_weakOf rfl ml_Mo_236 d_Mo_blockAt_27 (by decide) hMo rfl rfl (Nat.le_of_ble_eq_true rfl) (by decide) ?_
    rintro _ f3 ⟨rfl, e6⟩
    obtain rfl := e6.symm
    refine G_cast (st' := [.long (zL (wkV gF p bl))]) ?_ rfl rfl rfl rfl
    refine G_lstore_n hX (lv' := [(2, .long (zL (wkV gF p bl))), (0, .ref (eA E 61)), (1, .int (zI p))]) rfl (by decide) rfl d_Mo_blockAt_30 ?_
    refine G_iconst hX d_Mo_blockAt_31 ?_
    refine G_istore hX (lv' := [(4, .int (zI 0)), (2, .long (zL (wkV gF p bl))), (0, .ref (eA E 61)), (1, .int (zI p))]) (by decide) rfl d_Mo_blockAt_32 ?_
    refine G_iconst hX d_Mo_blockAt_34 ?_
    refine G_istore hX (lv' := [(5, .int (zI 0)), (4, .int (zI 0)), (2, .long (zL (wkV gF p bl))), (0, .ref (eA E 61)), (1, .int (zI p))]) (by decide) rfl d_Mo_blockAt_35 ?_
    have hfit : p + bl ≤ sz 1 := by omega
    have loop7 : ∀ (q : Nat) (t : Int) (s : Int) (f8 : Nat → va_E), (ct - t).toNat < q → (0 ≤ t ∧ t ≤ ct) → ((s = 0 ∨ s = 1) ∧ (s = 0 → ∀ j : Int, 0 ≤ j → j < t → ¬ W j.toNat = zL (wkV gF p bl))) → Fr [] f f8 → G E X 0 0 37 [(0, .ref (eA E 61)), (1, .int (zI p)), (2, .long (zL (wkV gF p bl))), (4, .int (zI s)), (5, .int (zI t))] [] (wl E f8) := by
      intro q
      induction q with
      | zero => intro t s f8 hms10; exact absurd hms10 (Nat.not_lt_zero _)
      | succ q ih11 =>
        intro t s f8 hms10 ht hs k9
        refine G_iload hX 4 rfl d_Mo_blockAt_37 ?_
        refine G_aload_n hX 0 rfl rfl d_Mo_blockAt_39 ?_
        have h12 : f8 61 = mob F := (k9 61 (List.not_mem_nil)).trans hMo
        refine M_get hX fg_Mo_87 d_Mo_blockAt_40 h12 (by decide) hF7 ?_
        refine G_icmp_ge_z hX (tgt := 76) d_Mo_blockAt_43 rfl (by omega) (fun c13 => ?_) (fun c14 => ?_)
        · skip
          refine G_iload hX 3 rfl d_Mo_blockAt_76 ?_
          refine G_if_ne_z hX (tgt := 83) d_Mo_blockAt_78 rfl (by rcases hs.1 with h | h <;> rw [h] <;> decide) (fun c15 => ?_) (fun c16 => ?_)
          · skip
            refine G_aload_n hX 0 rfl rfl d_Mo_blockAt_83 ?_
            refine G_sipush hX (by decide) d_Mo_blockAt_84 ?_
            refine G_iload_n hX 1 rfl rfl d_Mo_blockAt_87 ?_
            refine G_iadd_z hX d_Mo_blockAt_88 ?_
            refine G_aload_n hX 0 rfl rfl d_Mo_blockAt_89 ?_
            refine M_get hX fg_Mo_240 d_Mo_blockAt_90 h12 (by decide) hF6 ?_
            have h17 : f8 63 = iz E 1600 b := (k9 63 (List.not_mem_nil)).trans hc63
            have h18 : f8 62 = la E 32 kkF := (k9 62 (List.not_mem_nil)).trans hc62
            have h19 : f8 65 = la E 4 st := (k9 65 (List.not_mem_nil)).trans hc65
            refine F_callV hX (st := []) (c_Mo_digestOf E f8 F (300 + p) bl b gF p st h12 hmk h17 h18 h19 hG (fun i h1 h2 => by rw [Int.add_assoc, hag (p + i) (by omega) (by omega)]) (by omega)) cm_Mo_digestOf im_Mo_digestOf se_Mo_digestOf rfl ml_Mo_227 d_Mo_blockAt_93 (by decide) h12 rfl rfl (Nat.le_of_ble_eq_true rfl) (by decide) ?_
            rintro _ f20 ⟨rfl, F23, st'_24, h25, h26, h27, k28, h29, k30⟩
            refine G_cast (st' := []) ?_ rfl rfl rfl rfl
            refine G_iconst hX d_Mo_blockAt_96 ?_
            refine G_istore hX (lv' := [(5, .int (zI (-1))), (0, .ref (eA E 61)), (1, .int (zI p)), (2, .long (zL (wkV gF p bl))), (4, .int (zI s))]) (by decide) rfl d_Mo_blockAt_97 ?_
            refine G_aload_n hX 1 rfl rfl d_Mo_blockAt_99 ?_
            have h31 : F23 7 = .int (zI ct) := (k28 7 (by decide)).trans hF7
            refine M_get hX fg_Mo_87 d_Mo_blockAt_100 h25 (by decide) h31 ?_
            refine G_iconst hX d_Mo_blockAt_103 ?_
            refine G_isub_z hX d_Mo_blockAt_104 ?_
            refine G_istore hX (lv' := [(6, .int (zI (ct - 1))), (5, .int (zI (-1))), (0, .ref (eA E 61)), (1, .int (zI p)), (2, .long (zL (wkV gF p bl))), (4, .int (zI s))]) (by decide) rfl d_Mo_blockAt_105 ?_
            have loop32 : ∀ (q : Nat) (u : Int) (f33 : Nat → va_E), (u + 1).toNat < q → (-1 ≤ u ∧ u < ct) → Fr [] f20 f33 → G E X 0 0 107 [(0, .ref (eA E 61)), (1, .int (zI p)), (2, .long (zL (wkV gF p bl))), (5, .int (zI (fdL W A L (zL (wkV gF p bl)) (dgA gF p bl) (dgB gF p bl) (ct - (u + 1)).toNat (u + 1)))), (6, .int (zI u))] [] (wl E f33) := by
              intro q
              induction q with
              | zero => intro u f33 hms35; exact absurd hms35 (Nat.not_lt_zero _)
              | succ q ih36 =>
                intro u f33 hms35 hu k34
                refine G_iload hX 4 rfl d_Mo_blockAt_107 ?_
                refine G_if_lt_z hX (tgt := 169) d_Mo_blockAt_109 rfl (by omega) (fun c37 => ?_) (fun c38 => ?_)
                · skip
                  refine G_iload hX 3 rfl d_Mo_blockAt_169 ?_
                  obtain rfl : u = -1 := by omega
                  have h39 : f33 61 = mob F23 := (k34 61 (List.not_mem_nil)).trans h25
                  have h40 : f33 65 = la E 4 st'_24 := (k34 65 (List.not_mem_nil)).trans h29
                  exact F_iret hX hE d_Mo_blockAt_171 ⟨by rw [if_pos hfit]; unfold fdF; rw [show (ct - (-1 + 1 : Int)).toNat = ct.toNat by omega, show (-1 + 1 : Int) = 0 from rfl], F23, _, h39, (FrF.tr FrF.rf k28 (by decide)), h40, (Fr.tr (Fr.tr (Fr.tr Fr.rf k9 (by decide)) k30 (by decide)) k34 (by decide))⟩
                · skip
                  refine G_aload_n hX 0 rfl rfl d_Mo_blockAt_112 ?_
                  have h41 : f33 61 = mob F23 := (k34 61 (List.not_mem_nil)).trans h25
                  have h42 : F23 8 = .ref (eA E 66) := (k28 8 (by decide)).trans (hmk 8 66 (by decide))
                  refine M_get hX fg_Mo_91 d_Mo_blockAt_113 h41 (by decide) h42 ?_
                  refine G_iload hX 4 rfl d_Mo_blockAt_116 ?_
                  have h43 : f33 66 = la E 75 Wm := (k34 66 (List.not_mem_nil)).trans ((k30 66 (by decide)).trans ((k9 66 (List.not_mem_nil)).trans hc66))
                  refine F_lald hX d_Mo_blockAt_118 66 (by decide) h43 (by omega) ?_
                  refine G_topl (show (Wm (u : Int).toNat) = (W (u : Int).toNat) from (hsg _ (by omega) (by omega)).1) ?_
                  refine G_lload_n hX 2 rfl rfl d_Mo_blockAt_119 ?_
                  refine G_lcmp hX d_Mo_blockAt_120 ?_
                  refine G_if_ne hX (tgt := 159) d_Mo_blockAt_121 rfl (fun c44 => ?_) (fun c45 => ?_)
                  · skip
                    refine G_iload hX 3 rfl d_Mo_blockAt_159 ?_
                    refine G_istore hX (lv' := [(5, .int (zI (fdL W A L (zL (wkV gF p bl)) (dgA gF p bl) (dgB gF p bl) (ct - (u + 1)).toNat (u + 1)))), (0, .ref (eA E 61)), (1, .int (zI p)), (2, .long (zL (wkV gF p bl))), (6, .int (zI u))]) (by decide) rfl d_Mo_blockAt_161 ?_
                    refine G_iinc_z hX (lv' := [(6, .int (zI (u + (-1)))), (5, .int (zI (fdL W A L (zL (wkV gF p bl)) (dgA gF p bl) (dgB gF p bl) (ct - (u + 1)).toNat (u + 1)))), (0, .ref (eA E 61)), (1, .int (zI p)), (2, .long (zL (wkV gF p bl)))]) 4 rfl (by decide) rfl d_Mo_blockAt_163 ?_
                    refine G_goto hX (tgt := 107) d_Mo_blockAt_166 rfl ?_
                    have e8 : ¬ (W u.toNat = zL (wkV gF p bl) ∧ A u.toNat = dgA gF p bl ∧ L u.toNat = dgB gF p bl) := by
                      intro q
                      exact c44 ((lg_cmp_eq _ _).mpr q.1)
                    have e9 := fdL_go hu.2 e8
                    refine G_loc (lv' := [(0, .ref (eA E 61)), (1, .int (zI p)), (2, .long (zL (wkV gF p bl))), (5, .int (zI (fdL W A L (zL (wkV gF p bl)) (dgA gF p bl) (dgB gF p bl) (ct - (u + 1)).toNat (u + 1)))), (6, .int (zI (u + (-1))))]) [2, 3, 4, 1, 0] rfl ?_
                    refine G_cast (ih36 (u - 1) f33 (by omega) (by omega)  (Fr.tr Fr.rf k34 (by decide))) rfl (by rw [show u - 1 + 1 = u by omega, e9]; rfl) rfl rfl
                  · skip
                    refine G_aload_n hX 0 rfl rfl d_Mo_blockAt_124 ?_
                    have h46 : F23 9 = .ref (eA E 67) := (k28 9 (by decide)).trans (hmk 9 67 (by decide))
                    refine M_get hX fg_Mo_94 d_Mo_blockAt_125 h41 (by decide) h46 ?_
                    refine G_iload hX 4 rfl d_Mo_blockAt_128 ?_
                    have h47 : f33 67 = la E 75 Am := (k34 67 (List.not_mem_nil)).trans ((k30 67 (by decide)).trans ((k9 67 (List.not_mem_nil)).trans hc67))
                    refine F_lald hX d_Mo_blockAt_130 67 (by decide) h47 (by omega) ?_
                    refine G_topl (show (Am (u : Int).toNat) = (A (u : Int).toNat) from (hsg _ (by omega) (by omega)).2.1) ?_
                    refine G_aload_n hX 0 rfl rfl d_Mo_blockAt_131 ?_
                    refine M_get hX fg_Mo_220 d_Mo_blockAt_132 h41 (by decide) h26 ?_
                    refine G_lcmp hX d_Mo_blockAt_135 ?_
                    refine G_if_ne hX (tgt := 159) d_Mo_blockAt_136 rfl (fun c48 => ?_) (fun c49 => ?_)
                    · skip
                      refine G_iload hX 3 rfl d_Mo_blockAt_159 ?_
                      refine G_istore hX (lv' := [(5, .int (zI (fdL W A L (zL (wkV gF p bl)) (dgA gF p bl) (dgB gF p bl) (ct - (u + 1)).toNat (u + 1)))), (0, .ref (eA E 61)), (1, .int (zI p)), (2, .long (zL (wkV gF p bl))), (6, .int (zI u))]) (by decide) rfl d_Mo_blockAt_161 ?_
                      refine G_iinc_z hX (lv' := [(6, .int (zI (u + (-1)))), (5, .int (zI (fdL W A L (zL (wkV gF p bl)) (dgA gF p bl) (dgB gF p bl) (ct - (u + 1)).toNat (u + 1)))), (0, .ref (eA E 61)), (1, .int (zI p)), (2, .long (zL (wkV gF p bl)))]) 4 rfl (by decide) rfl d_Mo_blockAt_163 ?_
                      refine G_goto hX (tgt := 107) d_Mo_blockAt_166 rfl ?_
                      have e8 : ¬ (W u.toNat = zL (wkV gF p bl) ∧ A u.toNat = dgA gF p bl ∧ L u.toNat = dgB gF p bl) := by
                        intro q
                        exact c48 ((lg_cmp_eq _ _).mpr q.2.1)
                      have e9 := fdL_go hu.2 e8
                      refine G_loc (lv' := [(0, .ref (eA E 61)), (1, .int (zI p)), (2, .long (zL (wkV gF p bl))), (5, .int (zI (fdL W A L (zL (wkV gF p bl)) (dgA gF p bl) (dgB gF p bl) (ct - (u + 1)).toNat (u + 1)))), (6, .int (zI (u + (-1))))]) [2, 3, 4, 1, 0] rfl ?_
                      refine G_cast (ih36 (u - 1) f33 (by omega) (by omega)  (Fr.tr Fr.rf k34 (by decide))) rfl (by rw [show u - 1 + 1 = u by omega, e9]; rfl) rfl rfl
                    · skip
                      refine G_aload_n hX 0 rfl rfl d_Mo_blockAt_139 ?_
                      have h50 : F23 10 = .ref (eA E 68) := (k28 10 (by decide)).trans (hmk 10 68 (by decide))
                      refine M_get hX fg_Mo_97 d_Mo_blockAt_140 h41 (by decide) h50 ?_
                      refine G_iload hX 4 rfl d_Mo_blockAt_143 ?_
                      have h51 : f33 68 = la E 75 Lm := (k34 68 (List.not_mem_nil)).trans ((k30 68 (by decide)).trans ((k9 68 (List.not_mem_nil)).trans hc68))
                      refine F_lald hX d_Mo_blockAt_145 68 (by decide) h51 (by omega) ?_
                      refine G_topl (show (Lm (u : Int).toNat) = (L (u : Int).toNat) from (hsg _ (by omega) (by omega)).2.2) ?_
                      refine G_aload_n hX 0 rfl rfl d_Mo_blockAt_146 ?_
                      refine M_get hX fg_Mo_224 d_Mo_blockAt_147 h41 (by decide) h27 ?_
                      refine G_lcmp hX d_Mo_blockAt_150 ?_
                      refine G_if_ne hX (tgt := 159) d_Mo_blockAt_151 rfl (fun c52 => ?_) (fun c53 => ?_)
                      · skip
                        refine G_iload hX 3 rfl d_Mo_blockAt_159 ?_
                        refine G_istore hX (lv' := [(5, .int (zI (fdL W A L (zL (wkV gF p bl)) (dgA gF p bl) (dgB gF p bl) (ct - (u + 1)).toNat (u + 1)))), (0, .ref (eA E 61)), (1, .int (zI p)), (2, .long (zL (wkV gF p bl))), (6, .int (zI u))]) (by decide) rfl d_Mo_blockAt_161 ?_
                        refine G_iinc_z hX (lv' := [(6, .int (zI (u + (-1)))), (5, .int (zI (fdL W A L (zL (wkV gF p bl)) (dgA gF p bl) (dgB gF p bl) (ct - (u + 1)).toNat (u + 1)))), (0, .ref (eA E 61)), (1, .int (zI p)), (2, .long (zL (wkV gF p bl)))]) 4 rfl (by decide) rfl d_Mo_blockAt_163 ?_
                        refine G_goto hX (tgt := 107) d_Mo_blockAt_166 rfl ?_
                        have e8 : ¬ (W u.toNat = zL (wkV gF p bl) ∧ A u.toNat = dgA gF p bl ∧ L u.toNat = dgB gF p bl) := by
                          intro q
                          exact c52 ((lg_cmp_eq _ _).mpr q.2.2)
                        have e9 := fdL_go hu.2 e8
                        refine G_loc (lv' := [(0, .ref (eA E 61)), (1, .int (zI p)), (2, .long (zL (wkV gF p bl))), (5, .int (zI (fdL W A L (zL (wkV gF p bl)) (dgA gF p bl) (dgB gF p bl) (ct - (u + 1)).toNat (u + 1)))), (6, .int (zI (u + (-1))))]) [2, 3, 4, 1, 0] rfl ?_
                        refine G_cast (ih36 (u - 1) f33 (by omega) (by omega)  (Fr.tr Fr.rf k34 (by decide))) rfl (by rw [show u - 1 + 1 = u by omega, e9]; rfl) rfl rfl
                      · skip
                        refine G_iload hX 4 rfl d_Mo_blockAt_154 ?_
                        refine G_goto hX (tgt := 161) d_Mo_blockAt_156 rfl ?_
                        refine G_istore hX (lv' := [(5, .int (zI u)), (0, .ref (eA E 61)), (1, .int (zI p)), (2, .long (zL (wkV gF p bl))), (6, .int (zI u))]) (by decide) rfl d_Mo_blockAt_161 ?_
                        refine G_iinc_z hX (lv' := [(6, .int (zI (u + (-1)))), (5, .int (zI u)), (0, .ref (eA E 61)), (1, .int (zI p)), (2, .long (zL (wkV gF p bl)))]) 4 rfl (by decide) rfl d_Mo_blockAt_163 ?_
                        refine G_goto hX (tgt := 107) d_Mo_blockAt_166 rfl ?_
                        have e9 := fdL_hit (F := A) (L := L) (A := dgA gF p bl) (B := dgB gF p bl) hu.2 ⟨(lg_cmp_eq (W u.toNat) (zL (wkV gF p bl))).mp c45, (lg_cmp_eq (A u.toNat) (dgA gF p bl)).mp c49, (lg_cmp_eq (L u.toNat) (dgB gF p bl)).mp c53⟩
                        refine G_loc (lv' := [(0, .ref (eA E 61)), (1, .int (zI p)), (2, .long (zL (wkV gF p bl))), (5, .int (zI u)), (6, .int (zI (u + (-1))))]) [2, 3, 4, 1, 0] rfl ?_
                        refine G_cast (ih36 (u - 1) f33 (by omega) (by omega)  (Fr.tr Fr.rf k34 (by decide))) rfl (by rw [show u - 1 + 1 = u by omega, e9]; rfl) rfl rfl
            refine G_loc (lv' := [(0, .ref (eA E 61)), (1, .int (zI p)), (2, .long (zL (wkV gF p bl))), (5, .int (zI (-1))), (6, .int (zI (ct - 1)))]) [2, 3, 4, 1, 0] rfl ?_
            refine G_cast (loop32 (_ + 1) (ct - 1) f20 (Nat.lt_succ_self _) (by omega)  Fr.rf) rfl (by rw [fdL_end (by omega)]) rfl rfl
          · skip
            refine G_iconst hX d_Mo_blockAt_81 ?_
            have h54 : f8 65 = la E 4 st := (k9 65 (List.not_mem_nil)).trans hc65
            exact F_iret hX hE d_Mo_blockAt_82 ⟨by rw [if_pos hfit]; exact congrArg (fun q => some (Value.int (zI q))) (fdL_no ct.toNat 0 (by omega) (fun j h1 h2 => hs.2 (by omega) j h1 (by omega))).symm, F, _, h12, FrF.rf, h54, (Fr.tr Fr.rf k9 (by decide))⟩
        · skip
          refine G_iload hX 3 rfl d_Mo_blockAt_46 ?_
          refine G_if_ne_z hX (tgt := 63) d_Mo_blockAt_48 rfl (by rcases hs.1 with h | h <;> rw [h] <;> decide) (fun c55 => ?_) (fun c56 => ?_)
          · skip
            refine G_iconst hX d_Mo_blockAt_63 ?_
            refine G_goto hX (tgt := 68) d_Mo_blockAt_64 rfl ?_
            refine G_istore hX (lv' := [(4, .int (zI 1)), (0, .ref (eA E 61)), (1, .int (zI p)), (2, .long (zL (wkV gF p bl))), (5, .int (zI t))]) (by decide) rfl d_Mo_blockAt_68 ?_
            refine G_iinc_z hX (lv' := [(5, .int (zI (t + 1))), (4, .int (zI 1)), (0, .ref (eA E 61)), (1, .int (zI p)), (2, .long (zL (wkV gF p bl)))]) 4 rfl (by decide) rfl d_Mo_blockAt_70 ?_
            refine G_goto hX (tgt := 37) d_Mo_blockAt_73 rfl ?_
            refine G_loc (lv' := [(0, .ref (eA E 61)), (1, .int (zI p)), (2, .long (zL (wkV gF p bl))), (4, .int (zI 1)), (5, .int (zI (t + 1)))]) [2, 3, 4, 1, 0] rfl ?_
            exact ih11 (t + 1) 1 f8 (by omega) (by omega) ⟨Or.inr rfl, fun q => absurd q (by decide)⟩  (Fr.tr Fr.rf k9 (by decide))
          · skip
            refine G_aload_n hX 0 rfl rfl d_Mo_blockAt_51 ?_
            refine M_get hX fg_Mo_91 d_Mo_blockAt_52 h12 (by decide) (hmk 8 66 (by decide)) ?_
            refine G_iload hX 4 rfl d_Mo_blockAt_55 ?_
            have h57 : f8 66 = la E 75 Wm := (k9 66 (List.not_mem_nil)).trans hc66
            refine F_lald hX d_Mo_blockAt_57 66 (by decide) h57 (by omega) ?_
            refine G_topl (show (Wm (t : Int).toNat) = (W (t : Int).toNat) from (hsg _ (by omega) (by omega)).1) ?_
            refine G_lload_n hX 2 rfl rfl d_Mo_blockAt_58 ?_
            refine G_lcmp hX d_Mo_blockAt_59 ?_
            refine G_if_ne hX (tgt := 67) d_Mo_blockAt_60 rfl (fun c58 => ?_) (fun c59 => ?_)
            · skip
              refine G_iconst hX d_Mo_blockAt_67 ?_
              refine G_istore hX (lv' := [(4, .int (zI 0)), (0, .ref (eA E 61)), (1, .int (zI p)), (2, .long (zL (wkV gF p bl))), (5, .int (zI t))]) (by decide) rfl d_Mo_blockAt_68 ?_
              refine G_iinc_z hX (lv' := [(5, .int (zI (t + 1))), (4, .int (zI 0)), (0, .ref (eA E 61)), (1, .int (zI p)), (2, .long (zL (wkV gF p bl)))]) 4 rfl (by decide) rfl d_Mo_blockAt_70 ?_
              refine G_goto hX (tgt := 37) d_Mo_blockAt_73 rfl ?_
              refine G_loc (lv' := [(0, .ref (eA E 61)), (1, .int (zI p)), (2, .long (zL (wkV gF p bl))), (4, .int (zI 0)), (5, .int (zI (t + 1)))]) [2, 3, 4, 1, 0] rfl ?_
              exact ih11 (t + 1) 0 f8 (by omega) (by omega) ⟨Or.inl rfl, fun _ j h1 h2 q => by by_cases e : j = t; exact c58 ((lg_cmp_eq _ _).mpr (by rw [← e]; exact q)); exact hs.2 (by omega) j h1 (by omega) q⟩  (Fr.tr Fr.rf k9 (by decide))
            · skip
              refine G_iconst hX d_Mo_blockAt_63 ?_
              refine G_goto hX (tgt := 68) d_Mo_blockAt_64 rfl ?_
              refine G_istore hX (lv' := [(4, .int (zI 1)), (0, .ref (eA E 61)), (1, .int (zI p)), (2, .long (zL (wkV gF p bl))), (5, .int (zI t))]) (by decide) rfl d_Mo_blockAt_68 ?_
              refine G_iinc_z hX (lv' := [(5, .int (zI (t + 1))), (4, .int (zI 1)), (0, .ref (eA E 61)), (1, .int (zI p)), (2, .long (zL (wkV gF p bl)))]) 4 rfl (by decide) rfl d_Mo_blockAt_70 ?_
              refine G_goto hX (tgt := 37) d_Mo_blockAt_73 rfl ?_
              refine G_loc (lv' := [(0, .ref (eA E 61)), (1, .int (zI p)), (2, .long (zL (wkV gF p bl))), (4, .int (zI 1)), (5, .int (zI (t + 1)))]) [2, 3, 4, 1, 0] rfl ?_
              exact ih11 (t + 1) 1 f8 (by omega) (by omega) ⟨Or.inr rfl, fun q => absurd q (by decide)⟩  (Fr.tr Fr.rf k9 (by decide))
    refine G_loc (lv' := [(0, .ref (eA E 61)), (1, .int (zI p)), (2, .long (zL (wkV gF p bl))), (4, .int (zI 0)), (5, .int (zI 0))]) [3, 4, 2, 1, 0] rfl ?_
    exact loop7 (_ + 1) 0 0 f (Nat.lt_succ_self _) (by omega) ⟨Or.inl rfl, fun _ j h1 h2 => by omega⟩  Fr.rf
  · skip
    refine G_iconst hX d_Mo_blockAt_15 ?_
    exact F_iret hX hE d_Mo_blockAt_16 ⟨by rw [if_neg (by omega)], F, _, hMo, FrF.rf, hc65, Fr.rf⟩
theorem c_Mo_raw (E : EV) (f : Nat → va_E) (F : Nat → Value) (a : Int) (m : Int) (n : Int) (rs : Int → Int) (ra : Int → Int) (hMo : f 61 = mob F) (hmk : moK E F) (hF18 : F 18 = .int (zI n)) (hc73 : f 73 = iz E 300 rs) (hc74 : f 74 = iz E 300 ra) (ha : -1 ≤ a ∧ a ≤ 1000) (hn : 0 ≤ n ∧ n < 300) (hr : 0 < n → (-1 ≤ ra (n - 1) ∧ ra (n - 1) ≤ 1000) ∧ 0 ≤ rs (n - 1) ∧ rs (n - 1) ≤ 1000) : CF yn_Mo_raw cd_Mo_raw 4 none 0 E [.ref (eA E 61), .int (zI a), .int (zI m)] f (fun r f' => r = none ∧ ∃ (F' : Nat → Value) (n' : Int) (rs' : Int → Int) (ra' : Int → Int), f' 61 = mob F' ∧ F' 18 = .int (zI n') ∧ FrF [18] F F' ∧ f' 73 = iz E 300 rs' ∧ f' 74 = iz E 300 ra' ∧ ((goR rs ra n a ∧ rs' = uz rs (n - 1) (rs (n - 1) + m) ∧ ra' = ra ∧ n' = n) ∨ (¬ goR rs ra n a ∧ rs' = uz rs n m ∧ ra' = uz ra n a ∧ n' = n + 1)) ∧ Fr [73, 74, 61] f f') := by
  refine CF.of (by decide +kernel) (Nat.le_of_ble_eq_true rfl) fun X hX hE => ?_
  have hX : Ok E X "DeltaFerryModel" "raw" cd_Mo_raw 4 none (rl 0) := hX
  refine G_cast (lv' := [(0, .ref (eA E 61)), (1, .int (zI a)), (2, .int (zI m))]) ?_ rfl rfl rfl rfl
  refine G_aload_n hX 0 rfl rfl d_Mo_raw_0 ?_
  refine M_get hX fg_Mo_243 d_Mo_raw_1 hMo (by decide) hF18 ?_
  refine G_if_le_z hX (tgt := 73) d_Mo_raw_4 rfl (by omega) (fun c1 => ?_) (fun c2 => ?_)
  · skip
    refine G_iconst hX d_Mo_raw_73 ?_
    have hg : ¬ goR rs ra n a := by intro q; have q1 := q.1; have q2 := q.2; split at q2 <;> omega
    refine G_istore_n hX (lv' := [(3, .int (zI 0)), (0, .ref (eA E 61)), (1, .int (zI a)), (2, .int (zI m))]) rfl (by decide) rfl d_Mo_raw_74 ?_
    refine G_iload_n hX 0 rfl rfl d_Mo_raw_75 ?_
    refine G_if_eq_z hX (tgt := 104) d_Mo_raw_76 rfl (by omega) (fun c3 => ?_) (fun c4 => by exfalso; omega)
    refine G_aload_n hX 1 rfl rfl d_Mo_raw_104 ?_
    refine M_get hX fg_Mo_118 d_Mo_raw_105 hMo (by decide) (hmk 20 74 (by decide)) ?_
    refine G_aload_n hX 1 rfl rfl d_Mo_raw_108 ?_
    refine M_get hX fg_Mo_243 d_Mo_raw_109 hMo (by decide) hF18 ?_
    refine G_iload_n hX 2 rfl rfl d_Mo_raw_112 ?_
    refine F_iast hX d_Mo_raw_113 74 (by decide) hc74 (by omega) (fun f5 h6 k7 => ?_)
    refine G_aload_n hX 1 rfl rfl d_Mo_raw_114 ?_
    have h8 : f5 61 = mob F := (k7 61 (by decide)).trans hMo
    refine M_get hX fg_Mo_115 d_Mo_raw_115 h8 (by decide) (hmk 19 73 (by decide)) ?_
    refine G_aload_n hX 1 rfl rfl d_Mo_raw_118 ?_
    refine M_get hX fg_Mo_243 d_Mo_raw_119 h8 (by decide) hF18 ?_
    refine G_iload_n hX 3 rfl rfl d_Mo_raw_122 ?_
    have h9 : f5 73 = iz E 300 rs := (k7 73 (by decide)).trans hc73
    refine F_iast hX d_Mo_raw_123 73 (by decide) h9 (by omega) (fun f10 h11 k12 => ?_)
    refine G_aload_n hX 1 rfl rfl d_Mo_raw_124 ?_
    refine G_dup hX rfl d_Mo_raw_125 ?_
    have h13 : f10 61 = mob F := (k12 61 (by decide)).trans h8
    refine M_get hX fg_Mo_243 d_Mo_raw_126 h13 (by decide) hF18 ?_
    refine G_iconst hX d_Mo_raw_129 ?_
    refine G_iadd_z hX d_Mo_raw_130 ?_
    refine M_put hX fg_Mo_243 fp_Mo_18 d_Mo_raw_131 h13 rfl rfl (by decide) (fun f14 F15 h16 h17 k18 k19 => ?_)
    have h20 : f14 73 = iz E 300 (uz rs n m) := (k19 73 (by decide)).trans h11
    have h21 : f14 74 = iz E 300 (uz ra n a) := (k19 74 (by decide)).trans ((k12 74 (by decide)).trans h6)
    exact F_vret hX hE d_Mo_raw_134 ⟨rfl, F15, _, _, _, h16, h17, (FrF.tr FrF.rf k18 (by decide)), h20, h21, Or.inr ⟨hg, rfl, rfl, rfl⟩, (Fr.tr (Fr.tr (Fr.tr Fr.rf k7 (by decide)) k12 (by decide)) k19 (by decide))⟩
  · skip
    refine G_iload_n hX 1 rfl rfl d_Mo_raw_7 ?_
    refine G_if_ge_z hX (tgt := 28) d_Mo_raw_8 rfl (by omega) (fun c22 => ?_) (fun c23 => ?_)
    · skip
      refine G_aload_n hX 0 rfl rfl d_Mo_raw_28 ?_
      refine M_get hX fg_Mo_118 d_Mo_raw_29 hMo (by decide) (hmk 20 74 (by decide)) ?_
      refine G_aload_n hX 0 rfl rfl d_Mo_raw_32 ?_
      refine M_get hX fg_Mo_243 d_Mo_raw_33 hMo (by decide) hF18 ?_
      refine G_iconst hX d_Mo_raw_36 ?_
      refine G_isub_z hX d_Mo_raw_37 ?_
      refine F_iald hX d_Mo_raw_38 74 (by decide) hc74 (by omega) ?_
      refine G_if_lt_z hX (tgt := 73) d_Mo_raw_39 rfl (by have := hr (by omega); omega) (fun c24 => ?_) (fun c25 => ?_)
      · skip
        refine G_iconst hX d_Mo_raw_73 ?_
        have hg : ¬ goR rs ra n a := by intro q; have q1 := q.1; have q2 := q.2; split at q2 <;> omega
        refine G_istore_n hX (lv' := [(3, .int (zI 0)), (0, .ref (eA E 61)), (1, .int (zI a)), (2, .int (zI m))]) rfl (by decide) rfl d_Mo_raw_74 ?_
        refine G_iload_n hX 0 rfl rfl d_Mo_raw_75 ?_
        refine G_if_eq_z hX (tgt := 104) d_Mo_raw_76 rfl (by omega) (fun c26 => ?_) (fun c27 => by exfalso; omega)
        refine G_aload_n hX 1 rfl rfl d_Mo_raw_104 ?_
        refine M_get hX fg_Mo_118 d_Mo_raw_105 hMo (by decide) (hmk 20 74 (by decide)) ?_
        refine G_aload_n hX 1 rfl rfl d_Mo_raw_108 ?_
        refine M_get hX fg_Mo_243 d_Mo_raw_109 hMo (by decide) hF18 ?_
        refine G_iload_n hX 2 rfl rfl d_Mo_raw_112 ?_
        refine F_iast hX d_Mo_raw_113 74 (by decide) hc74 (by omega) (fun f28 h29 k30 => ?_)
        refine G_aload_n hX 1 rfl rfl d_Mo_raw_114 ?_
        have h31 : f28 61 = mob F := (k30 61 (by decide)).trans hMo
        refine M_get hX fg_Mo_115 d_Mo_raw_115 h31 (by decide) (hmk 19 73 (by decide)) ?_
        refine G_aload_n hX 1 rfl rfl d_Mo_raw_118 ?_
        refine M_get hX fg_Mo_243 d_Mo_raw_119 h31 (by decide) hF18 ?_
        refine G_iload_n hX 3 rfl rfl d_Mo_raw_122 ?_
        have h32 : f28 73 = iz E 300 rs := (k30 73 (by decide)).trans hc73
        refine F_iast hX d_Mo_raw_123 73 (by decide) h32 (by omega) (fun f33 h34 k35 => ?_)
        refine G_aload_n hX 1 rfl rfl d_Mo_raw_124 ?_
        refine G_dup hX rfl d_Mo_raw_125 ?_
        have h36 : f33 61 = mob F := (k35 61 (by decide)).trans h31
        refine M_get hX fg_Mo_243 d_Mo_raw_126 h36 (by decide) hF18 ?_
        refine G_iconst hX d_Mo_raw_129 ?_
        refine G_iadd_z hX d_Mo_raw_130 ?_
        refine M_put hX fg_Mo_243 fp_Mo_18 d_Mo_raw_131 h36 rfl rfl (by decide) (fun f37 F38 h39 h40 k41 k42 => ?_)
        have h43 : f37 73 = iz E 300 (uz rs n m) := (k42 73 (by decide)).trans h34
        have h44 : f37 74 = iz E 300 (uz ra n a) := (k42 74 (by decide)).trans ((k35 74 (by decide)).trans h29)
        exact F_vret hX hE d_Mo_raw_134 ⟨rfl, F38, _, _, _, h39, h40, (FrF.tr FrF.rf k41 (by decide)), h43, h44, Or.inr ⟨hg, rfl, rfl, rfl⟩, (Fr.tr (Fr.tr (Fr.tr Fr.rf k30 (by decide)) k35 (by decide)) k42 (by decide))⟩
      · skip
        refine G_aload_n hX 0 rfl rfl d_Mo_raw_42 ?_
        refine M_get hX fg_Mo_118 d_Mo_raw_43 hMo (by decide) (hmk 20 74 (by decide)) ?_
        refine G_aload_n hX 0 rfl rfl d_Mo_raw_46 ?_
        refine M_get hX fg_Mo_243 d_Mo_raw_47 hMo (by decide) hF18 ?_
        refine G_iconst hX d_Mo_raw_50 ?_
        refine G_isub_z hX d_Mo_raw_51 ?_
        refine F_iald hX d_Mo_raw_52 74 (by decide) hc74 (by omega) ?_
        refine G_aload_n hX 0 rfl rfl d_Mo_raw_53 ?_
        refine M_get hX fg_Mo_115 d_Mo_raw_54 hMo (by decide) (hmk 19 73 (by decide)) ?_
        refine G_aload_n hX 0 rfl rfl d_Mo_raw_57 ?_
        refine M_get hX fg_Mo_243 d_Mo_raw_58 hMo (by decide) hF18 ?_
        refine G_iconst hX d_Mo_raw_61 ?_
        refine G_isub_z hX d_Mo_raw_62 ?_
        refine F_iald hX d_Mo_raw_63 73 (by decide) hc73 (by omega) ?_
        refine G_iadd_z hX d_Mo_raw_64 ?_
        refine G_iload_n hX 1 rfl rfl d_Mo_raw_65 ?_
        refine G_icmp_ne_z hX (tgt := 73) d_Mo_raw_66 rfl (by have := hr (by omega); omega) (fun c45 => ?_) (fun c46 => ?_)
        · skip
          refine G_iconst hX d_Mo_raw_73 ?_
          have hg : ¬ goR rs ra n a := by intro q; have q1 := q.1; have q2 := q.2; split at q2 <;> omega
          refine G_istore_n hX (lv' := [(3, .int (zI 0)), (0, .ref (eA E 61)), (1, .int (zI a)), (2, .int (zI m))]) rfl (by decide) rfl d_Mo_raw_74 ?_
          refine G_iload_n hX 0 rfl rfl d_Mo_raw_75 ?_
          refine G_if_eq_z hX (tgt := 104) d_Mo_raw_76 rfl (by omega) (fun c47 => ?_) (fun c48 => by exfalso; omega)
          refine G_aload_n hX 1 rfl rfl d_Mo_raw_104 ?_
          refine M_get hX fg_Mo_118 d_Mo_raw_105 hMo (by decide) (hmk 20 74 (by decide)) ?_
          refine G_aload_n hX 1 rfl rfl d_Mo_raw_108 ?_
          refine M_get hX fg_Mo_243 d_Mo_raw_109 hMo (by decide) hF18 ?_
          refine G_iload_n hX 2 rfl rfl d_Mo_raw_112 ?_
          refine F_iast hX d_Mo_raw_113 74 (by decide) hc74 (by omega) (fun f49 h50 k51 => ?_)
          refine G_aload_n hX 1 rfl rfl d_Mo_raw_114 ?_
          have h52 : f49 61 = mob F := (k51 61 (by decide)).trans hMo
          refine M_get hX fg_Mo_115 d_Mo_raw_115 h52 (by decide) (hmk 19 73 (by decide)) ?_
          refine G_aload_n hX 1 rfl rfl d_Mo_raw_118 ?_
          refine M_get hX fg_Mo_243 d_Mo_raw_119 h52 (by decide) hF18 ?_
          refine G_iload_n hX 3 rfl rfl d_Mo_raw_122 ?_
          have h53 : f49 73 = iz E 300 rs := (k51 73 (by decide)).trans hc73
          refine F_iast hX d_Mo_raw_123 73 (by decide) h53 (by omega) (fun f54 h55 k56 => ?_)
          refine G_aload_n hX 1 rfl rfl d_Mo_raw_124 ?_
          refine G_dup hX rfl d_Mo_raw_125 ?_
          have h57 : f54 61 = mob F := (k56 61 (by decide)).trans h52
          refine M_get hX fg_Mo_243 d_Mo_raw_126 h57 (by decide) hF18 ?_
          refine G_iconst hX d_Mo_raw_129 ?_
          refine G_iadd_z hX d_Mo_raw_130 ?_
          refine M_put hX fg_Mo_243 fp_Mo_18 d_Mo_raw_131 h57 rfl rfl (by decide) (fun f58 F59 h60 h61 k62 k63 => ?_)
          have h64 : f58 73 = iz E 300 (uz rs n m) := (k63 73 (by decide)).trans h55
          have h65 : f58 74 = iz E 300 (uz ra n a) := (k63 74 (by decide)).trans ((k56 74 (by decide)).trans h50)
          exact F_vret hX hE d_Mo_raw_134 ⟨rfl, F59, _, _, _, h60, h61, (FrF.tr FrF.rf k62 (by decide)), h64, h65, Or.inr ⟨hg, rfl, rfl, rfl⟩, (Fr.tr (Fr.tr (Fr.tr Fr.rf k51 (by decide)) k56 (by decide)) k63 (by decide))⟩
        · skip
          refine G_iconst hX d_Mo_raw_69 ?_
          refine G_goto hX (tgt := 74) d_Mo_raw_70 rfl ?_
          have hg : goR rs ra n a := ⟨by omega, by split <;> omega⟩
          refine G_istore_n hX (lv' := [(3, .int (zI 1)), (0, .ref (eA E 61)), (1, .int (zI a)), (2, .int (zI m))]) rfl (by decide) rfl d_Mo_raw_74 ?_
          refine G_iload_n hX 0 rfl rfl d_Mo_raw_75 ?_
          refine G_if_eq_z hX (tgt := 104) d_Mo_raw_76 rfl (by omega) (fun c66 => by exfalso; omega) (fun c67 => ?_)
          refine G_aload_n hX 1 rfl rfl d_Mo_raw_79 ?_
          refine M_get hX fg_Mo_115 d_Mo_raw_80 hMo (by decide) (hmk 19 73 (by decide)) ?_
          refine G_aload_n hX 1 rfl rfl d_Mo_raw_83 ?_
          refine M_get hX fg_Mo_243 d_Mo_raw_84 hMo (by decide) hF18 ?_
          refine G_iconst hX d_Mo_raw_87 ?_
          refine G_isub_z hX d_Mo_raw_88 ?_
          refine G_aload_n hX 1 rfl rfl d_Mo_raw_89 ?_
          refine M_get hX fg_Mo_115 d_Mo_raw_90 hMo (by decide) (hmk 19 73 (by decide)) ?_
          refine G_aload_n hX 1 rfl rfl d_Mo_raw_93 ?_
          refine M_get hX fg_Mo_243 d_Mo_raw_94 hMo (by decide) hF18 ?_
          refine G_iconst hX d_Mo_raw_97 ?_
          refine G_isub_z hX d_Mo_raw_98 ?_
          refine F_iald hX d_Mo_raw_99 73 (by decide) hc73 (by omega) ?_
          refine G_iload_n hX 3 rfl rfl d_Mo_raw_100 ?_
          refine G_iadd_z hX d_Mo_raw_101 ?_
          refine F_iast hX d_Mo_raw_102 73 (by decide) hc73 (by omega) (fun f68 h69 k70 => ?_)
          have h71 : f68 61 = mob F := (k70 61 (by decide)).trans hMo
          have h72 : f68 74 = iz E 300 ra := (k70 74 (by decide)).trans hc74
          exact F_vret hX hE d_Mo_raw_103 ⟨rfl, F, _, _, _, h71, hF18, FrF.rf, h69, h72, Or.inl ⟨hg, rfl, rfl, rfl⟩, (Fr.tr Fr.rf k70 (by decide))⟩
    · skip
      refine G_aload_n hX 0 rfl rfl d_Mo_raw_11 ?_
      refine M_get hX fg_Mo_118 d_Mo_raw_12 hMo (by decide) (hmk 20 74 (by decide)) ?_
      refine G_aload_n hX 0 rfl rfl d_Mo_raw_15 ?_
      refine M_get hX fg_Mo_243 d_Mo_raw_16 hMo (by decide) hF18 ?_
      refine G_iconst hX d_Mo_raw_19 ?_
      refine G_isub_z hX d_Mo_raw_20 ?_
      refine F_iald hX d_Mo_raw_21 74 (by decide) hc74 (by omega) ?_
      refine G_if_ge_z hX (tgt := 73) d_Mo_raw_22 rfl (by have := hr (by omega); omega) (fun c73 => ?_) (fun c74 => ?_)
      · skip
        refine G_iconst hX d_Mo_raw_73 ?_
        have hg : ¬ goR rs ra n a := by intro q; have q1 := q.1; have q2 := q.2; split at q2 <;> omega
        refine G_istore_n hX (lv' := [(3, .int (zI 0)), (0, .ref (eA E 61)), (1, .int (zI a)), (2, .int (zI m))]) rfl (by decide) rfl d_Mo_raw_74 ?_
        refine G_iload_n hX 0 rfl rfl d_Mo_raw_75 ?_
        refine G_if_eq_z hX (tgt := 104) d_Mo_raw_76 rfl (by omega) (fun c75 => ?_) (fun c76 => by exfalso; omega)
        refine G_aload_n hX 1 rfl rfl d_Mo_raw_104 ?_
        refine M_get hX fg_Mo_118 d_Mo_raw_105 hMo (by decide) (hmk 20 74 (by decide)) ?_
        refine G_aload_n hX 1 rfl rfl d_Mo_raw_108 ?_
        refine M_get hX fg_Mo_243 d_Mo_raw_109 hMo (by decide) hF18 ?_
        refine G_iload_n hX 2 rfl rfl d_Mo_raw_112 ?_
        refine F_iast hX d_Mo_raw_113 74 (by decide) hc74 (by omega) (fun f77 h78 k79 => ?_)
        refine G_aload_n hX 1 rfl rfl d_Mo_raw_114 ?_
        have h80 : f77 61 = mob F := (k79 61 (by decide)).trans hMo
        refine M_get hX fg_Mo_115 d_Mo_raw_115 h80 (by decide) (hmk 19 73 (by decide)) ?_
        refine G_aload_n hX 1 rfl rfl d_Mo_raw_118 ?_
        refine M_get hX fg_Mo_243 d_Mo_raw_119 h80 (by decide) hF18 ?_
        refine G_iload_n hX 3 rfl rfl d_Mo_raw_122 ?_
        have h81 : f77 73 = iz E 300 rs := (k79 73 (by decide)).trans hc73
        refine F_iast hX d_Mo_raw_123 73 (by decide) h81 (by omega) (fun f82 h83 k84 => ?_)
        refine G_aload_n hX 1 rfl rfl d_Mo_raw_124 ?_
        refine G_dup hX rfl d_Mo_raw_125 ?_
        have h85 : f82 61 = mob F := (k84 61 (by decide)).trans h80
        refine M_get hX fg_Mo_243 d_Mo_raw_126 h85 (by decide) hF18 ?_
        refine G_iconst hX d_Mo_raw_129 ?_
        refine G_iadd_z hX d_Mo_raw_130 ?_
        refine M_put hX fg_Mo_243 fp_Mo_18 d_Mo_raw_131 h85 rfl rfl (by decide) (fun f86 F87 h88 h89 k90 k91 => ?_)
        have h92 : f86 73 = iz E 300 (uz rs n m) := (k91 73 (by decide)).trans h83
        have h93 : f86 74 = iz E 300 (uz ra n a) := (k91 74 (by decide)).trans ((k84 74 (by decide)).trans h78)
        exact F_vret hX hE d_Mo_raw_134 ⟨rfl, F87, _, _, _, h88, h89, (FrF.tr FrF.rf k90 (by decide)), h92, h93, Or.inr ⟨hg, rfl, rfl, rfl⟩, (Fr.tr (Fr.tr (Fr.tr Fr.rf k79 (by decide)) k84 (by decide)) k91 (by decide))⟩
      · skip
        refine G_goto hX (tgt := 69) d_Mo_raw_25 rfl ?_
        refine G_iconst hX d_Mo_raw_69 ?_
        refine G_goto hX (tgt := 74) d_Mo_raw_70 rfl ?_
        have hg : goR rs ra n a := ⟨by omega, by split <;> omega⟩
        refine G_istore_n hX (lv' := [(3, .int (zI 1)), (0, .ref (eA E 61)), (1, .int (zI a)), (2, .int (zI m))]) rfl (by decide) rfl d_Mo_raw_74 ?_
        refine G_iload_n hX 0 rfl rfl d_Mo_raw_75 ?_
        refine G_if_eq_z hX (tgt := 104) d_Mo_raw_76 rfl (by omega) (fun c94 => by exfalso; omega) (fun c95 => ?_)
        refine G_aload_n hX 1 rfl rfl d_Mo_raw_79 ?_
        refine M_get hX fg_Mo_115 d_Mo_raw_80 hMo (by decide) (hmk 19 73 (by decide)) ?_
        refine G_aload_n hX 1 rfl rfl d_Mo_raw_83 ?_
        refine M_get hX fg_Mo_243 d_Mo_raw_84 hMo (by decide) hF18 ?_
        refine G_iconst hX d_Mo_raw_87 ?_
        refine G_isub_z hX d_Mo_raw_88 ?_
        refine G_aload_n hX 1 rfl rfl d_Mo_raw_89 ?_
        refine M_get hX fg_Mo_115 d_Mo_raw_90 hMo (by decide) (hmk 19 73 (by decide)) ?_
        refine G_aload_n hX 1 rfl rfl d_Mo_raw_93 ?_
        refine M_get hX fg_Mo_243 d_Mo_raw_94 hMo (by decide) hF18 ?_
        refine G_iconst hX d_Mo_raw_97 ?_
        refine G_isub_z hX d_Mo_raw_98 ?_
        refine F_iald hX d_Mo_raw_99 73 (by decide) hc73 (by omega) ?_
        refine G_iload_n hX 3 rfl rfl d_Mo_raw_100 ?_
        refine G_iadd_z hX d_Mo_raw_101 ?_
        refine F_iast hX d_Mo_raw_102 73 (by decide) hc73 (by omega) (fun f96 h97 k98 => ?_)
        have h99 : f96 61 = mob F := (k98 61 (by decide)).trans hMo
        have h100 : f96 74 = iz E 300 ra := (k98 74 (by decide)).trans hc74
        exact F_vret hX hE d_Mo_raw_103 ⟨rfl, F, _, _, _, h99, hF18, FrF.rf, h97, h100, Or.inl ⟨hg, rfl, rfl, rfl⟩, (Fr.tr Fr.rf k98 (by decide))⟩
theorem c_Mo_tell (E : EV) (f : Nat → va_E) (F : Nat → Value) (t : Int) (n : Int) (a : Int) (w : Int) (pl : Int) (mt : Int → Int) (ms : Int → Int) (ma : Int → Int) (mn : Int → Int) (hMo : f 61 = mob F) (hmk : moK E F) (hF11 : F 11 = .int (zI pl)) (hc69 : f 69 = iz E 700 mt) (hc70 : f 70 = iz E 700 ms) (hc71 : f 71 = iz E 700 ma) (hc72 : f 72 = iz E 700 mn) (hpl : 0 ≤ pl ∧ pl < 700) : CF yn_Mo_tell cd_Mo_tell 5 none 0 E [.ref (eA E 61), .int (zI t), .int (zI n), .int (zI a), .int (zI w)] f (fun r f' => r = none ∧ ∃ (F' : Nat → Value), f' 61 = mob F' ∧ F' 11 = .int (zI (pl + 1)) ∧ FrF [11] F F' ∧ f' 69 = iz E 700 (uz mt pl t) ∧ f' 70 = iz E 700 (uz ms pl n) ∧ f' 71 = iz E 700 (uz ma pl a) ∧ f' 72 = iz E 700 (uz mn pl w) ∧ Fr [69, 70, 71, 72, 61] f f') := by
  refine CF.of (by decide +kernel) (Nat.le_of_ble_eq_true rfl) fun X hX hE => ?_
  have hX : Ok E X "DeltaFerryModel" "tell" cd_Mo_tell 5 none (rl 0) := hX
  refine G_cast (lv' := [(0, .ref (eA E 61)), (1, .int (zI t)), (2, .int (zI n)), (3, .int (zI a)), (4, .int (zI w))]) ?_ rfl rfl rfl rfl
  refine G_aload_n hX 0 rfl rfl d_Mo_tell_0 ?_
  refine M_get hX fg_Mo_103 d_Mo_tell_1 hMo (by decide) (hmk 14 69 (by decide)) ?_
  refine G_aload_n hX 0 rfl rfl d_Mo_tell_4 ?_
  refine M_get hX fg_Mo_100 d_Mo_tell_5 hMo (by decide) hF11 ?_
  refine G_iload_n hX 1 rfl rfl d_Mo_tell_8 ?_
  refine F_iast hX d_Mo_tell_9 69 (by decide) hc69 (by omega) (fun f1 h2 k3 => ?_)
  refine G_aload_n hX 0 rfl rfl d_Mo_tell_10 ?_
  have h4 : f1 61 = mob F := (k3 61 (by decide)).trans hMo
  refine M_get hX fg_Mo_106 d_Mo_tell_11 h4 (by decide) (hmk 15 70 (by decide)) ?_
  refine G_aload_n hX 0 rfl rfl d_Mo_tell_14 ?_
  refine M_get hX fg_Mo_100 d_Mo_tell_15 h4 (by decide) hF11 ?_
  refine G_iload_n hX 2 rfl rfl d_Mo_tell_18 ?_
  have h5 : f1 70 = iz E 700 ms := (k3 70 (by decide)).trans hc70
  refine F_iast hX d_Mo_tell_19 70 (by decide) h5 (by omega) (fun f6 h7 k8 => ?_)
  refine G_aload_n hX 0 rfl rfl d_Mo_tell_20 ?_
  have h9 : f6 61 = mob F := (k8 61 (by decide)).trans h4
  refine M_get hX fg_Mo_109 d_Mo_tell_21 h9 (by decide) (hmk 16 71 (by decide)) ?_
  refine G_aload_n hX 0 rfl rfl d_Mo_tell_24 ?_
  refine M_get hX fg_Mo_100 d_Mo_tell_25 h9 (by decide) hF11 ?_
  refine G_iload_n hX 3 rfl rfl d_Mo_tell_28 ?_
  have h10 : f6 71 = iz E 700 ma := (k8 71 (by decide)).trans ((k3 71 (by decide)).trans hc71)
  refine F_iast hX d_Mo_tell_29 71 (by decide) h10 (by omega) (fun f11 h12 k13 => ?_)
  refine G_aload_n hX 0 rfl rfl d_Mo_tell_30 ?_
  have h14 : f11 61 = mob F := (k13 61 (by decide)).trans h9
  refine M_get hX fg_Mo_112 d_Mo_tell_31 h14 (by decide) (hmk 17 72 (by decide)) ?_
  refine G_aload_n hX 0 rfl rfl d_Mo_tell_34 ?_
  refine M_get hX fg_Mo_100 d_Mo_tell_35 h14 (by decide) hF11 ?_
  refine G_iload hX 4 rfl d_Mo_tell_38 ?_
  have h15 : f11 72 = iz E 700 mn := (k13 72 (by decide)).trans ((k8 72 (by decide)).trans ((k3 72 (by decide)).trans hc72))
  refine F_iast hX d_Mo_tell_40 72 (by decide) h15 (by omega) (fun f16 h17 k18 => ?_)
  refine G_aload_n hX 0 rfl rfl d_Mo_tell_41 ?_
  refine G_dup hX rfl d_Mo_tell_42 ?_
  have h19 : f16 61 = mob F := (k18 61 (by decide)).trans h14
  refine M_get hX fg_Mo_100 d_Mo_tell_43 h19 (by decide) hF11 ?_
  refine G_iconst hX d_Mo_tell_46 ?_
  refine G_iadd_z hX d_Mo_tell_47 ?_
  refine M_put hX fg_Mo_100 fp_Mo_11 d_Mo_tell_48 h19 rfl rfl (by decide) (fun f20 F21 h22 h23 k24 k25 => ?_)
  have h26 : f20 69 = iz E 700 (uz mt pl t) := (k25 69 (by decide)).trans ((k18 69 (by decide)).trans ((k13 69 (by decide)).trans ((k8 69 (by decide)).trans h2)))
  have h27 : f20 70 = iz E 700 (uz ms pl n) := (k25 70 (by decide)).trans ((k18 70 (by decide)).trans ((k13 70 (by decide)).trans h7))
  have h28 : f20 71 = iz E 700 (uz ma pl a) := (k25 71 (by decide)).trans ((k18 71 (by decide)).trans h12)
  have h29 : f20 72 = iz E 700 (uz mn pl w) := (k25 72 (by decide)).trans h17
  exact F_vret hX hE d_Mo_tell_51 ⟨rfl, F21, h22, h23, (FrF.tr FrF.rf k24 (by decide)), h26, h27, h28, h29, (Fr.tr (Fr.tr (Fr.tr (Fr.tr (Fr.tr Fr.rf k3 (by decide)) k8 (by decide)) k13 (by decide)) k18 (by decide)) k25 (by decide))⟩
theorem c_Mo_scan (E : EV) (f : Nat → va_E) (F : Nat → Value) (w : Int) (bl : Int) (ct : Int) (b : Int → Int) (sz : Int → Int) (gF : Int → Int) (st : Nat → Int64) (W : Nat → Int64) (A : Nat → Int64) (L : Nat → Int64) (Wm : Nat → Int64) (Am : Nat → Int64) (Lm : Nat → Int64) (rs : Int → Int) (ra : Int → Int) (mt : Int → Int) (ms : Int → Int) (ma : Int → Int) (mn : Int → Int) (P : PS) (hMo : f 61 = mob F) (hmk : moK E F) (hF6 : F 6 = .int (zI bl)) (hF7 : F 7 = .int (zI ct)) (hc63 : f 63 = iz E 1600 b) (hc64 : f 64 = iz E 4 sz) (hc62 : f 62 = la E 32 kkF) (hc65 : f 65 = la E 4 st) (hc66 : f 66 = la E 75 Wm) (hc67 : f 67 = la E 75 Am) (hc68 : f 68 = la E 75 Lm) (hc73 : f 73 = iz E 300 rs) (hc74 : f 74 = iz E 300 ra) (hc69 : f 69 = iz E 700 mt) (hc70 : f 70 = iz E 700 ms) (hc71 : f 71 = iz E 700 ma) (hc72 : f 72 = iz E 700 mn) (hsz : ∀ k, 0 ≤ k → k ≤ 3 → 0 ≤ sz k ∧ sz k ≤ (if k = 2 then 700 else 300)) (hbl : 4 ≤ bl ∧ bl ≤ 64) (hct : 0 ≤ ct ∧ ct ≤ 75) (hcb : ct * bl ≤ 300) (hw : 16 ≤ w ∧ w ≤ 256) (hG : isB gF) (hag : ∀ i, 0 ≤ i → i < sz 1 → b (300 + i) = gF i) (hsg : ∀ k : Int, 0 ≤ k → k < ct → Wm k.toNat = W k.toNat ∧ Am k.toNat = A k.toNat ∧ Lm k.toNat = L k.toNat) : CF yn_Mo_scan cd_Mo_scan 7 (some (.int)) 4 E [.ref (eA E 61), .int (zI w)] f (fun r f' => r = some (.int (zI (pC (scF W A L gF bl ct (sz 1) w P)))) ∧ ∃ (F' : Nat → Value) (st' : Nat → Int64) (rs' : Int → Int) (ra' : Int → Int) (mt' : Int → Int) (ms' : Int → Int) (ma' : Int → Int) (mn' : Int → Int), f' 61 = mob F' ∧ F' 13 = .int (zI w) ∧ F' 12 = .int (zI (ct * bl)) ∧ F' 11 = .int (zI (pC (scF W A L gF bl ct (sz 1) w P))) ∧ FrF [4, 5, 11, 12, 13, 18] F F' ∧ f' 65 = la E 4 st' ∧ f' 73 = iz E 300 rs' ∧ f' 74 = iz E 300 ra' ∧ f' 69 = iz E 700 mt' ∧ f' 70 = iz E 700 ms' ∧ f' 71 = iz E 700 ma' ∧ f' 72 = iz E 700 mn' ∧ (plE mt' ms' ma' mn' (scF W A L gF bl ct (sz 1) w P)) ∧ Fr [65, 73, 74, 69, 70, 71, 72, 61] f f') := by
  refine CF.of (by decide +kernel) (Nat.le_of_ble_eq_true rfl) fun X hX hE => ?_
  have hX : Ok E X "DeltaFerryModel" "scan" cd_Mo_scan 7 (some (.int)) (rl 4) := hX
  refine G_cast (lv' := [(0, .ref (eA E 61)), (1, .int (zI w))]) ?_ rfl rfl rfl rfl
  have hsz1 := hsz 1 (by decide) (by decide)
  rw [if_neg (by decide)] at hsz1
  have hw0 : 0 < w := by omega
  refine G_aload_n hX 0 rfl rfl d_Mo_scan_0 ?_
  refine M_get hX fg_Mo_87 d_Mo_scan_1 hMo (by decide) hF7 ?_
  refine G_if_lt_z hX (tgt := 20) d_Mo_scan_4 rfl (by omega) (fun c1 => by exfalso; omega) (fun c2 => ?_)
  refine G_iload_n hX 1 rfl rfl d_Mo_scan_7 ?_
  refine G_bipush hX (by decide) d_Mo_scan_8 ?_
  refine G_icmp_lt_z hX (tgt := 20) d_Mo_scan_10 rfl (by omega) (fun c3 => by exfalso; omega) (fun c4 => ?_)
  refine G_iload_n hX 1 rfl rfl d_Mo_scan_13 ?_
  refine G_sipush hX (by decide) d_Mo_scan_14 ?_
  refine G_icmp_le_z hX (tgt := 22) d_Mo_scan_17 rfl (by omega) (fun c5 => ?_) (fun c6 => by exfalso; omega)
  refine G_aload_n hX 0 rfl rfl d_Mo_scan_22 ?_
  refine G_iload_n hX 1 rfl rfl d_Mo_scan_23 ?_
  refine M_put hX fg_Mo_246 fp_Mo_13 d_Mo_scan_24 hMo rfl rfl (by decide) (fun f7 F8 h9 h10 k11 k12 => ?_)
  refine G_aload_n hX 0 rfl rfl d_Mo_scan_27 ?_
  refine G_aload_n hX 0 rfl rfl d_Mo_scan_28 ?_
  have h13 : F8 7 = .int (zI ct) := (k11 7 (by decide)).trans hF7
  refine M_get hX fg_Mo_87 d_Mo_scan_29 h9 (by decide) h13 ?_
  refine G_aload_n hX 0 rfl rfl d_Mo_scan_32 ?_
  have h14 : F8 6 = .int (zI bl) := (k11 6 (by decide)).trans hF6
  refine M_get hX fg_Mo_240 d_Mo_scan_33 h9 (by decide) h14 ?_
  refine G_imul_z hX d_Mo_scan_36 ?_
  refine M_put hX fg_Mo_249 fp_Mo_12 d_Mo_scan_37 h9 rfl rfl (by decide) (fun f15 F16 h17 h18 k19 k20 => ?_)
  refine G_aload_n hX 0 rfl rfl d_Mo_scan_40 ?_
  refine G_iconst hX d_Mo_scan_41 ?_
  refine M_put hX fg_Mo_243 fp_Mo_18 d_Mo_scan_42 h17 rfl rfl (by decide) (fun f21 F22 h23 h24 k25 k26 => ?_)
  refine G_iconst hX d_Mo_scan_45 ?_
  refine G_istore_n hX (lv' := [(2, .int (zI 0)), (0, .ref (eA E 61)), (1, .int (zI w))]) rfl (by decide) rfl d_Mo_scan_46 ?_
  have loop32 : ∀ (q : Nat) (p : Int) (n : Int) (k : Nat) (Q : PS) (rs1 : Int → Int) (ra1 : Int → Int) (st1 : Nat → Int64) (F27 : Nat → Value) (f33 : Nat → va_E), (sz 1 - p).toNat < q → (0 ≤ p ∧ p ≤ sz 1 ∧ sz 1 - p ≤ k ∧ 0 ≤ n) → (rwX w rs1 ra1 (pT P, pS P, pA P, pN P, 0) n.toNat = (p, Q)) → (∀ i : Int, 0 ≤ i → i < n → (1 ≤ rs1 i ∧ rs1 i ≤ p) ∧ -1 ≤ ra1 i ∧ ra1 i ≤ 300) → (scF W A L gF bl ct (sz 1) w P = scL W A L gF bl ct (sz 1) w k p Q) → (F27 18 = .int (zI n)) → (F27 13 = .int (zI w)) → (F27 12 = .int (zI (ct * bl))) → (FrF [4, 5, 12, 13, 18] F22 F27) → f33 65 = la E 4 st1 → f33 73 = iz E 300 rs1 → f33 74 = iz E 300 ra1 → f33 61 = mob F27 → Fr [65, 73, 74, 61] f21 f33 → G E X 0 0 47 [(0, .ref (eA E 61)), (1, .int (zI w)), (2, .int (zI p))] [] (wl E f33) := by
    intro q
    induction q with
    | zero => intro p n k Q rs1 ra1 st1 F27 f33 hms35; exact absurd hms35 (Nat.not_lt_zero _)
    | succ q ih36 =>
      intro p n k Q rs1 ra1 st1 F27 f33 hms35 hp hQ hrs hsc h28 h29 h30 k31 h37 h38 h39 h40 k34
      have hnp := rwX_b (w := w) (rs := rs1) (ra := ra1) (P := (pT P, pS P, pA P, pN P, 0)) hw0 rfl n.toNat (fun i h1 h2 => (hrs i h1 (by omega)).1.1)
      rw [hQ] at hnp
      have hnp1 : (n.toNat : Int) ≤ p := hnp.1
      refine G_iload_n hX 2 rfl rfl d_Mo_scan_47 ?_
      refine G_aload_n hX 0 rfl rfl d_Mo_scan_48 ?_
      have h41 : F27 2 = .ref (eA E 64) := (k31 2 (by decide)).trans ((k25 2 (by decide)).trans ((k19 2 (by decide)).trans ((k11 2 (by decide)).trans (hmk 2 64 (by decide)))))
      refine M_get hX fg_Mo_81 d_Mo_scan_49 h40 (by decide) h41 ?_
      refine G_iconst hX d_Mo_scan_52 ?_
      have h42 : f33 64 = iz E 4 sz := (k34 64 (by decide)).trans ((k26 64 (by decide)).trans ((k20 64 (by decide)).trans ((k12 64 (by decide)).trans hc64)))
      refine F_iald hX d_Mo_scan_53 64 (by decide) h42 (by omega) ?_
      refine G_icmp_ge_z hX (tgt := 113) d_Mo_scan_54 rfl (by omega) (fun c43 => ?_) (fun c44 => ?_)
      · skip
        refine G_aload_n hX 0 rfl rfl d_Mo_scan_113 ?_
        refine G_iconst hX d_Mo_scan_114 ?_
        refine M_put hX fg_Mo_100 fp_Mo_11 d_Mo_scan_115 h40 rfl rfl (by decide) (fun f45 F46 h47 h48 k49 k50 => ?_)
        refine G_iconst hX d_Mo_scan_118 ?_
        refine G_istore_n hX (lv' := [(2, .int (zI 0)), (0, .ref (eA E 61)), (1, .int (zI w))]) rfl (by decide) rfl d_Mo_scan_119 ?_
        refine G_iconst hX d_Mo_scan_120 ?_
        refine G_istore_n hX (lv' := [(3, .int (zI 0)), (2, .int (zI 0)), (0, .ref (eA E 61)), (1, .int (zI w))]) rfl (by decide) rfl d_Mo_scan_121 ?_
        have hpe : p = sz 1 := by omega
        have hscQ : scF W A L gF bl ct (sz 1) w P = Q := hsc.trans (scL_end (by omega))
        have loop54 : ∀ (q : Nat) (i : Int) (mt1 : Int → Int) (ms1 : Int → Int) (ma1 : Int → Int) (mn1 : Int → Int) (F51 : Nat → Value) (f55 : Nat → va_E), (n - i).toNat < q → (0 ≤ i ∧ i ≤ n) → (plE mt1 ms1 ma1 mn1 (rwX w rs1 ra1 (pT P, pS P, pA P, pN P, 0) i.toNat).2) → (F51 11 = .int (zI (pC (rwX w rs1 ra1 (pT P, pS P, pA P, pN P, 0) i.toNat).2))) → (FrF [11] F46 F51) → f55 69 = iz E 700 mt1 → f55 70 = iz E 700 ms1 → f55 71 = iz E 700 ma1 → f55 72 = iz E 700 mn1 → f55 61 = mob F51 → Fr [69, 70, 71, 72, 61] f45 f55 → G E X 0 0 122 [(0, .ref (eA E 61)), (1, .int (zI w)), (2, .int (zI ((rwX w rs1 ra1 (pT P, pS P, pA P, pN P, 0) i.toNat).1))), (3, .int (zI i))] [] (wl E f55) := by
          intro q
          induction q with
          | zero => intro i mt1 ms1 ma1 mn1 F51 f55 hms57; exact absurd hms57 (Nat.not_lt_zero _)
          | succ q ih58 =>
            intro i mt1 ms1 ma1 mn1 F51 f55 hms57 hi hpe1 h52 k53 h59 h60 h61 h62 h63 k56
            refine G_iload_n hX 3 rfl rfl d_Mo_scan_122 ?_
            refine G_aload_n hX 0 rfl rfl d_Mo_scan_123 ?_
            have h64 : F51 18 = .int (zI n) := (k53 18 (by decide)).trans ((k49 18 (by decide)).trans h28)
            refine M_get hX fg_Mo_243 d_Mo_scan_124 h63 (by decide) h64 ?_
            refine G_icmp_ge_z hX (tgt := 248) d_Mo_scan_127 rfl (by omega) (fun c65 => ?_) (fun c66 => ?_)
            · skip
              refine G_aload_n hX 0 rfl rfl d_Mo_scan_248 ?_
              refine M_get hX fg_Mo_100 d_Mo_scan_249 h63 (by decide) h52 ?_
              have hin : i = n := by omega
              rw [hin, hQ] at hpe1
              rw [← hscQ] at hpe1
              have h67 : F51 13 = .int (zI w) := (k53 13 (by decide)).trans ((k49 13 (by decide)).trans h29)
              have h68 : F51 12 = .int (zI (ct * bl)) := (k53 12 (by decide)).trans ((k49 12 (by decide)).trans h30)
              have h69 : f55 65 = la E 4 st1 := (k56 65 (by decide)).trans ((k50 65 (by decide)).trans h37)
              have h70 : f55 73 = iz E 300 rs1 := (k56 73 (by decide)).trans ((k50 73 (by decide)).trans h38)
              have h71 : f55 74 = iz E 300 ra1 := (k56 74 (by decide)).trans ((k50 74 (by decide)).trans h39)
              exact F_iret hX hE d_Mo_scan_252 ⟨by rw [hscQ, hin, hQ], F51, _, _, _, _, _, _, _, h63, h67, h68, (by rw [hscQ]; exact (h52).trans (by rw [hin, hQ])), (FrF.tr (FrF.tr (FrF.tr (FrF.tr (FrF.tr (FrF.tr FrF.rf k11 (by decide)) k19 (by decide)) k25 (by decide)) k31 (by decide)) k49 (by decide)) k53 (by decide)), h69, h70, h71, h59, h60, h61, h62, hpe1, (Fr.tr (Fr.tr (Fr.tr (Fr.tr (Fr.tr (Fr.tr Fr.rf k12 (by decide)) k20 (by decide)) k26 (by decide)) k34 (by decide)) k50 (by decide)) k56 (by decide))⟩
            · skip
              have hri := hrs i hi.1 (by omega)
              have hib := rwX_b (w := w) (rs := rs1) (ra := ra1) (P := (pT P, pS P, pA P, pN P, 0)) hw0 rfl i.toNat (fun j h1 h2 => (hrs j h1 (by omega)).1.1)
              have him := rwX_m (w := w) (rs := rs1) (ra := ra1) (P := (pT P, pS P, pA P, pN P, 0)) (i + 1).toNat n.toNat (by omega) (fun j h1 h2 => (hrs j h1 (by omega)).1.1)
              rw [hQ] at him
              have hxs := rwX_s (w := w) (rs := rs1) (ra := ra1) (P := (pT P, pS P, pA P, pN P, 0)) hi.1
              have hx1 : (rwX w rs1 ra1 (pT P, pS P, pA P, pN P, 0) (i + 1).toNat).1 = (rwX w rs1 ra1 (pT P, pS P, pA P, pN P, 0) i.toNat).1 + rs1 i := by rw [hxs]
              have hx2 := (congrArg Prod.snd hxs).symm
              rw [hx1] at him
              have him2 : (rwX w rs1 ra1 (pT P, pS P, pA P, pN P, 0) i.toNat).1 + rs1 i ≤ p := him
              refine G_aload_n hX 0 rfl rfl d_Mo_scan_130 ?_
              have h72 : F51 19 = .ref (eA E 73) := (k53 19 (by decide)).trans ((k49 19 (by decide)).trans ((k31 19 (by decide)).trans ((k25 19 (by decide)).trans ((k19 19 (by decide)).trans ((k11 19 (by decide)).trans (hmk 19 73 (by decide)))))))
              refine M_get hX fg_Mo_115 d_Mo_scan_131 h63 (by decide) h72 ?_
              refine G_iload_n hX 3 rfl rfl d_Mo_scan_134 ?_
              have h73 : f55 73 = iz E 300 rs1 := (k56 73 (by decide)).trans ((k50 73 (by decide)).trans h38)
              refine F_iald hX d_Mo_scan_135 73 (by decide) h73 (by omega) ?_
              refine G_istore hX (lv' := [(4, .int (zI (rs1 i))), (0, .ref (eA E 61)), (1, .int (zI w)), (2, .int (zI ((rwX w rs1 ra1 (pT P, pS P, pA P, pN P, 0) i.toNat).1))), (3, .int (zI i))]) (by decide) rfl d_Mo_scan_136 ?_
              have loop77 : ∀ (q : Nat) (x : Int) (R : PS) (k3 : Nat) (mt2 : Int → Int) (ms2 : Int → Int) (ma2 : Int → Int) (mn2 : Int → Int) (F74 : Nat → Value) (f78 : Nat → va_E), (((rwX w rs1 ra1 (pT P, pS P, pA P, pN P, 0) i.toNat).1 + rs1 i) - x).toNat < q → (((rwX w rs1 ra1 (pT P, pS P, pA P, pN P, 0) i.toNat).1 ≤ x ∧ x ≤ ((rwX w rs1 ra1 (pT P, pS P, pA P, pN P, 0) i.toNat).1 + rs1 i) ∧ ((rwX w rs1 ra1 (pT P, pS P, pA P, pN P, 0) i.toNat).1 + rs1 i) - x ≤ k3) ∧ 0 ≤ pC R ∧ pC R ≤ x) → (apX w (tyR (ra1 i)) (rwX w rs1 ra1 (pT P, pS P, pA P, pN P, 0) i.toNat).1 (ra1 i) ((rwX w rs1 ra1 (pT P, pS P, pA P, pN P, 0) i.toNat).1 + rs1 i) k3 x R = (rwX w rs1 ra1 (pT P, pS P, pA P, pN P, 0) (i + 1).toNat).2) → (plE mt2 ms2 ma2 mn2 R) → (F74 11 = .int (zI (pC R))) → (FrF [11] F51 F74) → f78 69 = iz E 700 mt2 → f78 70 = iz E 700 ms2 → f78 71 = iz E 700 ma2 → f78 72 = iz E 700 mn2 → f78 61 = mob F74 → Fr [69, 70, 71, 72, 61] f55 f78 → G E X 0 0 138 [(0, .ref (eA E 61)), (1, .int (zI w)), (2, .int (zI x)), (3, .int (zI i)), (4, .int (zI (((rwX w rs1 ra1 (pT P, pS P, pA P, pN P, 0) i.toNat).1 + rs1 i) - x)))] [] (wl E f78) := by
                intro q
                induction q with
                | zero => intro x R k3 mt2 ms2 ma2 mn2 F74 f78 hms80; exact absurd hms80 (Nat.not_lt_zero _)
                | succ q ih81 =>
                  intro x R k3 mt2 ms2 ma2 mn2 F74 f78 hms80 hx hap hpe2 h75 k76 h82 h83 h84 h85 h86 k79
                  have hx0 : 0 ≤ x := by omega
                  have hmo := Int.emod_nonneg x (show w ≠ 0 by omega)
                  have hmo2 := Int.emod_lt_of_pos x hw0
                  have hdv := Int.ediv_nonneg hx0 (show 0 ≤ w by omega)
                  have hwp := wpt_m (x := x) (e := ((rwX w rs1 ra1 (pT P, pS P, pA P, pN P, 0) i.toNat).1 + rs1 i)) hw0
                  have hwb : x < ((rwX w rs1 ra1 (pT P, pS P, pA P, pN P, 0) i.toNat).1 + rs1 i) → 1 ≤ wpt w x ((rwX w rs1 ra1 (pT P, pS P, pA P, pN P, 0) i.toNat).1 + rs1 i) ∧ x + wpt w x ((rwX w rs1 ra1 (pT P, pS P, pA P, pN P, 0) i.toNat).1 + rs1 i) ≤ ((rwX w rs1 ra1 (pT P, pS P, pA P, pN P, 0) i.toNat).1 + rs1 i) := fun q => wpt_b hw0 q
                  refine G_iload hX 4 rfl d_Mo_scan_138 ?_
                  refine G_if_le_z hX (tgt := 242) d_Mo_scan_140 rfl (by omega) (fun c87 => ?_) (fun c88 => ?_)
                  · skip
                    refine G_iinc_z hX (lv' := [(3, .int (zI (i + 1))), (0, .ref (eA E 61)), (1, .int (zI w)), (2, .int (zI x)), (4, .int (zI (((rwX w rs1 ra1 (pT P, pS P, pA P, pN P, 0) i.toNat).1 + rs1 i) - x)))]) 3 rfl (by decide) rfl d_Mo_scan_242 ?_
                    refine G_goto hX (tgt := 122) d_Mo_scan_245 rfl ?_
                    have hxe : x = ((rwX w rs1 ra1 (pT P, pS P, pA P, pN P, 0) i.toNat).1 + rs1 i) := by omega
                    rw [apX_e (by omega)] at hap
                    refine G_loc (lv' := [(0, .ref (eA E 61)), (1, .int (zI w)), (2, .int (zI x)), (3, .int (zI (i + 1)))]) [1, 2, 3, 0] rfl ?_
                    refine G_cast (ih58 (i + 1) mt2 ms2 ma2 mn2 F74 f78 (by omega) (by omega) (by rw [← hap]; exact hpe2) (by rw [← hap]; exact h75) (FrF.tr (FrF.tr FrF.rf k53 (by decide)) k76 (by decide)) h82 h83 h84 h85 h86 (Fr.tr (Fr.tr Fr.rf k56 (by decide)) k79 (by decide))) rfl (by rw [hx1, ← hxe]) rfl rfl
                  · skip
                    refine G_aload_n hX 0 rfl rfl d_Mo_scan_143 ?_
                    have h89 : F74 13 = .int (zI w) := (k76 13 (by decide)).trans ((k53 13 (by decide)).trans ((k49 13 (by decide)).trans h29))
                    refine M_get hX fg_Mo_246 d_Mo_scan_144 h86 (by decide) h89 ?_
                    refine G_iload_n hX 2 rfl rfl d_Mo_scan_147 ?_
                    refine G_aload_n hX 0 rfl rfl d_Mo_scan_148 ?_
                    refine M_get hX fg_Mo_246 d_Mo_scan_149 h86 (by decide) h89 ?_
                    refine G_irem_z hX (by omega) d_Mo_scan_152 ?_
                    refine G_isub_z hX d_Mo_scan_153 ?_
                    refine G_istore hX (lv' := [(5, .int (zI (w - (x % w)))), (0, .ref (eA E 61)), (1, .int (zI w)), (2, .int (zI x)), (3, .int (zI i)), (4, .int (zI (((rwX w rs1 ra1 (pT P, pS P, pA P, pN P, 0) i.toNat).1 + rs1 i) - x)))]) (by decide) rfl d_Mo_scan_154 ?_
                    refine G_iload hX 5 rfl d_Mo_scan_156 ?_
                    refine G_iload hX 0 rfl d_Mo_scan_158 ?_
                    refine G_icmp_ge_z hX (tgt := 168) d_Mo_scan_160 rfl (by omega) (fun c90 => ?_) (fun c91 => ?_)
                    · skip
                      refine G_iload hX 0 rfl d_Mo_scan_168 ?_
                      refine G_istore hX (lv' := [(6, .int (zI (w - (x % w)))), (5, .int (zI (w - (x % w)))), (0, .ref (eA E 61)), (1, .int (zI w)), (2, .int (zI x)), (3, .int (zI i)), (4, .int (zI (((rwX w rs1 ra1 (pT P, pS P, pA P, pN P, 0) i.toNat).1 + rs1 i) - x)))]) (by decide) rfl d_Mo_scan_170 ?_
                      have hwe : w - (x % w) = wpt w x ((rwX w rs1 ra1 (pT P, pS P, pA P, pN P, 0) i.toNat).1 + rs1 i) := by rw [hwp]; split <;> omega
                      have hwb2 := hwb (by omega)
                      by_cases q9 : ra1 i < 0
                      · skip
                        refine G_aload_n hX 2 rfl rfl d_Mo_scan_172 ?_
                        refine G_aload_n hX 2 rfl rfl d_Mo_scan_173 ?_
                        have h92 : F74 20 = .ref (eA E 74) := (k76 20 (by decide)).trans ((k53 20 (by decide)).trans ((k49 20 (by decide)).trans ((k31 20 (by decide)).trans ((k25 20 (by decide)).trans ((k19 20 (by decide)).trans ((k11 20 (by decide)).trans (hmk 20 74 (by decide))))))))
                        refine M_get hX fg_Mo_118 d_Mo_scan_174 h86 (by decide) h92 ?_
                        refine G_iload_n hX 5 rfl rfl d_Mo_scan_177 ?_
                        have h93 : f78 74 = iz E 300 ra1 := (k79 74 (by decide)).trans ((k56 74 (by decide)).trans ((k50 74 (by decide)).trans h39))
                        refine F_iald hX d_Mo_scan_178 74 (by decide) h93 (by omega) ?_
                        refine G_if_ge_z hX (tgt := 186) d_Mo_scan_179 rfl (by omega) (fun c94 => by exfalso; omega) (fun c95 => ?_)
                        refine G_iconst hX d_Mo_scan_182 ?_
                        refine G_goto hX (tgt := 187) d_Mo_scan_183 rfl ?_
                        refine G_iload hX 0 rfl d_Mo_scan_187 ?_
                        refine G_aload_n hX 2 rfl rfl d_Mo_scan_189 ?_
                        refine M_get hX fg_Mo_118 d_Mo_scan_190 h86 (by decide) h92 ?_
                        refine G_iload_n hX 5 rfl rfl d_Mo_scan_193 ?_
                        refine F_iald hX d_Mo_scan_194 74 (by decide) h93 (by omega) ?_
                        refine G_if_ge_z hX (tgt := 202) d_Mo_scan_195 rfl (by omega) (fun c96 => by exfalso; omega) (fun c97 => ?_)
                        refine G_iconst hX d_Mo_scan_198 ?_
                        refine G_goto hX (tgt := 218) d_Mo_scan_199 rfl ?_
                        refine G_iload_n hX 4 rfl rfl d_Mo_scan_218 ?_
                        refine G_aload_n hX 2 rfl rfl d_Mo_scan_219 ?_
                        refine M_get hX fg_Mo_246 d_Mo_scan_220 h86 (by decide) h89 ?_
                        refine G_idiv_z hX (by omega) d_Mo_scan_223 ?_
                        refine F_callV hX (st := []) (c_Mo_tell E f78 F74 1 (w - (x % w)) (-1) (x / w) (pC R) mt2 ms2 ma2 mn2 h86 (moK_fr hmk (FrF.tr (FrF.tr (FrF.tr (FrF.tr (FrF.tr (FrF.tr (FrF.tr (FrF.rf (S := [4, 5, 11, 12, 13, 18])) k11 (by decide)) k19 (by decide)) k25 (by decide)) k31 (by decide)) k49 (by decide)) k53 (by decide)) k76 (by decide)) (by decide)) h75 h82 h83 h84 h85 (by omega)) cm_Mo_tell im_Mo_tell se_Mo_tell rfl ml_Mo_258 d_Mo_scan_224 (by decide) h86 rfl rfl (Nat.le_of_ble_eq_true rfl) (by decide) ?_
                        rintro _ f98 ⟨rfl, F101, h102, h103, k104, h105, h106, h107, h108, k109⟩
                        refine G_cast (st' := []) ?_ rfl rfl rfl rfl
                        refine G_iload hX 6 rfl d_Mo_scan_227 ?_
                        refine G_iload hX 0 rfl d_Mo_scan_229 ?_
                        refine G_isub_z hX d_Mo_scan_231 ?_
                        refine G_istore hX (lv' := [(4, .int (zI ((((rwX w rs1 ra1 (pT P, pS P, pA P, pN P, 0) i.toNat).1 + rs1 i) - x) - (w - (x % w))))), (6, .int (zI (w - (x % w)))), (5, .int (zI (w - (x % w)))), (0, .ref (eA E 61)), (1, .int (zI w)), (2, .int (zI x)), (3, .int (zI i))]) (by decide) rfl d_Mo_scan_232 ?_
                        refine G_iload_n hX 5 rfl rfl d_Mo_scan_234 ?_
                        refine G_iload hX 1 rfl d_Mo_scan_235 ?_
                        refine G_iadd_z hX d_Mo_scan_237 ?_
                        refine G_istore_n hX (lv' := [(2, .int (zI (x + (w - (x % w))))), (4, .int (zI ((((rwX w rs1 ra1 (pT P, pS P, pA P, pN P, 0) i.toNat).1 + rs1 i) - x) - (w - (x % w))))), (6, .int (zI (w - (x % w)))), (5, .int (zI (w - (x % w)))), (0, .ref (eA E 61)), (1, .int (zI w)), (3, .int (zI i))]) rfl (by decide) rfl d_Mo_scan_238 ?_
                        refine G_goto hX (tgt := 138) d_Mo_scan_239 rfl ?_
                        have hap2 := (apX_s (t := tyR (ra1 i)) (x0 := (rwX w rs1 ra1 (pT P, pS P, pA P, pN P, 0) i.toNat).1) (a := ra1 i) (P := R) (show x < ((rwX w rs1 ra1 (pT P, pS P, pA P, pN P, 0) i.toNat).1 + rs1 i) by omega) hx.1.2.2).symm.trans hap
                        refine G_loc (lv' := [(0, .ref (eA E 61)), (1, .int (zI w)), (2, .int (zI (x + (w - (x % w))))), (3, .int (zI i)), (4, .int (zI ((((rwX w rs1 ra1 (pT P, pS P, pA P, pN P, 0) i.toNat).1 + rs1 i) - x) - (w - (x % w)))))]) [4, 5, 0, 6, 1] rfl ?_
                        refine G_cast (ih81 (x + (w - (x % w))) (plApp R (tyR (ra1 i)) (wpt w x ((rwX w rs1 ra1 (pT P, pS P, pA P, pN P, 0) i.toNat).1 + rs1 i)) (if tyR (ra1 i) = 3 then ra1 i + x - (rwX w rs1 ra1 (pT P, pS P, pA P, pN P, 0) i.toNat).1 else -1) (x / w)) (k3 - 1) (uz mt2 (pC R) 1) (uz ms2 (pC R) (w - (x % w))) (uz ma2 (pC R) (-1)) (uz mn2 (pC R) (x / w)) F101 f98 (by omega) (by have hq : pC (plApp R (tyR (ra1 i)) (wpt w x ((rwX w rs1 ra1 (pT P, pS P, pA P, pN P, 0) i.toNat).1 + rs1 i)) (if tyR (ra1 i) = 3 then ra1 i + x - (rwX w rs1 ra1 (pT P, pS P, pA P, pN P, 0) i.toNat).1 else -1) (x / w)) = pC R + 1 := rfl; rw [hq]; omega) (by rw [hwe]; exact hap2) (plE_app hpe2 (tyR_n q9).symm hwe (by rw [tyR_n q9, if_neg (by decide)]) rfl) h103 (FrF.tr (FrF.tr FrF.rf k76 (by decide)) k104 (by decide)) h105 h106 h107 h108 h102 (Fr.tr (Fr.tr Fr.rf k79 (by decide)) k109 (by decide))) rfl (by rw [show ((rwX w rs1 ra1 (pT P, pS P, pA P, pN P, 0) i.toNat).1 + rs1 i) - (x + (w - (x % w))) = ((rwX w rs1 ra1 (pT P, pS P, pA P, pN P, 0) i.toNat).1 + rs1 i) - x - (w - (x % w)) by omega]) rfl rfl
                      · skip
                        refine G_aload_n hX 2 rfl rfl d_Mo_scan_172 ?_
                        refine G_aload_n hX 2 rfl rfl d_Mo_scan_173 ?_
                        have h110 : F74 20 = .ref (eA E 74) := (k76 20 (by decide)).trans ((k53 20 (by decide)).trans ((k49 20 (by decide)).trans ((k31 20 (by decide)).trans ((k25 20 (by decide)).trans ((k19 20 (by decide)).trans ((k11 20 (by decide)).trans (hmk 20 74 (by decide))))))))
                        refine M_get hX fg_Mo_118 d_Mo_scan_174 h86 (by decide) h110 ?_
                        refine G_iload_n hX 5 rfl rfl d_Mo_scan_177 ?_
                        have h111 : f78 74 = iz E 300 ra1 := (k79 74 (by decide)).trans ((k56 74 (by decide)).trans ((k50 74 (by decide)).trans h39))
                        refine F_iald hX d_Mo_scan_178 74 (by decide) h111 (by omega) ?_
                        refine G_if_ge_z hX (tgt := 186) d_Mo_scan_179 rfl (by omega) (fun c112 => ?_) (fun c113 => by exfalso; omega)
                        refine G_iconst hX d_Mo_scan_186 ?_
                        refine G_iload hX 0 rfl d_Mo_scan_187 ?_
                        refine G_aload_n hX 2 rfl rfl d_Mo_scan_189 ?_
                        refine M_get hX fg_Mo_118 d_Mo_scan_190 h86 (by decide) h110 ?_
                        refine G_iload_n hX 5 rfl rfl d_Mo_scan_193 ?_
                        refine F_iald hX d_Mo_scan_194 74 (by decide) h111 (by omega) ?_
                        refine G_if_ge_z hX (tgt := 202) d_Mo_scan_195 rfl (by omega) (fun c114 => ?_) (fun c115 => by exfalso; omega)
                        refine G_aload_n hX 2 rfl rfl d_Mo_scan_202 ?_
                        refine M_get hX fg_Mo_118 d_Mo_scan_203 h86 (by decide) h110 ?_
                        refine G_iload_n hX 5 rfl rfl d_Mo_scan_206 ?_
                        refine F_iald hX d_Mo_scan_207 74 (by decide) h111 (by omega) ?_
                        refine G_aload_n hX 2 rfl rfl d_Mo_scan_208 ?_
                        have h116 : F74 19 = .ref (eA E 73) := (k76 19 (by decide)).trans h72
                        refine M_get hX fg_Mo_115 d_Mo_scan_209 h86 (by decide) h116 ?_
                        refine G_iload_n hX 5 rfl rfl d_Mo_scan_212 ?_
                        have h117 : f78 73 = iz E 300 rs1 := (k79 73 (by decide)).trans h73
                        refine F_iald hX d_Mo_scan_213 73 (by decide) h117 (by omega) ?_
                        refine G_iadd_z hX d_Mo_scan_214 ?_
                        refine G_iload hX 6 rfl d_Mo_scan_215 ?_
                        refine G_isub_z hX d_Mo_scan_217 ?_
                        refine G_iload_n hX 4 rfl rfl d_Mo_scan_218 ?_
                        refine G_aload_n hX 2 rfl rfl d_Mo_scan_219 ?_
                        refine M_get hX fg_Mo_246 d_Mo_scan_220 h86 (by decide) h89 ?_
                        refine G_idiv_z hX (by omega) d_Mo_scan_223 ?_
                        refine F_callV hX (st := []) (c_Mo_tell E f78 F74 3 (w - (x % w)) (((ra1 i) + (rs1 i)) - (((rwX w rs1 ra1 (pT P, pS P, pA P, pN P, 0) i.toNat).1 + rs1 i) - x)) (x / w) (pC R) mt2 ms2 ma2 mn2 h86 (moK_fr hmk (FrF.tr (FrF.tr (FrF.tr (FrF.tr (FrF.tr (FrF.tr (FrF.tr (FrF.rf (S := [4, 5, 11, 12, 13, 18])) k11 (by decide)) k19 (by decide)) k25 (by decide)) k31 (by decide)) k49 (by decide)) k53 (by decide)) k76 (by decide)) (by decide)) h75 h82 h83 h84 h85 (by omega)) cm_Mo_tell im_Mo_tell se_Mo_tell rfl ml_Mo_258 d_Mo_scan_224 (by decide) h86 rfl rfl (Nat.le_of_ble_eq_true rfl) (by decide) ?_
                        rintro _ f118 ⟨rfl, F121, h122, h123, k124, h125, h126, h127, h128, k129⟩
                        refine G_cast (st' := []) ?_ rfl rfl rfl rfl
                        refine G_iload hX 6 rfl d_Mo_scan_227 ?_
                        refine G_iload hX 0 rfl d_Mo_scan_229 ?_
                        refine G_isub_z hX d_Mo_scan_231 ?_
                        refine G_istore hX (lv' := [(4, .int (zI ((((rwX w rs1 ra1 (pT P, pS P, pA P, pN P, 0) i.toNat).1 + rs1 i) - x) - (w - (x % w))))), (6, .int (zI (w - (x % w)))), (5, .int (zI (w - (x % w)))), (0, .ref (eA E 61)), (1, .int (zI w)), (2, .int (zI x)), (3, .int (zI i))]) (by decide) rfl d_Mo_scan_232 ?_
                        refine G_iload_n hX 5 rfl rfl d_Mo_scan_234 ?_
                        refine G_iload hX 1 rfl d_Mo_scan_235 ?_
                        refine G_iadd_z hX d_Mo_scan_237 ?_
                        refine G_istore_n hX (lv' := [(2, .int (zI (x + (w - (x % w))))), (4, .int (zI ((((rwX w rs1 ra1 (pT P, pS P, pA P, pN P, 0) i.toNat).1 + rs1 i) - x) - (w - (x % w))))), (6, .int (zI (w - (x % w)))), (5, .int (zI (w - (x % w)))), (0, .ref (eA E 61)), (1, .int (zI w)), (3, .int (zI i))]) rfl (by decide) rfl d_Mo_scan_238 ?_
                        refine G_goto hX (tgt := 138) d_Mo_scan_239 rfl ?_
                        have hap2 := (apX_s (t := tyR (ra1 i)) (x0 := (rwX w rs1 ra1 (pT P, pS P, pA P, pN P, 0) i.toNat).1) (a := ra1 i) (P := R) (show x < ((rwX w rs1 ra1 (pT P, pS P, pA P, pN P, 0) i.toNat).1 + rs1 i) by omega) hx.1.2.2).symm.trans hap
                        refine G_loc (lv' := [(0, .ref (eA E 61)), (1, .int (zI w)), (2, .int (zI (x + (w - (x % w))))), (3, .int (zI i)), (4, .int (zI ((((rwX w rs1 ra1 (pT P, pS P, pA P, pN P, 0) i.toNat).1 + rs1 i) - x) - (w - (x % w)))))]) [4, 5, 0, 6, 1] rfl ?_
                        refine G_cast (ih81 (x + (w - (x % w))) (plApp R (tyR (ra1 i)) (wpt w x ((rwX w rs1 ra1 (pT P, pS P, pA P, pN P, 0) i.toNat).1 + rs1 i)) (if tyR (ra1 i) = 3 then ra1 i + x - (rwX w rs1 ra1 (pT P, pS P, pA P, pN P, 0) i.toNat).1 else -1) (x / w)) (k3 - 1) (uz mt2 (pC R) 3) (uz ms2 (pC R) (w - (x % w))) (uz ma2 (pC R) (((ra1 i) + (rs1 i)) - (((rwX w rs1 ra1 (pT P, pS P, pA P, pN P, 0) i.toNat).1 + rs1 i) - x))) (uz mn2 (pC R) (x / w)) F121 f118 (by omega) (by have hq : pC (plApp R (tyR (ra1 i)) (wpt w x ((rwX w rs1 ra1 (pT P, pS P, pA P, pN P, 0) i.toNat).1 + rs1 i)) (if tyR (ra1 i) = 3 then ra1 i + x - (rwX w rs1 ra1 (pT P, pS P, pA P, pN P, 0) i.toNat).1 else -1) (x / w)) = pC R + 1 := rfl; rw [hq]; omega) (by rw [hwe]; exact hap2) (plE_app hpe2 (tyR_p q9).symm hwe (by rw [tyR_p q9, if_pos rfl]; omega) rfl) h123 (FrF.tr (FrF.tr FrF.rf k76 (by decide)) k124 (by decide)) h125 h126 h127 h128 h122 (Fr.tr (Fr.tr Fr.rf k79 (by decide)) k129 (by decide))) rfl (by rw [show ((rwX w rs1 ra1 (pT P, pS P, pA P, pN P, 0) i.toNat).1 + rs1 i) - (x + (w - (x % w))) = ((rwX w rs1 ra1 (pT P, pS P, pA P, pN P, 0) i.toNat).1 + rs1 i) - x - (w - (x % w)) by omega]) rfl rfl
                    · skip
                      refine G_iload hX 5 rfl d_Mo_scan_163 ?_
                      refine G_goto hX (tgt := 170) d_Mo_scan_165 rfl ?_
                      refine G_istore hX (lv' := [(6, .int (zI (((rwX w rs1 ra1 (pT P, pS P, pA P, pN P, 0) i.toNat).1 + rs1 i) - x))), (5, .int (zI (w - (x % w)))), (0, .ref (eA E 61)), (1, .int (zI w)), (2, .int (zI x)), (3, .int (zI i)), (4, .int (zI (((rwX w rs1 ra1 (pT P, pS P, pA P, pN P, 0) i.toNat).1 + rs1 i) - x)))]) (by decide) rfl d_Mo_scan_170 ?_
                      have hwe : ((rwX w rs1 ra1 (pT P, pS P, pA P, pN P, 0) i.toNat).1 + rs1 i) - x = wpt w x ((rwX w rs1 ra1 (pT P, pS P, pA P, pN P, 0) i.toNat).1 + rs1 i) := by rw [hwp]; split <;> omega
                      have hwb2 := hwb (by omega)
                      by_cases q9 : ra1 i < 0
                      · skip
                        refine G_aload_n hX 2 rfl rfl d_Mo_scan_172 ?_
                        refine G_aload_n hX 2 rfl rfl d_Mo_scan_173 ?_
                        have h130 : F74 20 = .ref (eA E 74) := (k76 20 (by decide)).trans ((k53 20 (by decide)).trans ((k49 20 (by decide)).trans ((k31 20 (by decide)).trans ((k25 20 (by decide)).trans ((k19 20 (by decide)).trans ((k11 20 (by decide)).trans (hmk 20 74 (by decide))))))))
                        refine M_get hX fg_Mo_118 d_Mo_scan_174 h86 (by decide) h130 ?_
                        refine G_iload_n hX 5 rfl rfl d_Mo_scan_177 ?_
                        have h131 : f78 74 = iz E 300 ra1 := (k79 74 (by decide)).trans ((k56 74 (by decide)).trans ((k50 74 (by decide)).trans h39))
                        refine F_iald hX d_Mo_scan_178 74 (by decide) h131 (by omega) ?_
                        refine G_if_ge_z hX (tgt := 186) d_Mo_scan_179 rfl (by omega) (fun c132 => by exfalso; omega) (fun c133 => ?_)
                        refine G_iconst hX d_Mo_scan_182 ?_
                        refine G_goto hX (tgt := 187) d_Mo_scan_183 rfl ?_
                        refine G_iload hX 0 rfl d_Mo_scan_187 ?_
                        refine G_aload_n hX 2 rfl rfl d_Mo_scan_189 ?_
                        refine M_get hX fg_Mo_118 d_Mo_scan_190 h86 (by decide) h130 ?_
                        refine G_iload_n hX 5 rfl rfl d_Mo_scan_193 ?_
                        refine F_iald hX d_Mo_scan_194 74 (by decide) h131 (by omega) ?_
                        refine G_if_ge_z hX (tgt := 202) d_Mo_scan_195 rfl (by omega) (fun c134 => by exfalso; omega) (fun c135 => ?_)
                        refine G_iconst hX d_Mo_scan_198 ?_
                        refine G_goto hX (tgt := 218) d_Mo_scan_199 rfl ?_
                        refine G_iload_n hX 4 rfl rfl d_Mo_scan_218 ?_
                        refine G_aload_n hX 2 rfl rfl d_Mo_scan_219 ?_
                        refine M_get hX fg_Mo_246 d_Mo_scan_220 h86 (by decide) h89 ?_
                        refine G_idiv_z hX (by omega) d_Mo_scan_223 ?_
                        refine F_callV hX (st := []) (c_Mo_tell E f78 F74 1 (((rwX w rs1 ra1 (pT P, pS P, pA P, pN P, 0) i.toNat).1 + rs1 i) - x) (-1) (x / w) (pC R) mt2 ms2 ma2 mn2 h86 (moK_fr hmk (FrF.tr (FrF.tr (FrF.tr (FrF.tr (FrF.tr (FrF.tr (FrF.tr (FrF.rf (S := [4, 5, 11, 12, 13, 18])) k11 (by decide)) k19 (by decide)) k25 (by decide)) k31 (by decide)) k49 (by decide)) k53 (by decide)) k76 (by decide)) (by decide)) h75 h82 h83 h84 h85 (by omega)) cm_Mo_tell im_Mo_tell se_Mo_tell rfl ml_Mo_258 d_Mo_scan_224 (by decide) h86 rfl rfl (Nat.le_of_ble_eq_true rfl) (by decide) ?_
                        rintro _ f136 ⟨rfl, F139, h140, h141, k142, h143, h144, h145, h146, k147⟩
                        refine G_cast (st' := []) ?_ rfl rfl rfl rfl
                        refine G_iload hX 6 rfl d_Mo_scan_227 ?_
                        refine G_iload hX 0 rfl d_Mo_scan_229 ?_
                        refine G_isub_z hX d_Mo_scan_231 ?_
                        refine G_istore hX (lv' := [(4, .int (zI ((((rwX w rs1 ra1 (pT P, pS P, pA P, pN P, 0) i.toNat).1 + rs1 i) - x) - (((rwX w rs1 ra1 (pT P, pS P, pA P, pN P, 0) i.toNat).1 + rs1 i) - x)))), (6, .int (zI (((rwX w rs1 ra1 (pT P, pS P, pA P, pN P, 0) i.toNat).1 + rs1 i) - x))), (5, .int (zI (w - (x % w)))), (0, .ref (eA E 61)), (1, .int (zI w)), (2, .int (zI x)), (3, .int (zI i))]) (by decide) rfl d_Mo_scan_232 ?_
                        refine G_iload_n hX 5 rfl rfl d_Mo_scan_234 ?_
                        refine G_iload hX 1 rfl d_Mo_scan_235 ?_
                        refine G_iadd_z hX d_Mo_scan_237 ?_
                        refine G_istore_n hX (lv' := [(2, .int (zI (x + (((rwX w rs1 ra1 (pT P, pS P, pA P, pN P, 0) i.toNat).1 + rs1 i) - x)))), (4, .int (zI ((((rwX w rs1 ra1 (pT P, pS P, pA P, pN P, 0) i.toNat).1 + rs1 i) - x) - (((rwX w rs1 ra1 (pT P, pS P, pA P, pN P, 0) i.toNat).1 + rs1 i) - x)))), (6, .int (zI (((rwX w rs1 ra1 (pT P, pS P, pA P, pN P, 0) i.toNat).1 + rs1 i) - x))), (5, .int (zI (w - (x % w)))), (0, .ref (eA E 61)), (1, .int (zI w)), (3, .int (zI i))]) rfl (by decide) rfl d_Mo_scan_238 ?_
                        refine G_goto hX (tgt := 138) d_Mo_scan_239 rfl ?_
                        have hap2 := (apX_s (t := tyR (ra1 i)) (x0 := (rwX w rs1 ra1 (pT P, pS P, pA P, pN P, 0) i.toNat).1) (a := ra1 i) (P := R) (show x < ((rwX w rs1 ra1 (pT P, pS P, pA P, pN P, 0) i.toNat).1 + rs1 i) by omega) hx.1.2.2).symm.trans hap
                        refine G_loc (lv' := [(0, .ref (eA E 61)), (1, .int (zI w)), (2, .int (zI (x + (((rwX w rs1 ra1 (pT P, pS P, pA P, pN P, 0) i.toNat).1 + rs1 i) - x)))), (3, .int (zI i)), (4, .int (zI ((((rwX w rs1 ra1 (pT P, pS P, pA P, pN P, 0) i.toNat).1 + rs1 i) - x) - (((rwX w rs1 ra1 (pT P, pS P, pA P, pN P, 0) i.toNat).1 + rs1 i) - x))))]) [4, 5, 0, 6, 1] rfl ?_
                        refine G_cast (ih81 (x + (((rwX w rs1 ra1 (pT P, pS P, pA P, pN P, 0) i.toNat).1 + rs1 i) - x)) (plApp R (tyR (ra1 i)) (wpt w x ((rwX w rs1 ra1 (pT P, pS P, pA P, pN P, 0) i.toNat).1 + rs1 i)) (if tyR (ra1 i) = 3 then ra1 i + x - (rwX w rs1 ra1 (pT P, pS P, pA P, pN P, 0) i.toNat).1 else -1) (x / w)) (k3 - 1) (uz mt2 (pC R) 1) (uz ms2 (pC R) (((rwX w rs1 ra1 (pT P, pS P, pA P, pN P, 0) i.toNat).1 + rs1 i) - x)) (uz ma2 (pC R) (-1)) (uz mn2 (pC R) (x / w)) F139 f136 (by omega) (by have hq : pC (plApp R (tyR (ra1 i)) (wpt w x ((rwX w rs1 ra1 (pT P, pS P, pA P, pN P, 0) i.toNat).1 + rs1 i)) (if tyR (ra1 i) = 3 then ra1 i + x - (rwX w rs1 ra1 (pT P, pS P, pA P, pN P, 0) i.toNat).1 else -1) (x / w)) = pC R + 1 := rfl; rw [hq]; omega) (by rw [hwe]; exact hap2) (plE_app hpe2 (tyR_n q9).symm hwe (by rw [tyR_n q9, if_neg (by decide)]) rfl) h141 (FrF.tr (FrF.tr FrF.rf k76 (by decide)) k142 (by decide)) h143 h144 h145 h146 h140 (Fr.tr (Fr.tr Fr.rf k79 (by decide)) k147 (by decide))) rfl (by rw [show ((rwX w rs1 ra1 (pT P, pS P, pA P, pN P, 0) i.toNat).1 + rs1 i) - (x + (((rwX w rs1 ra1 (pT P, pS P, pA P, pN P, 0) i.toNat).1 + rs1 i) - x)) = ((rwX w rs1 ra1 (pT P, pS P, pA P, pN P, 0) i.toNat).1 + rs1 i) - x - (((rwX w rs1 ra1 (pT P, pS P, pA P, pN P, 0) i.toNat).1 + rs1 i) - x) by omega]) rfl rfl
                      · skip
                        refine G_aload_n hX 2 rfl rfl d_Mo_scan_172 ?_
                        refine G_aload_n hX 2 rfl rfl d_Mo_scan_173 ?_
                        have h148 : F74 20 = .ref (eA E 74) := (k76 20 (by decide)).trans ((k53 20 (by decide)).trans ((k49 20 (by decide)).trans ((k31 20 (by decide)).trans ((k25 20 (by decide)).trans ((k19 20 (by decide)).trans ((k11 20 (by decide)).trans (hmk 20 74 (by decide))))))))
                        refine M_get hX fg_Mo_118 d_Mo_scan_174 h86 (by decide) h148 ?_
                        refine G_iload_n hX 5 rfl rfl d_Mo_scan_177 ?_
                        have h149 : f78 74 = iz E 300 ra1 := (k79 74 (by decide)).trans ((k56 74 (by decide)).trans ((k50 74 (by decide)).trans h39))
                        refine F_iald hX d_Mo_scan_178 74 (by decide) h149 (by omega) ?_
                        refine G_if_ge_z hX (tgt := 186) d_Mo_scan_179 rfl (by omega) (fun c150 => ?_) (fun c151 => by exfalso; omega)
                        refine G_iconst hX d_Mo_scan_186 ?_
                        refine G_iload hX 0 rfl d_Mo_scan_187 ?_
                        refine G_aload_n hX 2 rfl rfl d_Mo_scan_189 ?_
                        refine M_get hX fg_Mo_118 d_Mo_scan_190 h86 (by decide) h148 ?_
                        refine G_iload_n hX 5 rfl rfl d_Mo_scan_193 ?_
                        refine F_iald hX d_Mo_scan_194 74 (by decide) h149 (by omega) ?_
                        refine G_if_ge_z hX (tgt := 202) d_Mo_scan_195 rfl (by omega) (fun c152 => ?_) (fun c153 => by exfalso; omega)
                        refine G_aload_n hX 2 rfl rfl d_Mo_scan_202 ?_
                        refine M_get hX fg_Mo_118 d_Mo_scan_203 h86 (by decide) h148 ?_
                        refine G_iload_n hX 5 rfl rfl d_Mo_scan_206 ?_
                        refine F_iald hX d_Mo_scan_207 74 (by decide) h149 (by omega) ?_
                        refine G_aload_n hX 2 rfl rfl d_Mo_scan_208 ?_
                        have h154 : F74 19 = .ref (eA E 73) := (k76 19 (by decide)).trans h72
                        refine M_get hX fg_Mo_115 d_Mo_scan_209 h86 (by decide) h154 ?_
                        refine G_iload_n hX 5 rfl rfl d_Mo_scan_212 ?_
                        have h155 : f78 73 = iz E 300 rs1 := (k79 73 (by decide)).trans h73
                        refine F_iald hX d_Mo_scan_213 73 (by decide) h155 (by omega) ?_
                        refine G_iadd_z hX d_Mo_scan_214 ?_
                        refine G_iload hX 6 rfl d_Mo_scan_215 ?_
                        refine G_isub_z hX d_Mo_scan_217 ?_
                        refine G_iload_n hX 4 rfl rfl d_Mo_scan_218 ?_
                        refine G_aload_n hX 2 rfl rfl d_Mo_scan_219 ?_
                        refine M_get hX fg_Mo_246 d_Mo_scan_220 h86 (by decide) h89 ?_
                        refine G_idiv_z hX (by omega) d_Mo_scan_223 ?_
                        refine F_callV hX (st := []) (c_Mo_tell E f78 F74 3 (((rwX w rs1 ra1 (pT P, pS P, pA P, pN P, 0) i.toNat).1 + rs1 i) - x) (((ra1 i) + (rs1 i)) - (((rwX w rs1 ra1 (pT P, pS P, pA P, pN P, 0) i.toNat).1 + rs1 i) - x)) (x / w) (pC R) mt2 ms2 ma2 mn2 h86 (moK_fr hmk (FrF.tr (FrF.tr (FrF.tr (FrF.tr (FrF.tr (FrF.tr (FrF.tr (FrF.rf (S := [4, 5, 11, 12, 13, 18])) k11 (by decide)) k19 (by decide)) k25 (by decide)) k31 (by decide)) k49 (by decide)) k53 (by decide)) k76 (by decide)) (by decide)) h75 h82 h83 h84 h85 (by omega)) cm_Mo_tell im_Mo_tell se_Mo_tell rfl ml_Mo_258 d_Mo_scan_224 (by decide) h86 rfl rfl (Nat.le_of_ble_eq_true rfl) (by decide) ?_
                        rintro _ f156 ⟨rfl, F159, h160, h161, k162, h163, h164, h165, h166, k167⟩
                        refine G_cast (st' := []) ?_ rfl rfl rfl rfl
                        refine G_iload hX 6 rfl d_Mo_scan_227 ?_
                        refine G_iload hX 0 rfl d_Mo_scan_229 ?_
                        refine G_isub_z hX d_Mo_scan_231 ?_
                        refine G_istore hX (lv' := [(4, .int (zI ((((rwX w rs1 ra1 (pT P, pS P, pA P, pN P, 0) i.toNat).1 + rs1 i) - x) - (((rwX w rs1 ra1 (pT P, pS P, pA P, pN P, 0) i.toNat).1 + rs1 i) - x)))), (6, .int (zI (((rwX w rs1 ra1 (pT P, pS P, pA P, pN P, 0) i.toNat).1 + rs1 i) - x))), (5, .int (zI (w - (x % w)))), (0, .ref (eA E 61)), (1, .int (zI w)), (2, .int (zI x)), (3, .int (zI i))]) (by decide) rfl d_Mo_scan_232 ?_
                        refine G_iload_n hX 5 rfl rfl d_Mo_scan_234 ?_
                        refine G_iload hX 1 rfl d_Mo_scan_235 ?_
                        refine G_iadd_z hX d_Mo_scan_237 ?_
                        refine G_istore_n hX (lv' := [(2, .int (zI (x + (((rwX w rs1 ra1 (pT P, pS P, pA P, pN P, 0) i.toNat).1 + rs1 i) - x)))), (4, .int (zI ((((rwX w rs1 ra1 (pT P, pS P, pA P, pN P, 0) i.toNat).1 + rs1 i) - x) - (((rwX w rs1 ra1 (pT P, pS P, pA P, pN P, 0) i.toNat).1 + rs1 i) - x)))), (6, .int (zI (((rwX w rs1 ra1 (pT P, pS P, pA P, pN P, 0) i.toNat).1 + rs1 i) - x))), (5, .int (zI (w - (x % w)))), (0, .ref (eA E 61)), (1, .int (zI w)), (3, .int (zI i))]) rfl (by decide) rfl d_Mo_scan_238 ?_
                        refine G_goto hX (tgt := 138) d_Mo_scan_239 rfl ?_
                        have hap2 := (apX_s (t := tyR (ra1 i)) (x0 := (rwX w rs1 ra1 (pT P, pS P, pA P, pN P, 0) i.toNat).1) (a := ra1 i) (P := R) (show x < ((rwX w rs1 ra1 (pT P, pS P, pA P, pN P, 0) i.toNat).1 + rs1 i) by omega) hx.1.2.2).symm.trans hap
                        refine G_loc (lv' := [(0, .ref (eA E 61)), (1, .int (zI w)), (2, .int (zI (x + (((rwX w rs1 ra1 (pT P, pS P, pA P, pN P, 0) i.toNat).1 + rs1 i) - x)))), (3, .int (zI i)), (4, .int (zI ((((rwX w rs1 ra1 (pT P, pS P, pA P, pN P, 0) i.toNat).1 + rs1 i) - x) - (((rwX w rs1 ra1 (pT P, pS P, pA P, pN P, 0) i.toNat).1 + rs1 i) - x))))]) [4, 5, 0, 6, 1] rfl ?_
                        refine G_cast (ih81 (x + (((rwX w rs1 ra1 (pT P, pS P, pA P, pN P, 0) i.toNat).1 + rs1 i) - x)) (plApp R (tyR (ra1 i)) (wpt w x ((rwX w rs1 ra1 (pT P, pS P, pA P, pN P, 0) i.toNat).1 + rs1 i)) (if tyR (ra1 i) = 3 then ra1 i + x - (rwX w rs1 ra1 (pT P, pS P, pA P, pN P, 0) i.toNat).1 else -1) (x / w)) (k3 - 1) (uz mt2 (pC R) 3) (uz ms2 (pC R) (((rwX w rs1 ra1 (pT P, pS P, pA P, pN P, 0) i.toNat).1 + rs1 i) - x)) (uz ma2 (pC R) (((ra1 i) + (rs1 i)) - (((rwX w rs1 ra1 (pT P, pS P, pA P, pN P, 0) i.toNat).1 + rs1 i) - x))) (uz mn2 (pC R) (x / w)) F159 f156 (by omega) (by have hq : pC (plApp R (tyR (ra1 i)) (wpt w x ((rwX w rs1 ra1 (pT P, pS P, pA P, pN P, 0) i.toNat).1 + rs1 i)) (if tyR (ra1 i) = 3 then ra1 i + x - (rwX w rs1 ra1 (pT P, pS P, pA P, pN P, 0) i.toNat).1 else -1) (x / w)) = pC R + 1 := rfl; rw [hq]; omega) (by rw [hwe]; exact hap2) (plE_app hpe2 (tyR_p q9).symm hwe (by rw [tyR_p q9, if_pos rfl]; omega) rfl) h161 (FrF.tr (FrF.tr FrF.rf k76 (by decide)) k162 (by decide)) h163 h164 h165 h166 h160 (Fr.tr (Fr.tr Fr.rf k79 (by decide)) k167 (by decide))) rfl (by rw [show ((rwX w rs1 ra1 (pT P, pS P, pA P, pN P, 0) i.toNat).1 + rs1 i) - (x + (((rwX w rs1 ra1 (pT P, pS P, pA P, pN P, 0) i.toNat).1 + rs1 i) - x)) = ((rwX w rs1 ra1 (pT P, pS P, pA P, pN P, 0) i.toNat).1 + rs1 i) - x - (((rwX w rs1 ra1 (pT P, pS P, pA P, pN P, 0) i.toNat).1 + rs1 i) - x) by omega]) rfl rfl
              refine G_loc (lv' := [(0, .ref (eA E 61)), (1, .int (zI w)), (2, .int (zI ((rwX w rs1 ra1 (pT P, pS P, pA P, pN P, 0) i.toNat).1))), (3, .int (zI i)), (4, .int (zI (rs1 i)))]) [1, 2, 3, 4, 0] rfl ?_
              refine G_cast (loop77 (_ + 1) ((rwX w rs1 ra1 (pT P, pS P, pA P, pN P, 0) i.toNat).1) ((rwX w rs1 ra1 (pT P, pS P, pA P, pN P, 0) i.toNat).2) ((rs1 i).toNat) mt1 ms1 ma1 mn1 F51 f55 (Nat.lt_succ_self _) (by omega) hx2 hpe1 h52 FrF.rf h59 h60 h61 h62 h63 Fr.rf) rfl (by rw [show ((rwX w rs1 ra1 (pT P, pS P, pA P, pN P, 0) i.toNat).1 + rs1 i) - (rwX w rs1 ra1 (pT P, pS P, pA P, pN P, 0) i.toNat).1 = rs1 i by omega]) rfl rfl
        have h168 : f45 69 = iz E 700 mt := (k50 69 (by decide)).trans ((k34 69 (by decide)).trans ((k26 69 (by decide)).trans ((k20 69 (by decide)).trans ((k12 69 (by decide)).trans hc69))))
        have h169 : f45 70 = iz E 700 ms := (k50 70 (by decide)).trans ((k34 70 (by decide)).trans ((k26 70 (by decide)).trans ((k20 70 (by decide)).trans ((k12 70 (by decide)).trans hc70))))
        have h170 : f45 71 = iz E 700 ma := (k50 71 (by decide)).trans ((k34 71 (by decide)).trans ((k26 71 (by decide)).trans ((k20 71 (by decide)).trans ((k12 71 (by decide)).trans hc71))))
        have h171 : f45 72 = iz E 700 mn := (k50 72 (by decide)).trans ((k34 72 (by decide)).trans ((k26 72 (by decide)).trans ((k20 72 (by decide)).trans ((k12 72 (by decide)).trans hc72))))
        refine G_loc (lv' := [(0, .ref (eA E 61)), (1, .int (zI w)), (2, .int (zI 0)), (3, .int (zI 0))]) [2, 3, 1, 0] rfl ?_
        refine G_cast (loop54 (_ + 1) 0 mt ms ma mn F46 f45 (Nat.lt_succ_self _) (by omega) (fun j h1 h2 => absurd h2 (by show ¬ j < 0; omega)) h48 FrF.rf h168 h169 h170 h171 h47 Fr.rf) rfl (by rfl) rfl rfl
      · skip
        have hfb := fd_b (W := W) (F := A) (L := L) (g := gF) (bl := bl) (c := sz 1) (p := p) hct.1
        have hss := hsc.trans (scL_s (by omega) hp.2.2.1)
        generalize hfd : (if p + bl ≤ sz 1 then fdF W A L gF bl ct p else -1) = fd at hfb hss
        refine G_aload_n hX 0 rfl rfl d_Mo_scan_57 ?_
        refine G_iload_n hX 2 rfl rfl d_Mo_scan_58 ?_
        have h172 : F27 6 = .int (zI bl) := (k31 6 (by decide)).trans ((k25 6 (by decide)).trans ((k19 6 (by decide)).trans h14))
        have h173 : F27 7 = .int (zI ct) := (k31 7 (by decide)).trans ((k25 7 (by decide)).trans ((k19 7 (by decide)).trans h13))
        have h174 : f33 63 = iz E 1600 b := (k34 63 (by decide)).trans ((k26 63 (by decide)).trans ((k20 63 (by decide)).trans ((k12 63 (by decide)).trans hc63)))
        have h175 : f33 62 = la E 32 kkF := (k34 62 (by decide)).trans ((k26 62 (by decide)).trans ((k20 62 (by decide)).trans ((k12 62 (by decide)).trans hc62)))
        have h176 : f33 66 = la E 75 Wm := (k34 66 (by decide)).trans ((k26 66 (by decide)).trans ((k20 66 (by decide)).trans ((k12 66 (by decide)).trans hc66)))
        have h177 : f33 67 = la E 75 Am := (k34 67 (by decide)).trans ((k26 67 (by decide)).trans ((k20 67 (by decide)).trans ((k12 67 (by decide)).trans hc67)))
        have h178 : f33 68 = la E 75 Lm := (k34 68 (by decide)).trans ((k26 68 (by decide)).trans ((k20 68 (by decide)).trans ((k12 68 (by decide)).trans hc68)))
        refine F_callV hX (st := []) (c_Mo_blockAt E f33 F27 p bl ct b sz gF st1 W A L Wm Am Lm h40 (moK_fr hmk (FrF.tr (FrF.tr (FrF.tr (FrF.tr (FrF.rf (S := [4, 5, 12, 13, 18])) k11 (by decide)) k19 (by decide)) k25 (by decide)) k31 (by decide)) (by decide)) h172 h173 h174 h42 h175 h37 h176 h177 h178 hsz (by omega) (by omega) (by omega) hG hag hsg) cm_Mo_blockAt im_Mo_blockAt se_Mo_blockAt rfl ml_Mo_252 d_Mo_scan_59 (by decide) h40 rfl rfl (Nat.le_of_ble_eq_true rfl) (by decide) ?_
        rintro _ f179 ⟨rfl, F182, st'_183, h184, k185, h186, k187⟩
        refine G_cast (st' := [.int (zI (if p + bl ≤ sz 1 then fdF W A L gF bl ct p else -1))]) ?_ rfl rfl rfl rfl
        refine G_top (show zI (if p + bl ≤ sz 1 then fdF W A L gF bl ct p else -1) = zI fd from by rw [hfd]) ?_
        have hrn : 0 < n → (-1 ≤ ra1 (n - 1) ∧ ra1 (n - 1) ≤ 1000) ∧ 0 ≤ rs1 (n - 1) ∧ rs1 (n - 1) ≤ 1000 := fun q => by have := hrs (n - 1) (by omega) (by omega); omega
        by_cases q9 : 0 ≤ fd
        · skip
          rw [if_pos q9] at hss
          have hfit := hfb.2.2 q9
          have hfa : 0 ≤ fd * bl := Int.mul_nonneg q9 (by omega)
          have hfc : (fd + 1) * bl ≤ ct * bl := Int.mul_le_mul_of_nonneg_right (by omega) (by omega)
          rw [Int.add_mul, Int.one_mul] at hfc
          refine G_istore_n hX (lv' := [(3, .int (zI fd)), (0, .ref (eA E 61)), (1, .int (zI w)), (2, .int (zI p))]) rfl (by decide) rfl d_Mo_scan_62 ?_
          refine G_aload_n hX 1 rfl rfl d_Mo_scan_63 ?_
          refine G_iload_n hX 0 rfl rfl d_Mo_scan_64 ?_
          refine G_if_ge_z hX (tgt := 72) d_Mo_scan_65 rfl (by omega) (fun c188 => ?_) (fun c189 => by exfalso; omega)
          refine G_iload_n hX 0 rfl rfl d_Mo_scan_72 ?_
          refine G_aload_n hX 1 rfl rfl d_Mo_scan_73 ?_
          have h190 : F182 6 = .int (zI bl) := (k185 6 (by decide)).trans h172
          refine M_get hX fg_Mo_240 d_Mo_scan_74 h184 (by decide) h190 ?_
          refine G_imul_z hX d_Mo_scan_77 ?_
          refine G_iload_n hX 0 rfl rfl d_Mo_scan_78 ?_
          refine G_if_ge_z hX (tgt := 86) d_Mo_scan_79 rfl (by omega) (fun c191 => ?_) (fun c192 => by exfalso; omega)
          refine G_aload_n hX 1 rfl rfl d_Mo_scan_86 ?_
          refine M_get hX fg_Mo_240 d_Mo_scan_87 h184 (by decide) h190 ?_
          have h193 : F182 18 = .int (zI n) := (k185 18 (by decide)).trans h28
          have h194 : f179 73 = iz E 300 rs1 := (k187 73 (by decide)).trans h38
          have h195 : f179 74 = iz E 300 ra1 := (k187 74 (by decide)).trans h39
          refine F_callV hX (st := []) (c_Mo_raw E f179 F182 (fd * bl) bl n rs1 ra1 h184 (moK_fr hmk (FrF.tr (FrF.tr (FrF.tr (FrF.tr (FrF.tr (FrF.rf (S := [4, 5, 12, 13, 18])) k11 (by decide)) k19 (by decide)) k25 (by decide)) k31 (by decide)) k185 (by decide)) (by decide)) h193 h194 h195 (by omega) (by omega) hrn) cm_Mo_raw im_Mo_raw se_Mo_raw rfl ml_Mo_255 d_Mo_scan_90 (by decide) h184 rfl rfl (Nat.le_of_ble_eq_true rfl) (by decide) ?_
          rintro _ f196 ⟨rfl, F199, n'_200, rs'_201, ra'_202, h203, h204, k205, h206, h207, p208, k209⟩
          refine G_cast (st' := []) ?_ rfl rfl rfl rfl
          refine G_iload_n hX 0 rfl rfl d_Mo_scan_93 ?_
          refine G_if_ge_z hX (tgt := 103) d_Mo_scan_94 rfl (by omega) (fun c210 => ?_) (fun c211 => by exfalso; omega)
          refine G_iload_n hX 3 rfl rfl d_Mo_scan_103 ?_
          refine G_aload_n hX 1 rfl rfl d_Mo_scan_104 ?_
          have h212 : F199 6 = .int (zI bl) := (k205 6 (by decide)).trans h190
          refine M_get hX fg_Mo_240 d_Mo_scan_105 h203 (by decide) h212 ?_
          refine G_iadd_z hX d_Mo_scan_108 ?_
          refine G_istore_n hX (lv' := [(2, .int (zI (p + bl))), (3, .int (zI fd)), (0, .ref (eA E 61)), (1, .int (zI w))]) rfl (by decide) rfl d_Mo_scan_109 ?_
          refine G_goto hX (tgt := 47) d_Mo_scan_110 rfl ?_
          have hty : tyR (fd * bl) = 3 := tyR_p (by omega)
          have hfin : rwX w rs'_201 ra'_202 (pT P, pS P, pA P, pN P, 0) n'_200.toNat = (p + bl, ext Q w 3 p bl (fd * bl)) ∧ (∀ i : Int, 0 ≤ i → i < n'_200 → (1 ≤ rs'_201 i ∧ rs'_201 i ≤ p + bl) ∧ -1 ≤ ra'_202 i ∧ ra'_202 i ≤ 300) ∧ 0 ≤ n'_200 := by
            rw [← hty]
            rcases p208 with ⟨g1, e1, e2, e3⟩ | ⟨g1, e1, e2, e3⟩ <;> rw [e1, e2, e3]
            · refine ⟨rw_ext hw0 rfl hp.2.2.2 (fun i h1 h2 => (hrs i h1 h2).1.1) hQ (by omega) g1, fun i h1 h2 => ?_, hp.2.2.2⟩
              have h3 := hrs i h1 h2
              refine ⟨?_, h3.2⟩
              by_cases e : i = n - 1
              · rw [e, show uz rs1 (n - 1) (rs1 (n - 1) + (bl)) (n - 1) = rs1 (n - 1) + (bl) from if_pos rfl]; rw [e] at h3; omega
              · rw [show uz rs1 (n - 1) (rs1 (n - 1) + (bl)) i = rs1 i from if_neg e]; omega
            · refine ⟨rw_app hw0 rfl hp.2.2.2 (fun i h1 h2 => (hrs i h1 h2).1.1) hQ (by omega) (by omega) g1, fun i h1 h2 => ?_, by omega⟩
              by_cases e : i = n
              · rw [e, show uz rs1 n (bl) n = bl from if_pos rfl, show uz ra1 n (fd * bl) n = fd * bl from if_pos rfl]; omega
              · rw [show uz rs1 n (bl) i = rs1 i from if_neg e, show uz ra1 n (fd * bl) i = ra1 i from if_neg e]; have h3 := hrs i h1 (by omega); omega
          have h213 : f196 65 = la E 4 st'_183 := (k209 65 (by decide)).trans h186
          have h214 : F199 13 = .int (zI w) := (k205 13 (by decide)).trans ((k185 13 (by decide)).trans h29)
          have h215 : F199 12 = .int (zI (ct * bl)) := (k205 12 (by decide)).trans ((k185 12 (by decide)).trans h30)
          refine G_loc (lv' := [(0, .ref (eA E 61)), (1, .int (zI w)), (2, .int (zI (p + bl)))]) [2, 3, 0] rfl ?_
          exact ih36 (p + bl) n'_200 (k - 1) (ext Q w 3 p bl (fd * bl)) rs'_201 ra'_202 st'_183 F199 f196 (by omega) (by have := hfin.2.2; omega) hfin.1 hfin.2.1 hss h204 h214 h215 (FrF.tr (FrF.tr (FrF.tr FrF.rf k31 (by decide)) k185 (by decide)) k205 (by decide)) h213 h206 h207 h203 (Fr.tr (Fr.tr (Fr.tr Fr.rf k34 (by decide)) k187 (by decide)) k209 (by decide))
        · skip
          rw [if_neg q9] at hss
          refine G_istore_n hX (lv' := [(3, .int (zI fd)), (0, .ref (eA E 61)), (1, .int (zI w)), (2, .int (zI p))]) rfl (by decide) rfl d_Mo_scan_62 ?_
          refine G_aload_n hX 1 rfl rfl d_Mo_scan_63 ?_
          refine G_iload_n hX 0 rfl rfl d_Mo_scan_64 ?_
          refine G_if_ge_z hX (tgt := 72) d_Mo_scan_65 rfl (by omega) (fun c216 => by exfalso; omega) (fun c217 => ?_)
          refine G_iconst hX d_Mo_scan_68 ?_
          refine G_goto hX (tgt := 78) d_Mo_scan_69 rfl ?_
          refine G_iload_n hX 0 rfl rfl d_Mo_scan_78 ?_
          refine G_if_ge_z hX (tgt := 86) d_Mo_scan_79 rfl (by omega) (fun c218 => by exfalso; omega) (fun c219 => ?_)
          refine G_iconst hX d_Mo_scan_82 ?_
          refine G_goto hX (tgt := 90) d_Mo_scan_83 rfl ?_
          have h220 : F182 18 = .int (zI n) := (k185 18 (by decide)).trans h28
          have h221 : f179 73 = iz E 300 rs1 := (k187 73 (by decide)).trans h38
          have h222 : f179 74 = iz E 300 ra1 := (k187 74 (by decide)).trans h39
          refine F_callV hX (st := []) (c_Mo_raw E f179 F182 (-1) 1 n rs1 ra1 h184 (moK_fr hmk (FrF.tr (FrF.tr (FrF.tr (FrF.tr (FrF.tr (FrF.rf (S := [4, 5, 12, 13, 18])) k11 (by decide)) k19 (by decide)) k25 (by decide)) k31 (by decide)) k185 (by decide)) (by decide)) h220 h221 h222 (by omega) (by omega) hrn) cm_Mo_raw im_Mo_raw se_Mo_raw rfl ml_Mo_255 d_Mo_scan_90 (by decide) h184 rfl rfl (Nat.le_of_ble_eq_true rfl) (by decide) ?_
          rintro _ f223 ⟨rfl, F226, n'_227, rs'_228, ra'_229, h230, h231, k232, h233, h234, p235, k236⟩
          refine G_cast (st' := []) ?_ rfl rfl rfl rfl
          refine G_iload_n hX 0 rfl rfl d_Mo_scan_93 ?_
          refine G_if_ge_z hX (tgt := 103) d_Mo_scan_94 rfl (by omega) (fun c237 => by exfalso; omega) (fun c238 => ?_)
          refine G_iload_n hX 3 rfl rfl d_Mo_scan_97 ?_
          refine G_iconst hX d_Mo_scan_98 ?_
          refine G_iadd_z hX d_Mo_scan_99 ?_
          refine G_goto hX (tgt := 109) d_Mo_scan_100 rfl ?_
          refine G_istore_n hX (lv' := [(2, .int (zI (p + 1))), (3, .int (zI fd)), (0, .ref (eA E 61)), (1, .int (zI w))]) rfl (by decide) rfl d_Mo_scan_109 ?_
          refine G_goto hX (tgt := 47) d_Mo_scan_110 rfl ?_
          have hty : tyR (-1) = 1 := rfl
          have hfin : rwX w rs'_228 ra'_229 (pT P, pS P, pA P, pN P, 0) n'_227.toNat = (p + 1, ext Q w 1 p 1 (-1)) ∧ (∀ i : Int, 0 ≤ i → i < n'_227 → (1 ≤ rs'_228 i ∧ rs'_228 i ≤ p + 1) ∧ -1 ≤ ra'_229 i ∧ ra'_229 i ≤ 300) ∧ 0 ≤ n'_227 := by
            rw [← hty]
            rcases p235 with ⟨g1, e1, e2, e3⟩ | ⟨g1, e1, e2, e3⟩ <;> rw [e1, e2, e3]
            · refine ⟨rw_ext hw0 rfl hp.2.2.2 (fun i h1 h2 => (hrs i h1 h2).1.1) hQ (by omega) g1, fun i h1 h2 => ?_, hp.2.2.2⟩
              have h3 := hrs i h1 h2
              refine ⟨?_, h3.2⟩
              by_cases e : i = n - 1
              · rw [e, show uz rs1 (n - 1) (rs1 (n - 1) + (1)) (n - 1) = rs1 (n - 1) + (1) from if_pos rfl]; rw [e] at h3; omega
              · rw [show uz rs1 (n - 1) (rs1 (n - 1) + (1)) i = rs1 i from if_neg e]; omega
            · refine ⟨rw_app hw0 rfl hp.2.2.2 (fun i h1 h2 => (hrs i h1 h2).1.1) hQ (by omega) (by omega) g1, fun i h1 h2 => ?_, by omega⟩
              by_cases e : i = n
              · rw [e, show uz rs1 n (1) n = 1 from if_pos rfl, show uz ra1 n (-1) n = -1 from if_pos rfl]; omega
              · rw [show uz rs1 n (1) i = rs1 i from if_neg e, show uz ra1 n (-1) i = ra1 i from if_neg e]; have h3 := hrs i h1 (by omega); omega
          have h239 : f223 65 = la E 4 st'_183 := (k236 65 (by decide)).trans h186
          have h240 : F226 13 = .int (zI w) := (k232 13 (by decide)).trans ((k185 13 (by decide)).trans h29)
          have h241 : F226 12 = .int (zI (ct * bl)) := (k232 12 (by decide)).trans ((k185 12 (by decide)).trans h30)
          refine G_loc (lv' := [(0, .ref (eA E 61)), (1, .int (zI w)), (2, .int (zI (p + 1)))]) [2, 3, 0] rfl ?_
          exact ih36 (p + 1) n'_227 (k - 1) (ext Q w 1 p 1 (-1)) rs'_228 ra'_229 st'_183 F226 f223 (by omega) (by have := hfin.2.2; omega) hfin.1 hfin.2.1 hss h231 h240 h241 (FrF.tr (FrF.tr (FrF.tr FrF.rf k31 (by decide)) k185 (by decide)) k232 (by decide)) h239 h233 h234 h230 (Fr.tr (Fr.tr (Fr.tr Fr.rf k34 (by decide)) k187 (by decide)) k236 (by decide))
  have h242 : F22 13 = .int (zI w) := (k25 13 (by decide)).trans ((k19 13 (by decide)).trans h10)
  have h243 : F22 12 = .int (zI (ct * bl)) := (k25 12 (by decide)).trans h18
  have h244 : f21 65 = la E 4 st := (k26 65 (by decide)).trans ((k20 65 (by decide)).trans ((k12 65 (by decide)).trans hc65))
  have h245 : f21 73 = iz E 300 rs := (k26 73 (by decide)).trans ((k20 73 (by decide)).trans ((k12 73 (by decide)).trans hc73))
  have h246 : f21 74 = iz E 300 ra := (k26 74 (by decide)).trans ((k20 74 (by decide)).trans ((k12 74 (by decide)).trans hc74))
  refine G_loc (lv' := [(0, .ref (eA E 61)), (1, .int (zI w)), (2, .int (zI 0))]) [1, 2, 0] rfl ?_
  exact loop32 (_ + 1) 0 0 ((sz 1).toNat) (pT P, pS P, pA P, pN P, 0) rs ra st F22 f21 (Nat.lt_succ_self _) (by omega) rfl (fun i h1 h2 => by omega) rfl h24 h242 h243 FrF.rf h244 h245 h246 h23 Fr.rf
