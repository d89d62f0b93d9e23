/-! class and model side by side; printed by wip/tools/m_in.py -/
/-! plans of scan and differ fill their windows -/
theorem psI_c {P Q : PS} : ∀ (k : Nat), (∀ j : Int, 0 ≤ j → j < k → pS P j = pS Q j) → psI P k = psI Q k := by
  intro k
  induction k with
  | zero => intro _; rfl
  | succ k ih =>
    intro h
    rw [show ((k + 1 : Nat) : Int) = (k : Int) + 1 by omega, psI_s (by omega), psI_s (by omega), ih (fun j a b => h j a (by omega)), h k (by omega) (by omega)]
theorem psI_ci {P Q : PS} {i : Int} (hi : 0 ≤ i) (h : ∀ j : Int, 0 ≤ j → j < i → pS P j = pS Q j) : psI P i = psI Q i := by
  have := psI_c (P := P) (Q := Q) i.toNat (fun j a b => h j a (by omega))
  rwa [Int.toNat_of_nonneg hi] at this
def plV (P : PS) (w x : Int) : Prop := (0 ≤ pC P ∧ pC P ≤ x) ∧ psI P (pC P) = x ∧ ∀ i, 0 ≤ i → i < pC P → 1 ≤ pS P i ∧ pN P i * w ≤ psI P i ∧ psI P (i + 1) ≤ (pN P i + 1) * w ∧ (1 ≤ pT P i ∧ pT P i ≤ 3) ∧ (pT P i = 3 → 0 ≤ pA P i ∧ pA P i ≤ 700)
theorem plV_W {P : PS} {w c : Int} (h : plV P w c) (hc : c ≤ 300) : plW P w c := ⟨⟨h.1.1, by have := h.1.2; omega⟩, h.2.1, h.2.2⟩
theorem plV_0 {P : PS} {w : Int} (h : pC P = 0) : plV P w 0 := ⟨⟨by omega, by omega⟩, by rw [h]; rfl, fun i a b => by omega⟩
theorem plV_app {P : PS} {w x t n a num : Int} (h : plV P w x) (hn : 1 ≤ n) (h1 : num * w ≤ x) (h2 : x + n ≤ (num + 1) * w) (ht : 1 ≤ t ∧ t ≤ 3) (ha : t = 3 → 0 ≤ a ∧ a ≤ 700) : plV (plApp P t n a num) w (x + n) := by
  have hC : pC (plApp P t n a num) = pC P + 1 := rfl
  have hS : ∀ j, j < pC P → pS (plApp P t n a num) j = pS P j := fun j hj => if_neg (by omega)
  have hI : ∀ i, 0 ≤ i → i ≤ pC P → psI (plApp P t n a num) i = psI P i := fun i h3 h4 => psI_ci h3 (fun j _ b => hS j (by omega))
  have hl : pS (plApp P t n a num) (pC P) = n := if_pos rfl
  have h0 := h.1
  refine ⟨⟨by omega, by omega⟩, ?_, ?_⟩
  · rw [hC, psI_s h0.1, hI _ h0.1 (Int.le_refl _), hl, h.2.1]
  · intro i h3 h4
    rw [hC] at h4
    by_cases e : i = pC P
    · subst e
      rw [psI_s h3, hI _ h3 (Int.le_refl _), hl, h.2.1]
      have e1 : pN (plApp P t n a num) (pC P) = num := if_pos rfl
      have e2 : pT (plApp P t n a num) (pC P) = t := if_pos rfl
      have e3 : pA (plApp P t n a num) (pC P) = a := if_pos rfl
      rw [e1, e2, e3]
      exact ⟨hn, h1, h2, ht, ha⟩
    · have h5 := h.2.2 i h3 (by omega)
      rw [hI i h3 (by omega), hI (i + 1) (by omega) (by omega), hS i (by omega)]
      have e1 : pN (plApp P t n a num) i = pN P i := if_neg e
      have e2 : pT (plApp P t n a num) i = pT P i := if_neg e
      have e3 : pA (plApp P t n a num) i = pA P i := if_neg e
      rw [e1, e2, e3]
      exact h5
theorem plV_ext {P : PS} {w x t n a num : Int} (h : plV P w x) (hn : 1 ≤ n) (h1 : num * w ≤ x) (h2 : x + n ≤ (num + 1) * w) (ht : 1 ≤ t ∧ t ≤ 3) (ha : t = 3 → 0 ≤ a ∧ a ≤ 700) : plV (plExt P t n a num) w (x + n) := by
  unfold plExt
  by_cases hg : goP P t a num
  · rw [if_pos hg]
    have h0 := h.1
    have hg1 := hg.1
    have hS : ∀ j, j < pC P - 1 → pS (pT P, uz (pS P) (pC P - 1) (pS P (pC P - 1) + n), pA P, pN P, pC P) j = pS P j := fun j hj => if_neg (by omega)
    have hl : pS (pT P, uz (pS P) (pC P - 1) (pS P (pC P - 1) + n), pA P, pN P, pC P) (pC P - 1) = pS P (pC P - 1) + n := if_pos rfl
    have hI : ∀ i, 0 ≤ i → i ≤ pC P - 1 → psI (pT P, uz (pS P) (pC P - 1) (pS P (pC P - 1) + n), pA P, pN P, pC P) i = psI P i := fun i h3 h4 => psI_ci h3 (fun j _ b => hS j (by omega))
    have hp : psI P (pC P - 1) + pS P (pC P - 1) = x := by
      have := psI_s (P := P) (i := pC P - 1) (by omega)
      rw [show pC P - 1 + 1 = pC P by omega, h.2.1] at this
      omega
    have hend : psI (pT P, uz (pS P) (pC P - 1) (pS P (pC P - 1) + n), pA P, pN P, pC P) (pC P) = x + n := by
      have := psI_s (P := (pT P, uz (pS P) (pC P - 1) (pS P (pC P - 1) + n), pA P, pN P, pC P)) (i := pC P - 1) (by omega)
      rw [show pC P - 1 + 1 = pC P by omega, hI _ (by omega) (Int.le_refl _), hl] at this
      omega
    refine ⟨⟨h0.1, show pC P ≤ _ by omega⟩, hend, ?_⟩
    intro i h3 h4
    have h4' : i < pC P := h4
    have h5 := h.2.2 i h3 h4'
    by_cases e : i = pC P - 1
    · subst e
      rw [show pC P - 1 + 1 = pC P by omega, hend, hI _ h3 (Int.le_refl _), hl]
      refine ⟨by omega, h5.2.1, ?_, h5.2.2.2.1, h5.2.2.2.2⟩
      show x + n ≤ (pN P (pC P - 1) + 1) * w
      rw [hg.2.2.1]; exact h2
    · rw [hI i h3 (by omega), hI (i + 1) (by omega) (by omega), hS i (by omega)]
      exact h5
  · rw [if_neg hg]
    exact plV_app h hn h1 h2 ht ha
theorem wpt_w {w x e : Int} : x + wpt w x e ≤ (x / w + 1) * w := by
  unfold wpt
  split <;> omega
theorem plV_exL {w t x0 a e : Int} (hw : 0 < w) (ht : t = 1 ∨ t = 3) (ha : t = 3 → 0 ≤ a ∧ a + (e - x0) ≤ 700) : ∀ (k : Nat) (x : Int) (P : PS), x0 ≤ x → x ≤ e → e - x ≤ k → plV P w x → plV (exL w t x0 a e k x P) w e := by
  intro k
  induction k with
  | zero => intro x P h1 h2 h3 h; have : x = e := by have : ((0 : Nat) : Int) = 0 := rfl; omega
            rw [this] at h; exact h
  | succ k ih =>
    intro x P h1 h2 h3 h
    unfold exL
    by_cases hx : x < e
    · rw [if_pos hx]
      have hb := wpt_b hw hx
      have h0 := h.1
      refine ih _ _ (by omega) (by omega) (by omega) (plV_ext h hb.1 (Int.ediv_mul_le x (by omega)) wpt_w (by omega) ?_)
      intro h3
      have := ha h3
      rw [if_pos h3]
      omega
    · rw [if_neg hx]
      have : x = e := by omega
      rw [this] at h; exact h
theorem plV_xt {P : PS} {w t x n a : Int} (hw : 0 < w) (ht : t = 1 ∨ t = 3) (ha : t = 3 → 0 ≤ a ∧ a + n ≤ 700) (hn : 0 ≤ n) (h : plV P w x) : plV (ext P w t x n a) w (x + n) := by
  unfold ext
  exact plV_exL hw ht (fun q => by have := ha q; omega) _ _ _ (Int.le_refl _) (by omega) (by omega) h
theorem plV_scL {W F L : Nat → Int64} {g : Int → Int} {bl ct c w : Int} (hw : 0 < w) (hb : 4 ≤ bl ∧ bl ≤ 64) (hc : 0 ≤ ct) (hcb : ct * bl ≤ 300) : ∀ (k : Nat) (p : Int) (Q : PS), p ≤ c → c - p ≤ k → plV Q w p → plV (scL W F L g bl ct c w k p Q) w c := by
  intro k
  induction k with
  | zero => intro p Q h1 h2 h; have : p = c := by have : ((0 : Nat) : Int) = 0 := rfl; omega
            rw [this] at h; exact h
  | succ k ih =>
    intro p Q h1 h2 h
    unfold scL
    by_cases hp : p < c
    · rw [if_pos hp]
      have hf := fd_b (W := W) (F := F) (L := L) (g := g) (bl := bl) (c := c) (p := p) hc
      generalize (if p + bl ≤ c then fdF W F L g bl ct p else -1) = fd at hf
      by_cases h0 : 0 ≤ fd
      · rw [if_pos h0]
        have h3 := hf.2.2 h0
        have h4 : 0 ≤ fd * bl := Int.mul_nonneg h0 (by omega)
        have h5 : (fd + 1) * bl ≤ ct * bl := Int.mul_le_mul_of_nonneg_right (by omega) (by omega)
        rw [Int.add_mul, Int.one_mul] at h5
        exact ih _ _ h3 (by omega) (plV_xt hw (Or.inr rfl) (fun _ => by omega) (by omega) h)
      · rw [if_neg h0]
        exact ih _ _ (by omega) (by omega) (plV_xt hw (Or.inl rfl) (fun q => absurd q (by decide)) (by decide) h)
    · rw [if_neg hp]
      have : p = c := by omega
      rw [this] at h; exact h
theorem plV_sc {W F L : Nat → Int64} {g : Int → Int} {bl ct c w : Int} {P : PS} (hw : 0 < w) (hb : 4 ≤ bl ∧ bl ≤ 64) (hc : 0 ≤ ct) (hcb : ct * bl ≤ 300) (h0 : 0 ≤ c) : plV (scF W F L g bl ct c w P) w c := by
  unfold scF
  exact plV_scL hw hb hc hcb _ _ _ h0 (by omega) (plV_0 rfl)
theorem plV_appA {P : PS} {w x ad num : Int} (h : plV P w (x - ad)) (h0 : 0 ≤ ad) (h1 : num * w ≤ x - ad) (h2 : x ≤ (num + 1) * w) : plV (appA P ad num) w x := by
  unfold appA
  by_cases q : 0 < ad
  · rw [if_pos q]
    have := plV_app (t := 1) (n := ad) (a := -1) h (by omega) h1 (show x - ad + ad ≤ _ by omega) (by decide) (fun q => absurd q (by decide))
    rwa [show x - ad + ad = x by omega] at this
  · rw [if_neg q]
    rwa [show x - ad = x by omega] at h
theorem plV_pwL {h : Int → Int} {so en ch num w bg : Int} (hbg : bg = num * w) (h0 : 0 ≤ bg) (hs : 0 ≤ so ∧ so ≤ 300) (hen : so ≤ en ∧ en - so ≤ 256 ∧ bg + (en - so) ≤ (num + 1) * w) : ∀ (k : Nat) (here ad : Int) (P : PS), so ≤ here → here ≤ en → en - here ≤ k → 0 ≤ ad → ad ≤ here - so → plV P w (bg + (here - so) - ad) → plV (pwL h so en ch num k here ad P) w (bg + (en - so)) := by
  intro k
  induction k with
  | zero =>
    intro here ad P h1 h2 h3 h4 h5 h6
    have : here = en := by have : ((0 : Nat) : Int) = 0 := rfl; omega
    subst this
    exact plV_appA h6 h4 (by omega) hen.2.2
  | succ k ih =>
    intro here ad P h1 h2 h3 h4 h5 h6
    unfold pwL
    by_cases hh : here < en
    · rw [if_pos hh]
      have hr : 1 ≤ rnF h here en ∧ rnF h here en ≤ en - here := cnt_b (by omega)
      have hf := fmF_b (h := h) (so := so) (en := en) (ch := ch) (here := here) h2 (by omega)
      by_cases c1 : 4 ≤ rnF h here en ∧ (fmF h so en ch here).2 ≤ rnF h here en
      · rw [if_pos c1]
        have a1 := plV_appA (x := bg + (here - so)) (num := num) h6 h4 (by omega) (by omega)
        have a2 := plV_app (t := 2) (n := rnF h here en) (a := -1) (num := num) a1 hr.1 (by omega) (by omega) (by decide) (fun q => absurd q (by decide))
        refine ih _ _ _ (by omega) (by omega) (by omega) (Int.le_refl 0) (by omega) ?_
        rwa [show bg + (here + rnF h here en - so) - 0 = bg + (here - so) + rnF h here en by omega]
      · rw [if_neg c1]
        by_cases c2 : 4 ≤ (fmF h so en ch here).2
        · rw [if_pos c2]
          have hsb : 0 ≤ sbF h (fmF h so en ch here).1 here ad ∧ sbF h (fmF h so en ch here).1 here ad ≤ ad := cnt_b h4
          have hsm := sbF_m (h := h) (here := here) (add := ad) (show 0 ≤ (fmF h so en ch here).1 by have := hf.2.2 (by omega); omega)
          have a1 := plV_appA (P := P) (w := w) (x := bg + (here - so) - sbF h (fmF h so en ch here).1 here ad) (ad := ad - sbF h (fmF h so en ch here).1 here ad) (num := num) (by rwa [show bg + (here - so) - sbF h (fmF h so en ch here).1 here ad - (ad - sbF h (fmF h so en ch here).1 here ad) = bg + (here - so) - ad by omega]) (by omega) (by omega) (by omega)
          have a2 := plV_app (t := 3) (n := sbF h (fmF h so en ch here).1 here ad + (fmF h so en ch here).2) (a := (fmF h so en ch here).1 - sbF h (fmF h so en ch here).1 here ad) (num := num) a1 (by omega) (by omega) (by omega) (by decide) (fun _ => by omega)
          refine ih _ _ _ (by omega) (by omega) (by omega) (Int.le_refl 0) (by omega) ?_
          rwa [show bg + (here + (fmF h so en ch here).2 - so) - 0 = bg + (here - so) - sbF h (fmF h so en ch here).1 here ad + (sbF h (fmF h so en ch here).1 here ad + (fmF h so en ch here).2) by omega]
        · rw [if_neg c2]
          refine ih _ _ _ (by omega) (by omega) (by omega) (by omega) (by omega) ?_
          rwa [show bg + (here + 1 - so) - (ad + 1) = bg + (here - so) - ad by omega]
    · rw [if_neg hh]
      have : here = en := by omega
      subst this
      exact plV_appA h6 h4 (by omega) hen.2.2
theorem plV_dfL {g0 g : Int → Int} {so c ch w : Int} (hw : 16 ≤ w ∧ w ≤ 256) (hs : 0 ≤ so ∧ so ≤ 300) (hc : 0 ≤ c) : ∀ (k : Nat) (num : Int) (Q : PS), 0 ≤ num → c - num * w ≤ k → plV Q w (if num * w ≤ c then num * w else c) → plV (dfL g0 g so c ch w k num Q) w c := by
  intro k
  induction k with
  | zero =>
    intro num Q h0 h1 h
    have : (if num * w ≤ c then num * w else c) = c := by
      have : ((0 : Nat) : Int) = 0 := rfl
      split <;> omega
    rw [this] at h; exact h
  | succ k ih =>
    intro num Q h0 h1 h
    have hn0 : 0 ≤ num * w := Int.mul_nonneg h0 (by omega)
    have hnx : (num + 1) * w = num * w + w := by rw [Int.add_mul, Int.one_mul]
    unfold dfL
    by_cases q : num * w < c
    · rw [if_pos q]
      rw [if_pos (by omega)] at h
      refine ih _ _ (by omega) (by rw [hnx]; omega) ?_
      have hb := plV_pwL (h := hcF g0 g so (num * w)) (so := so) (en := so + (if w ≤ c - num * w then w else c - num * w)) (ch := ch) (num := num) (w := w) (bg := num * w) rfl hn0 hs (by rw [hnx]; split <;> omega) (so + (if w ≤ c - num * w then w else c - num * w) - so).toNat so 0 Q (Int.le_refl so) (by split <;> omega) (by omega) (Int.le_refl 0) (by omega) (by rwa [show num * w + (so - so) - 0 = num * w by omega])
      unfold pwF
      rw [hnx]
      rwa [show num * w + (so + (if w ≤ c - num * w then w else c - num * w) - so) = (if num * w + w ≤ c then num * w + w else c) by split <;> split <;> omega] at hb
    · rw [if_neg q]
      have : (if num * w ≤ c then num * w else c) = c := by split <;> omega
      rw [this] at h; exact h
theorem plV_df {g0 g : Int → Int} {so c ch w : Int} {P : PS} (hw : 16 ≤ w ∧ w ≤ 256) (hs : 0 ≤ so ∧ so ≤ 300) (hc : 0 ≤ c) : plV (dfF g0 g so c ch w P) w c := by
  unfold dfF
  refine plV_dfL hw hs hc _ _ _ (Int.le_refl 0) (by omega) ?_
  rw [Int.zero_mul, if_pos hc]
  exact plV_0 rfl
/-! what encode writes are bytes -/
def okL (L : List Int) : Prop := ∀ x ∈ L, 0 ≤ x ∧ x < 256
theorem okL_nil : okL [] := fun x h => by cases h
theorem okL_app {L M : List Int} (h : okL L) (h2 : okL M) : okL (L ++ M) := fun x hx => by
  rcases List.mem_append.mp hx with q | q
  · exact h x q
  · exact h2 x q
theorem okL_cons {y : Int} {L : List Int} (h : 0 ≤ y ∧ y < 256) (h2 : okL L) : okL (y :: L) := fun x hx => by
  rcases List.mem_cons.mp hx with q | q
  · rw [q]; exact h
  · exact h2 x q
theorem okL_1 {y : Int} (h : 0 ≤ y ∧ y < 256) : okL [y] := okL_cons h okL_nil
theorem okL_get {L : List Int} (h : okL L) (k : Nat) : 0 ≤ L.getD k 0 ∧ L.getD k 0 < 256 := by
  by_cases q : k < L.length
  · rw [List.getD_eq_getElem?_getD, List.getElem?_eq_getElem q]
    exact h _ (List.getElem_mem q)
  · rw [List.getD_eq_getElem?_getD, List.getElem?_eq_none (by omega)]
    exact ⟨Int.le_refl 0, show (0 : Int) < 256 by decide⟩
theorem okL_sl {g : Int → Int} (h : isB g) (p : Int) (n : Nat) : okL (sl g p n) := fun x hx => by
  unfold sl lst at hx
  obtain ⟨k, _, e⟩ := List.mem_map.mp hx
  rw [← e]; exact h _
theorem okL_nb {v : Int} (h : 0 ≤ v ∧ v < 268435456) : okL (nbL v) := by
  rcases wid_cases h with ⟨h0, hw⟩ | ⟨h0, hw⟩ | ⟨h0, hw⟩ | ⟨h0, hw⟩
  · rw [nbL_1 hw]
    refine okL_1 ?_
    unfold nby; rw [if_pos hw]; omega
  · rw [nbL_2 hw]
    refine okL_cons ?_ (okL_1 ?_)
    · unfold nby; rw [if_neg (by omega), if_pos hw, if_pos rfl]; omega
    · unfold nby; rw [if_neg (by omega), if_pos hw, if_neg (by decide)]; omega
  · rw [nbL_3 hw]
    refine okL_cons ?_ (okL_cons ?_ (okL_1 ?_))
    · unfold nby; rw [if_neg (by omega), if_neg (by omega), if_pos hw, if_pos rfl]; omega
    · unfold nby; rw [if_neg (by omega), if_neg (by omega), if_pos hw, if_neg (by decide), if_pos rfl]; omega
    · unfold nby; rw [if_neg (by omega), if_neg (by omega), if_pos hw, if_neg (by decide), if_neg (by decide)]; omega
  · rw [nbL_4 hw]
    refine okL_cons ?_ (okL_cons ?_ (okL_cons ?_ (okL_1 ?_)))
    · unfold nby; rw [if_neg (by omega), if_neg (by omega), if_neg (by omega), if_pos rfl]; omega
    · unfold nby; rw [if_neg (by omega), if_neg (by omega), if_neg (by omega), if_neg (by decide), if_pos rfl]; omega
    · unfold nby; rw [if_neg (by omega), if_neg (by omega), if_neg (by omega), if_neg (by decide), if_neg (by decide), if_pos rfl]; omega
    · unfold nby; rw [if_neg (by omega), if_neg (by omega), if_neg (by omega), if_neg (by decide), if_neg (by decide), if_neg (by decide)]; omega
theorem okL_gd {P : PS} {g : Int → Int} (h : isB g) : ∀ (k : Nat) (i : Int), okL (gdL P g k i) := by
  intro k
  induction k with
  | zero => intro i; exact okL_nil
  | succ k ih =>
    intro i
    refine okL_app ?_ (ih _)
    unfold gdI
    split
    · exact okL_sl h _ _
    · split
      · exact okL_1 (h _)
      · exact okL_nil
theorem okL_c1 {t n m : Int} (ht : 1 ≤ t ∧ t ≤ 3) (hn : 1 ≤ n ∧ n ≤ 300) (hm : t = 3 → 0 ≤ m ∧ m ≤ 8) : okL (c1L t n m) := by
  unfold c1L
  split
  · exact okL_1 (by omega)
  · split
    · rename_i q; have := hm q.1; exact okL_1 (by omega)
    · refine okL_app (okL_1 ?_) (okL_nb (by omega))
      split
      · decide
      · split
        · decide
        · have := hm (by omega); omega
theorem okL_cd {P : PS} {a b x c s : Int} (h : wnOK P a b x c) : ∀ (k : Nat) (i : Int), a ≤ i → okL (cdL P (mdI P a s) b k i) ∧ (cdL P (mdI P a s) b k i).length ≤ 3 * k := by
  have hm : ∀ i, a ≤ i → i < b → pT P i = 3 → 0 ≤ mdI P a s i ∧ mdI P a s i ≤ 8 := fun i h1 h2 h3 => mdI_b ((h.2.2 i h1 h2).2.2.2.2 h3).1
  have hS : ∀ i, a ≤ i → i < b → 1 ≤ pS P i ∧ pS P i ≤ 300 := fun i h1 h2 => by
    have h3 := h.2.2 i h1 h2
    have h4 := psI_s (P := P) (i := i) (by have := h.1; omega)
    have h5 := wnOK_gi h h1 (by omega)
    have h6 := h.2.1
    omega
  intro k
  induction k with
  | zero => intro i _; exact ⟨okL_nil, Nat.le_refl 0⟩
  | succ k ih =>
    intro i hi
    unfold cdL
    by_cases q : i < b
    · rw [if_pos q]
      have h3 := h.2.2 i hi q
      by_cases q2 : i + 1 < b ∧ 0 ≤ c2F P (mdI P a s) i
      · rw [if_pos q2]
        have hb := c2F_b (P := P) (md := mdI P a s) (i := i) h3.1 (hm i hi q) (hm (i + 1) (by omega) q2.1)
        have := ih (i + 2) (by omega)
        exact ⟨okL_app (okL_1 (by omega)) this.1, by rw [List.length_append, List.length_cons, List.length_nil]; omega⟩
      · rw [if_neg q2]
        have := ih (i + 1) (by omega)
        have hl := c1L_len (t := pT P i) (n := pS P i) (m := mdI P a s i) (by have := hS i hi q; omega)
        exact ⟨okL_app (okL_c1 h3.2.2.2.1 (hS i hi q) (hm i hi q)) this.1, by rw [List.length_append]; omega⟩
    · rw [if_neg q]; exact ⟨okL_nil, Nat.zero_le _⟩
theorem okL_ad {P : PS} {a b x c s : Int} (h : wnOK P a b x c) : ∀ (k : Nat) (i : Int), a ≤ i → i + k ≤ b → okL (adL P a s k i) := by
  intro k
  induction k with
  | zero => intro i _ _; exact okL_nil
  | succ k ih =>
    intro i hi hk
    refine okL_app ?_ (ih _ (by omega) (by omega))
    unfold adI
    split
    · rename_i q
      have h3 := (h.2.2 i hi (by omega)).2.2.2.2 q
      have hm := md_b (nr := (arI P a i).1) (sm := (arI P a i).2.1) (here := s + psI P i - psI P a) h3.1
      by_cases q2 : 2 + 4 ≤ mdF (arI P a i).1 (arI P a i).2.1 4 3 (pA P i) (s + psI P i - psI P a)
      · rw [tl_hi q2]; exact okL_1 (by omega)
      · rw [tl_lo q2]; exact okL_nb (by have := hm.2.2 (by omega); omega)
    · exact okL_nil
theorem okL_hd {n ck v cd cc ca : Int} (h : (0 ≤ n ∧ n < 268435456) ∧ (0 ≤ cd ∧ cd < 268435456) ∧ (0 ≤ cc ∧ cc < 268435456) ∧ 0 ≤ ca ∧ ca < 268435456) : okL (hdL n ck v cd cc ca) := by
  unfold hdL
  refine okL_app (okL_nb h.1) (okL_app (okL_1 (by decide)) (okL_app (okL_nb h.2.1) (okL_app (okL_nb h.2.2.1) (okL_app (okL_nb h.2.2.2) ?_))))
  split
  · exact okL_nil
  · exact okL_cons (by omega) (okL_cons (by omega) (okL_cons (by omega) (okL_1 (by omega))))
theorem okL_ws {s ck : Int} (h : 0 ≤ s ∧ s ≤ 300) : okL (wsL s ck) := by
  unfold wsL
  refine okL_app (okL_1 ?_) ?_
  · split <;> split <;> decide
  · split
    · exact okL_app (okL_nb (by omega)) (okL_nb (by decide))
    · exact okL_nil
theorem okL_wn {P : PS} {w s : Int} {g : Int → Int} {c num a ck : Int} (hW : plW P w c) (hw : 16 ≤ w ∧ w ≤ 256) (hc : 0 ≤ c ∧ c ≤ 300) (ha : 0 ≤ a ∧ a ≤ pC P) (hx : num * w = psI P a) (h0 : 0 ≤ num * w) (hn : num * w < c) (hs : 0 ≤ s ∧ s ≤ 300) (hg : isB g) : okL (wnL P w s g c num a ck) := by
  have hok := wnOK_of hW hw hc.2 ha hx h0
  have hwb := wnE_b (P := P) (num := num) ha.2
  have hC := hW.1
  have hle := wnOK_le hok
  obtain ⟨n, hnn⟩ : ∃ n, n = if w ≤ c - num * w then w else c - num * w := ⟨_, rfl⟩
  have hnb : 0 < n ∧ n ≤ 256 := by rw [hnn]; split <;> omega
  have hcd := okL_cd (s := s) hok (wnE P num a - a).toNat a (Int.le_refl a)
  have had := okL_ad (s := s) hok (wnE P num a - a).toNat a (Int.le_refl a) (by omega)
  have hda := da_len (g := g) (s := s) hok (wnE P num a - a).toNat a (Int.le_refl a) (by omega)
  have hgd := okL_gd (P := P) hg (wnE P num a - a).toNat a
  unfold wnL
  rw [← hnn]
  have h1 : ((cdL P (mdI P a s) (wnE P num a) (wnE P num a - a).toNat a).length : Int) ≤ 900 := by have := hcd.2; omega
  have h2 : ((gdL P g (wnE P num a - a).toNat a).length : Int) ≤ 600 ∧ ((adL P a s (wnE P num a - a).toNat a).length : Int) ≤ 600 := by omega
  have h3 := hdL_len (sz := n) (ck := ck) (v := adV g (num * w) n) (cd := (gdL P g (wnE P num a - a).toNat a).length) (cc := (cdL P (mdI P a s) (wnE P num a) (wnE P num a - a).toNat a).length) (ca := (adL P a s (wnE P num a - a).toNat a).length) (by omega)
  exact okL_app (okL_ws hs) (okL_app (okL_nb (by omega)) (okL_app (okL_hd (by omega)) (okL_app hgd (okL_app hcd.1 had))))
theorem okL_enL {P : PS} {w s : Int} {g : Int → Int} {c ck : Int} (hW : plW P w c) (hw : 16 ≤ w ∧ w ≤ 256) (hc : 0 ≤ c ∧ c ≤ 300) (hs : 0 ≤ s ∧ s ≤ 300) (hg : isB g) : ∀ (k : Nat) (num a : Int), 0 ≤ num → (0 ≤ a ∧ a ≤ pC P) → (num * w = psI P a ∨ c ≤ num * w) → okL (enL P w s g c ck k num a) := by
  intro k
  induction k with
  | zero => intro num a _ _ _; exact okL_nil
  | succ k ih =>
    intro num a h0 ha hx
    unfold enL
    by_cases q : num * w < c
    · rw [if_pos q]
      have hxe : num * w = psI P a := by rcases hx with h9 | h9; exact h9; omega
      have hn0 : 0 ≤ num * w := Int.mul_nonneg h0 (by omega)
      have hsw := wnOK_sz hW hw hc.2 ha hxe q
      have hwb := wnE_b (P := P) (num := num) ha.2
      refine okL_app (okL_wn hW hw hc ha hxe hn0 q hs hg) (ih _ _ (by omega) (by omega) (en_x ?_ hsw))
      rw [Int.add_mul, Int.one_mul]
    · rw [if_neg q]; exact okL_nil
theorem okL_en {P : PS} {w s : Int} {g : Int → Int} {c ck : Int} (hW : plW P w c) (hw : 16 ≤ w ∧ w ≤ 256) (hc : 0 ≤ c ∧ c ≤ 300) (hs : 0 ≤ s ∧ s ≤ 300) (hg : isB g) : okL (enF P w s g c ck) := by
  unfold enF
  refine okL_app ?_ (okL_enL hW hw hc hs hg _ _ _ (Int.le_refl 0) ⟨Int.le_refl 0, hW.1.1⟩ (Or.inl ?_))
  · exact okL_cons (by decide) (okL_cons (by decide) (okL_cons (by decide) (okL_cons (by decide) (okL_1 (by decide)))))
  · rw [Int.zero_mul]; rfl
theorem iz_nn {E : EV} {n : Nat} {g g' : Int → Int} (h : ∀ k : Int, 0 ≤ k → g k = g' k) : iz E n g = iz E n g' := by
  have : zf g = zf g' := by
    funext j
    unfold zf
    rw [h j (by omega)]
  show ia E n (zf g) = ia E n (zf g')
  rw [this]
def gDg (E : EV) (f : Nat → va_E) : Prop := ∃ (s wd : Nat → Int32) (x0 x1 x2 x3 : Int32), isD E f 10 11 12 s wd ∧ f 13 = ob 8 [.int x0, .int x1, .int x2, .int x3]
def gSg (E : EV) (f : Nat → va_E) (W F L : Nat → Int64) (md bl ct : Int) : Prop := isSg E f W F L md bl ct ∧ ∃ (s wd : Nat → Int32) (y0 y1 y2 y3 : Int32), isD E f 15 16 17 s wd ∧ f 21 = ob 8 [.int y0, .int y1, .int y2, .int y3]
def gMa (E : EV) (f : Nat → va_E) : Prop := ∃ (h : Int → Int) (so en ch mA mS : Int), isMa E f h so en ch mA mS ∧ isB h
def gWt (E : EV) (f : Nat → va_E) : Prop := ∃ (nx : Int) (go : Int → Int) (co : Int), isWt E f nx ∧ isR E f 30 31 1885 go co ∧ wtS E f
def gMk (E : EV) (f : Nat → va_E) : Prop := f 62 = la E 32 kkF ∧ ∃ s : Nat → Int64, f 65 = la E 4 s
def gMx (E : EV) (f : Nat → va_E) : Prop := ∃ (rs ra dr ps pt nr sm tb ob o av ev : Int → Int), f 73 = iz E 300 rs ∧ f 74 = iz E 300 ra ∧ f 75 = iz E 3000 dr ∧ f 76 = iz E 3 ps ∧ f 77 = iz E 3000 pt ∧ f 78 = iz E 8 nr ∧ f 79 = iz E 1024 sm ∧ f 80 = iz E 1536 tb ∧ f 81 = iz E 1536 ob ∧ f 82 = iz E 1536 o ∧ f 83 = iz E 3 av ∧ f 84 = iz E 3 ev
def agR (b : Int → Int) (o : Int) (g : Int → Int) (c : Int) : Prop := ∀ i, 0 ≤ i → i < c → b (o + i) = g i
def stOK (st : Int → Int) : Prop := (∀ x, 0 ≤ x → x < 1536 → st x = stF x) ∧ isB st ∧ ∀ k, 0 ≤ k → k < 512 → st k ≤ 3
def Good (E : EV) (st : Int → Int) (f : Nat → va_E) : Prop := ∃ (bk : Int) (wi : Int) (ns : Int) (n1 : Int64) (n2 : Int64) (g0 : Int → Int) (c0 : Int) (g1 : Int → Int) (c1 : Int) (g2 : Int → Int) (c2 : Int) (g3 : Int → Int) (c3 : Int) (W : Nat → Int64) (Fs : Nat → Int64) (L : Nat → Int64) (md : Int) (bl : Int) (ct : Int) (P : PS) (pm : Int) (pw : Int) (ps : Int) (F : Nat → Value) (b : Int → Int) (sz : Int → Int) (Wm : Nat → Int64) (Am : Nat → Int64) (Lm : Nat → Int64) (mt : Int → Int) (ms : Int → Int) (ma : Int → Int) (mn : Int → Int), isDf E f bk wi ns n1 n2 ∧ isR E f 2 3 300 g0 c0 ∧ isR E f 4 5 300 g1 c1 ∧ isR E f 6 7 700 g2 c2 ∧ isR E f 8 9 300 g3 c3 ∧ gDg E f ∧ gSg E f W Fs L md bl ct ∧ isPl E f P pm pw ps ∧ gMa E f ∧ gWt E f ∧ rdI E f st ∧ f 61 = mob F ∧ (f 63 = iz E 1600 b ∧ f 64 = iz E 4 sz) ∧ gMk E f ∧ (f 66 = la E 75 Wm ∧ f 67 = la E 75 Am ∧ f 68 = la E 75 Lm) ∧ (f 69 = iz E 700 mt ∧ f 70 = iz E 700 ms ∧ f 71 = iz E 700 ma ∧ f 72 = iz E 700 mn) ∧ gMx E f ∧ moK E F ∧ F 7 = .int (zI (if md = 1 then ct else -1)) ∧ (md = 1 → F 6 = .int (zI bl)) ∧ F 11 = .int (zI (if pm = 1 then pC P else -1)) ∧ (pm = 1 → F 12 = .int (zI ps) ∧ F 13 = .int (zI pw)) ∧ (F 46 = .int (zI ns) ∧ F 47 = .int (zI bk) ∧ F 48 = .int (zI wi) ∧ F 49 = .long n1 ∧ F 50 = .long n2) ∧ (isB g0 ∧ isB g1 ∧ isB g2 ∧ isB g3) ∧ ((0 ≤ c0 ∧ c0 ≤ 300) ∧ (0 ≤ c1 ∧ c1 ≤ 300) ∧ (0 ≤ c2 ∧ c2 ≤ 700) ∧ 0 ≤ c3 ∧ c3 ≤ 300) ∧ (sz 0 = c0 ∧ sz 1 = c1 ∧ sz 2 = c2 ∧ sz 3 = c3) ∧ agR b 0 g0 c0 ∧ agR b 300 g1 c1 ∧ agR b 600 g2 c2 ∧ agR b 1300 g3 c3 ∧ ((md = 0 ∨ md = 1) ∧ (md = 1 → (4 ≤ bl ∧ bl ≤ 64) ∧ 0 ≤ ct ∧ ct ≤ 75 ∧ ct * bl ≤ 300 ∧ ∀ k : Int, 0 ≤ k → k < ct → Wm k.toNat = W k.toNat ∧ Am k.toNat = Fs k.toNat ∧ Lm k.toNat = L k.toNat)) ∧ ((pm = 0 ∨ pm = 1) ∧ plB P ∧ (0 ≤ pC P ∧ pC P ≤ 300) ∧ (pm = 1 → plE mt ms ma mn P ∧ plW P pw c1 ∧ (16 ≤ pw ∧ pw ≤ 256) ∧ 0 ≤ ps ∧ ps ≤ 300)) ∧ ((4 ≤ bk ∧ bk ≤ 64) ∧ (16 ≤ wi ∧ wi ≤ 256) ∧ (ns = 0 ∨ ns = 1 ∨ ns = 2) ∧ (¬ ns = 0 → md = 1))
section KEEP
variable {E : EV} {S : List Nat} {f f1 : Nat → va_E}
theorem t_hDf {bk : Int} {wi : Int} {ns : Int} {n1 : Int64} {n2 : Int64} (k : Fr S f f1) (hs : ∀ x ∈ [0, 1], x ∉ S) (h : isDf E f bk wi ns n1 n2) : isDf E f1 bk wi ns n1 n2 := by
  have e0 : f1 0 = f 0 := k 0 (hs 0 (by decide))
  have e1 : f1 1 = f 1 := k 1 (hs 1 (by decide))
  unfold isDf at h
  unfold isDf
  simp only [e0, e1]
  exact h
theorem t_hR0 {g0 : Int → Int} {c0 : Int} (k : Fr S f f1) (hs : ∀ x ∈ [2, 3], x ∉ S) (h : isR E f 2 3 300 g0 c0) : isR E f1 2 3 300 g0 c0 := by
  have e2 : f1 2 = f 2 := k 2 (hs 2 (by decide))
  have e3 : f1 3 = f 3 := k 3 (hs 3 (by decide))
  unfold isR at h
  unfold isR
  simp only [e2, e3]
  exact h
theorem t_hR1 {g1 : Int → Int} {c1 : Int} (k : Fr S f f1) (hs : ∀ x ∈ [4, 5], x ∉ S) (h : isR E f 4 5 300 g1 c1) : isR E f1 4 5 300 g1 c1 := by
  have e4 : f1 4 = f 4 := k 4 (hs 4 (by decide))
  have e5 : f1 5 = f 5 := k 5 (hs 5 (by decide))
  unfold isR at h
  unfold isR
  simp only [e4, e5]
  exact h
theorem t_hR2 {g2 : Int → Int} {c2 : Int} (k : Fr S f f1) (hs : ∀ x ∈ [6, 7], x ∉ S) (h : isR E f 6 7 700 g2 c2) : isR E f1 6 7 700 g2 c2 := by
  have e6 : f1 6 = f 6 := k 6 (hs 6 (by decide))
  have e7 : f1 7 = f 7 := k 7 (hs 7 (by decide))
  unfold isR at h
  unfold isR
  simp only [e6, e7]
  exact h
theorem t_hR3 {g3 : Int → Int} {c3 : Int} (k : Fr S f f1) (hs : ∀ x ∈ [8, 9], x ∉ S) (h : isR E f 8 9 300 g3 c3) : isR E f1 8 9 300 g3 c3 := by
  have e8 : f1 8 = f 8 := k 8 (hs 8 (by decide))
  have e9 : f1 9 = f 9 := k 9 (hs 9 (by decide))
  unfold isR at h
  unfold isR
  simp only [e8, e9]
  exact h
theorem t_hDg (k : Fr S f f1) (hs : ∀ x ∈ [10, 11, 12, 13], x ∉ S) (h : gDg E f) : gDg E f1 := by
  have e10 : f1 10 = f 10 := k 10 (hs 10 (by decide))
  have e11 : f1 11 = f 11 := k 11 (hs 11 (by decide))
  have e12 : f1 12 = f 12 := k 12 (hs 12 (by decide))
  have e13 : f1 13 = f 13 := k 13 (hs 13 (by decide))
  unfold gDg isD at h
  unfold gDg isD
  simp only [e10, e11, e12, e13]
  exact h
theorem t_hSg {W : Nat → Int64} {Fs : Nat → Int64} {L : Nat → Int64} {md : Int} {bl : Int} {ct : Int} (k : Fr S f f1) (hs : ∀ x ∈ [14, 15, 16, 17, 18, 19, 20, 21], x ∉ S) (h : gSg E f W Fs L md bl ct) : gSg E f1 W Fs L md bl ct := by
  have e14 : f1 14 = f 14 := k 14 (hs 14 (by decide))
  have e15 : f1 15 = f 15 := k 15 (hs 15 (by decide))
  have e16 : f1 16 = f 16 := k 16 (hs 16 (by decide))
  have e17 : f1 17 = f 17 := k 17 (hs 17 (by decide))
  have e18 : f1 18 = f 18 := k 18 (hs 18 (by decide))
  have e19 : f1 19 = f 19 := k 19 (hs 19 (by decide))
  have e20 : f1 20 = f 20 := k 20 (hs 20 (by decide))
  have e21 : f1 21 = f 21 := k 21 (hs 21 (by decide))
  unfold gSg isSg isD at h
  unfold gSg isSg isD
  simp only [e14, e15, e16, e17, e18, e19, e20, e21]
  exact h
theorem t_hPl {P : PS} {pm : Int} {pw : Int} {ps : Int} (k : Fr S f f1) (hs : ∀ x ∈ [22, 23, 24, 25, 26], x ∉ S) (h : isPl E f P pm pw ps) : isPl E f1 P pm pw ps := by
  have e22 : f1 22 = f 22 := k 22 (hs 22 (by decide))
  have e23 : f1 23 = f 23 := k 23 (hs 23 (by decide))
  have e24 : f1 24 = f 24 := k 24 (hs 24 (by decide))
  have e25 : f1 25 = f 25 := k 25 (hs 25 (by decide))
  have e26 : f1 26 = f 26 := k 26 (hs 26 (by decide))
  unfold isPl at h
  unfold isPl
  simp only [e22, e23, e24, e25, e26]
  exact h
theorem t_hMa (k : Fr S f f1) (hs : ∀ x ∈ [27, 28], x ∉ S) (h : gMa E f) : gMa E f1 := by
  have e27 : f1 27 = f 27 := k 27 (hs 27 (by decide))
  have e28 : f1 28 = f 28 := k 28 (hs 28 (by decide))
  unfold gMa isMa at h
  unfold gMa isMa
  simp only [e27, e28]
  exact h
theorem t_hWt (k : Fr S f f1) (hs : ∀ x ∈ [29, 30, 31, 32, 33, 34, 35, 36, 37, 38, 39, 40, 41, 42, 43], x ∉ S) (h : gWt E f) : gWt E f1 := by
  have e29 : f1 29 = f 29 := k 29 (hs 29 (by decide))
  have e30 : f1 30 = f 30 := k 30 (hs 30 (by decide))
  have e31 : f1 31 = f 31 := k 31 (hs 31 (by decide))
  have e32 : f1 32 = f 32 := k 32 (hs 32 (by decide))
  have e33 : f1 33 = f 33 := k 33 (hs 33 (by decide))
  have e34 : f1 34 = f 34 := k 34 (hs 34 (by decide))
  have e35 : f1 35 = f 35 := k 35 (hs 35 (by decide))
  have e36 : f1 36 = f 36 := k 36 (hs 36 (by decide))
  have e37 : f1 37 = f 37 := k 37 (hs 37 (by decide))
  have e38 : f1 38 = f 38 := k 38 (hs 38 (by decide))
  have e39 : f1 39 = f 39 := k 39 (hs 39 (by decide))
  have e40 : f1 40 = f 40 := k 40 (hs 40 (by decide))
  have e41 : f1 41 = f 41 := k 41 (hs 41 (by decide))
  have e42 : f1 42 = f 42 := k 42 (hs 42 (by decide))
  have e43 : f1 43 = f 43 := k 43 (hs 43 (by decide))
  unfold gWt isWt wtS isR isA at h
  unfold gWt isWt wtS isR isA
  simp only [e29, e30, e31, e32, e33, e34, e35, e36, e37, e38, e39, e40, e41, e42, e43]
  exact h
theorem t_hRd {st : Int → Int} (k : Fr S f f1) (hs : ∀ x ∈ [44, 45, 46, 47, 48, 49, 50, 51, 52, 53, 54, 55, 56, 57, 58, 59, 60], x ∉ S) (h : rdI E f st) : rdI E f1 st := by
  have e44 : f1 44 = f 44 := k 44 (hs 44 (by decide))
  have e45 : f1 45 = f 45 := k 45 (hs 45 (by decide))
  have e46 : f1 46 = f 46 := k 46 (hs 46 (by decide))
  have e47 : f1 47 = f 47 := k 47 (hs 47 (by decide))
  have e48 : f1 48 = f 48 := k 48 (hs 48 (by decide))
  have e49 : f1 49 = f 49 := k 49 (hs 49 (by decide))
  have e50 : f1 50 = f 50 := k 50 (hs 50 (by decide))
  have e51 : f1 51 = f 51 := k 51 (hs 51 (by decide))
  have e52 : f1 52 = f 52 := k 52 (hs 52 (by decide))
  have e53 : f1 53 = f 53 := k 53 (hs 53 (by decide))
  have e54 : f1 54 = f 54 := k 54 (hs 54 (by decide))
  have e55 : f1 55 = f 55 := k 55 (hs 55 (by decide))
  have e56 : f1 56 = f 56 := k 56 (hs 56 (by decide))
  have e57 : f1 57 = f 57 := k 57 (hs 57 (by decide))
  have e58 : f1 58 = f 58 := k 58 (hs 58 (by decide))
  have e59 : f1 59 = f 59 := k 59 (hs 59 (by decide))
  have e60 : f1 60 = f 60 := k 60 (hs 60 (by decide))
  unfold rdI rdS wdS wrS roS cuS isR isA at h
  unfold rdI rdS wdS wrS roS cuS isR isA
  simp only [e44, e45, e46, e47, e48, e49, e50, e51, e52, e53, e54, e55, e56, e57, e58, e59, e60]
  exact h
theorem t_hMo {F : Nat → Value} (k : Fr S f f1) (hs : ∀ x ∈ [61], x ∉ S) (h : f 61 = mob F) : f1 61 = mob F := by
  have e61 : f1 61 = f 61 := k 61 (hs 61 (by decide))
  simp only [e61]
  exact h
theorem t_hMB {b : Int → Int} {sz : Int → Int} (k : Fr S f f1) (hs : ∀ x ∈ [63, 64], x ∉ S) (h : (f 63 = iz E 1600 b ∧ f 64 = iz E 4 sz)) : (f1 63 = iz E 1600 b ∧ f1 64 = iz E 4 sz) := by
  have e63 : f1 63 = f 63 := k 63 (hs 63 (by decide))
  have e64 : f1 64 = f 64 := k 64 (hs 64 (by decide))
  simp only [e63, e64]
  exact h
theorem t_hMk (k : Fr S f f1) (hs : ∀ x ∈ [62, 65], x ∉ S) (h : gMk E f) : gMk E f1 := by
  have e62 : f1 62 = f 62 := k 62 (hs 62 (by decide))
  have e65 : f1 65 = f 65 := k 65 (hs 65 (by decide))
  unfold gMk at h
  unfold gMk
  simp only [e62, e65]
  exact h
theorem t_hMs {Wm : Nat → Int64} {Am : Nat → Int64} {Lm : Nat → Int64} (k : Fr S f f1) (hs : ∀ x ∈ [66, 67, 68], x ∉ S) (h : (f 66 = la E 75 Wm ∧ f 67 = la E 75 Am ∧ f 68 = la E 75 Lm)) : (f1 66 = la E 75 Wm ∧ f1 67 = la E 75 Am ∧ f1 68 = la E 75 Lm) := by
  have e66 : f1 66 = f 66 := k 66 (hs 66 (by decide))
  have e67 : f1 67 = f 67 := k 67 (hs 67 (by decide))
  have e68 : f1 68 = f 68 := k 68 (hs 68 (by decide))
  simp only [e66, e67, e68]
  exact h
theorem t_hMp {mt : Int → Int} {ms : Int → Int} {ma : Int → Int} {mn : Int → Int} (k : Fr S f f1) (hs : ∀ x ∈ [69, 70, 71, 72], x ∉ S) (h : (f 69 = iz E 700 mt ∧ f 70 = iz E 700 ms ∧ f 71 = iz E 700 ma ∧ f 72 = iz E 700 mn)) : (f1 69 = iz E 700 mt ∧ f1 70 = iz E 700 ms ∧ f1 71 = iz E 700 ma ∧ f1 72 = iz E 700 mn) := by
  have e69 : f1 69 = f 69 := k 69 (hs 69 (by decide))
  have e70 : f1 70 = f 70 := k 70 (hs 70 (by decide))
  have e71 : f1 71 = f 71 := k 71 (hs 71 (by decide))
  have e72 : f1 72 = f 72 := k 72 (hs 72 (by decide))
  simp only [e69, e70, e71, e72]
  exact h
theorem t_hMx (k : Fr S f f1) (hs : ∀ x ∈ [73, 74, 75, 76, 77, 78, 79, 80, 81, 82, 83, 84], x ∉ S) (h : gMx E f) : gMx E f1 := by
  have e73 : f1 73 = f 73 := k 73 (hs 73 (by decide))
  have e74 : f1 74 = f 74 := k 74 (hs 74 (by decide))
  have e75 : f1 75 = f 75 := k 75 (hs 75 (by decide))
  have e76 : f1 76 = f 76 := k 76 (hs 76 (by decide))
  have e77 : f1 77 = f 77 := k 77 (hs 77 (by decide))
  have e78 : f1 78 = f 78 := k 78 (hs 78 (by decide))
  have e79 : f1 79 = f 79 := k 79 (hs 79 (by decide))
  have e80 : f1 80 = f 80 := k 80 (hs 80 (by decide))
  have e81 : f1 81 = f 81 := k 81 (hs 81 (by decide))
  have e82 : f1 82 = f 82 := k 82 (hs 82 (by decide))
  have e83 : f1 83 = f 83 := k 83 (hs 83 (by decide))
  have e84 : f1 84 = f 84 := k 84 (hs 84 (by decide))
  unfold gMx at h
  unfold gMx
  simp only [e73, e74, e75, e76, e77, e78, e79, e80, e81, e82, e83, e84]
  exact h
end KEEP
/-- the same call of class and model: the same answer, and all holds again -/
def PrI (E : EV) (st : Int → Int) (yc : MethodName) (bc : ByteArray) (lc : Nat) (rc : Option FieldType) (dc : Nat) (ym : MethodName) (bm : ByteArray) (lm : Nat) (dm : Nat) (As : List Value) : Prop := ∀ f, Good E st f → ∃ (x : Int32) (Mid : (Nat → va_E) → Prop), CF yc bc lc rc dc E (.ref (eA E 0) :: As) f (fun r f' => r = some (.int x) ∧ Mid f') ∧ ∀ f', Mid f' → (∃ F, f' 61 = mob F) ∧ CF ym bm lm rc dm E (.ref (eA E 61) :: As) f' (fun r f'' => r = some (.int x) ∧ Good E st f'')
def PrL (E : EV) (st : Int → Int) (yc : MethodName) (bc : ByteArray) (lc : Nat) (dc : Nat) (ym : MethodName) (bm : ByteArray) (lm : Nat) (dm : Nat) (As : List Value) : Prop := ∀ f, Good E st f → ∃ (x : Int64) (Mid : (Nat → va_E) → Prop), CF yc bc lc (some .long) dc E (.ref (eA E 0) :: As) f (fun r f' => r = some (.long x) ∧ Mid f') ∧ ∀ f', Mid f' → (∃ F, f' 61 = mob F) ∧ CF ym bm lm (some .long) dm E (.ref (eA E 61) :: As) f' (fun r f'' => r = some (.long x) ∧ Good E st f'')
theorem szO {sz : Int → Int} {c0 c1 c2 c3 : Int} (h : sz 0 = c0 ∧ sz 1 = c1 ∧ sz 2 = c2 ∧ sz 3 = c3) (hc : (0 ≤ c0 ∧ c0 ≤ 300) ∧ (0 ≤ c1 ∧ c1 ≤ 300) ∧ (0 ≤ c2 ∧ c2 ≤ 700) ∧ 0 ≤ c3 ∧ c3 ≤ 300) : ∀ k, 0 ≤ k → k ≤ 3 → 0 ≤ sz k ∧ sz k ≤ (if k = 2 then 700 else 300) := by
  intro k h1 h2
  rcases (show k = 0 ∨ k = 1 ∨ k = 2 ∨ k = 3 by omega) with q | q | q | q <;> subst q
  · rw [if_neg (by decide)]; omega
  · rw [if_neg (by decide)]; omega
  · rw [if_pos rfl]; omega
  · rw [if_neg (by decide)]; omega
theorem ptL_lo {g : Int → Int} {c i : Int} {v : Int64} (h : i < c) : ∀ k : Nat, ptL g c v k i = g i := by
  intro k
  induction k with
  | zero => rfl
  | succ k ih => exact (if_neg (by omega)).trans ih
theorem ptL_hi {g : Int → Int} {c : Int} {v : Int64} {j : Int} (h : 0 ≤ j) : ∀ k : Nat, j < k → ptL g c v k (c + j) = pbF v j := by
  intro k
  induction k with
  | zero => intro h2; omega
  | succ k ih =>
    intro h2
    by_cases e : j = k
    · subst e; exact if_pos rfl
    · exact (if_neg (by omega)).trans (ih (by omega))
theorem ag_put {b b1 g : Int → Int} {o c n x : Int} {v : Int64} (h : agR b o g c) (hx : x = o + c) (hv : ∀ i, 0 ≤ i → i < n → b1 (x + i) = pbF v i) (he : ∀ y, y < x ∨ x + n ≤ y → b1 y = b y) : agR b1 o (ptL g c v n.toNat) (c + n) := by
  intro i h1 h2
  by_cases q : i < c
  · rw [he _ (by omega), ptL_lo q]; exact h i h1 q
  · have h3 := hv (i - c) (by omega) (by omega)
    rw [show x + (i - c) = o + i by omega] at h3
    have h4 := ptL_hi (g := g) (c := c) (v := v) (j := i - c) (by omega) n.toNat (by omega)
    rw [show c + (i - c) = i by omega] at h4
    rw [h3, h4]
theorem ag_oth {b b1 g : Int → Int} {o c x n : Int} (h : agR b o g c) (hd : o + c ≤ x ∨ x + n ≤ o) (he : ∀ y, y < x ∨ x + n ≤ y → b1 y = b y) : agR b1 o g c := fun i h1 h2 => (he _ (by omega)).trans (h i h1 h2)
theorem ag_set {b g : Int → Int} {o c p v x : Int} (h : agR b o g c) (hx : x = o + p) : agR (uz b x v) o (uz g p v) c := by
  intro i h1 h2
  unfold uz
  by_cases q : i = p
  · rw [if_pos (by omega), if_pos q]
  · rw [if_neg (by omega), if_neg q]; exact h i h1 h2
theorem ag_so {b g : Int → Int} {o c x v : Int} (h : agR b o g c) (hd : x < o ∨ o + c ≤ x) : agR (uz b x v) o g c := fun i h1 h2 => (if_neg (by omega)).trans (h i h1 h2)
theorem ag_cpy {b b1 ga g : Int → Int} {o oa ca : Int} (h : agR b oa ga ca) (hv : ∀ i, 0 ≤ i → i < ca → b1 (o + i) = b (oa + i)) : agR b1 o (cz ga g 0 0 ca) ca := by
  intro i h1 h2
  rw [hv i h1 h2, h i h1 h2]
  unfold cz
  rw [if_pos (by omega)]
  congr 1; omega
theorem ag_0 {b g : Int → Int} {o : Int} : agR b o g 0 := fun i h1 h2 => by omega
