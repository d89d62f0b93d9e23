/-! a row told otherwise beyond its end: the same cell -/
theorem arrV_congr {cA : ClassId} {n : Nat} {f g : Nat → Value} (h : ∀ k, k < n → f k = g k) : arrV cA n f = arrV cA n g := by
  unfold arrV
  have : (Array.ofFn (n := n) fun j => f j.val) = (Array.ofFn (n := n) fun j => g j.val) := by
    congr 1
    funext j
    exact h j.val j.isLt
  rw [this]
section NRM
variable {E : EV} {X : XT} {k0 n0 pc : Nat} {lv : List (Nat × Value)} {st : List Value} {f : Nat → va_E}
theorem F_nrm (i : Nat) {n : Nat} {g : Nat → Int32} (g' : Nat → Int32) (hi : i < NC) (he : f i = ia E n g) (hg : ∀ k, k < n → g k = g' k) (kk : ∀ f' : Nat → va_E, f' i = ia E n g' → Fr [i] f f' → G E X k0 n0 pc lv st (wl E f')) : G E X k0 n0 pc lv st (wl E f) := by
  obtain ⟨p, l, e, R, s, m, args, below, meth, c, A, Q⟩ := X
  intro ls H locs hl hP hD hS
  have h1 : va_P E.1 cls (wl E (va_up f i (ia E n g'))) H := by
    rw [← wl_set _ hi]
    refine hP.set hD (wl_get hi he) ?_ (fun _ _ => rfl)
    have h2 : H[eA E i]? = some (vp_cell (eI E) (n, .inl g)) := hP i _ (wl_get hi he)
    show H[eA E i]? = some (vp_cell (eI E) (n, .inl g'))
    rw [h2, vp_cell_i, vp_cell_i, arrV_congr (fun k hk => by rw [hg k hk])]
  have h3 : va_D A (wl E (va_up f i (ia E n g'))) := by
    rw [← wl_set _ hi]
    exact hD.set (wl_get hi he)
  exact kk _ (by simp [va_up]) Fr.up ls H locs hl h1 h3 hS
theorem F_nrml (i : Nat) {n : Nat} {g : Nat → Int64} (g' : Nat → Int64) (hi : i < NC) (he : f i = la E n g) (hg : ∀ k, k < n → g k = g' k) (kk : ∀ f' : Nat → va_E, f' i = la E n g' → Fr [i] f f' → G E X k0 n0 pc lv st (wl E f')) : G E X k0 n0 pc lv st (wl E f) := by
  obtain ⟨p, l, e, R, s, m, args, below, meth, c, A, Q⟩ := X
  intro ls H locs hl hP hD hS
  have h1 : va_P E.1 cls (wl E (va_up f i (la E n g'))) H := by
    rw [← wl_set _ hi]
    refine hP.set hD (wl_get hi he) ?_ (fun _ _ => rfl)
    have h2 : H[eA E i]? = some (vp_cell (eJ E) (n, .inr (.inl g))) := hP i _ (wl_get hi he)
    show H[eA E i]? = some (vp_cell (eJ E) (n, .inr (.inl g')))
    rw [h2, vp_cell_l, vp_cell_l, arrV_congr (fun k hk => by rw [hg k hk])]
  have h3 : va_D A (wl E (va_up f i (la E n g'))) := by
    rw [← wl_set _ hi]
    exact hD.set (wl_get hi he)
  exact kk _ (by simp [va_up]) Fr.up ls H locs hl h1 h3 hS
theorem F_nrmz (i : Nat) {n : Nat} {g : Int → Int} (g' : Int → Int) (hi : i < NC) (he : f i = iz E n g) (hg : ∀ k : Int, 0 ≤ k → k < n → g k = g' k) (kk : ∀ f' : Nat → va_E, f' i = iz E n g' → Fr [i] f f' → G E X k0 n0 pc lv st (wl E f')) : G E X k0 n0 pc lv st (wl E f) :=
  F_nrm i (zf g') hi he (fun k hk => by show zI (g k) = zI (g' k); rw [hg k (by omega) (by omega)]) kk
end NRM
