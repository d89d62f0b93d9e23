/-! rows as lists of numbers -/
def rep (g : Int → Int) (c : Int) (L : List Int) : Prop := c = L.length ∧ ∀ k : Nat, k < L.length → g k = L.getD k 0
def lst (b : Int → Int) (n : Nat) : List Int := (List.range n).map (fun k : Nat => b (k : Int))
theorem lst_len (b : Int → Int) (n : Nat) : (lst b n).length = n := by simp [lst]
theorem lst_at {b : Int → Int} {n k : Nat} (h : k < n) : (lst b n).getD k 0 = b k := by
  simp [lst, List.getD_eq_getElem?_getD, List.getElem?_range, h]
/-- n numbers of g from p on -/
def sl (g : Int → Int) (p : Int) (n : Nat) : List Int := lst (fun k => g (p + k)) n
theorem sl_len (g : Int → Int) (p : Int) (n : Nat) : (sl g p n).length = n := lst_len _ _
def nbL (v : Int) : List Int := lst (nby v) (wid v).toNat
theorem getD_app {L M : List Int} {k : Nat} : (L ++ M).getD k 0 = if k < L.length then L.getD k 0 else M.getD (k - L.length) 0 := by
  by_cases h : k < L.length
  · rw [if_pos h]
    simp [List.getD_eq_getElem?_getD, List.getElem?_append_left h]
  · rw [if_neg h]
    simp [List.getD_eq_getElem?_getD, List.getElem?_append_right (show L.length ≤ k by omega)]
theorem rep_pz {g : Int → Int} {c : Int} {L : List Int} {b : Int → Int} {w : Int} (h : rep g c L) (hw : 0 ≤ w) : rep (pz g c b w) (c + w) (L ++ lst b w.toNat) := by
  obtain ⟨h1, h2⟩ := h
  refine ⟨by rw [List.length_append, lst_len]; omega, fun k hk => ?_⟩
  rw [List.length_append, lst_len] at hk
  rw [getD_app]
  unfold pz
  by_cases hk2 : k < L.length
  · rw [if_pos hk2, if_neg (by omega)]
    exact h2 k hk2
  · rw [if_neg hk2, if_pos (by omega), lst_at (by omega)]
    congr 1
    omega
theorem rep_uz {g : Int → Int} {c v : Int} {L : List Int} (h : rep g c L) : rep (uz g c v) (c + 1) (L ++ [v]) := by
  have := rep_pz (b := fun _ => v) (w := 1) h (by omega)
  rw [uz_pz]
  have e : lst (fun _ => v) (1 : Int).toNat = [v] := rfl
  rw [e] at this
  exact this
theorem rep_cz {g0 g : Int → Int} {c p m : Int} {L : List Int} (h : rep g c L) (hm : 0 ≤ m) : rep (cz g0 g p c m) (c + m) (L ++ sl g0 p m.toNat) := by
  have := rep_pz (b := fun k => g0 (p + k)) (w := m) h hm
  exact this
theorem rep_0 (g : Int → Int) : rep g 0 [] := ⟨rfl, fun k hk => by simp at hk⟩
theorem rep_nb {g : Int → Int} {c v : Int} {L : List Int} (h : rep g c L) : rep (pz g c (nby v) (wid v)) (c + wid v) (L ++ nbL v) := rep_pz h (by have := wid_b v; omega)
theorem nbL_len (v : Int) : ((nbL v).length : Int) = wid v := by
  rw [nbL, lst_len]
  have := wid_b v
  omega
theorem rep_len {g : Int → Int} {c : Int} {L : List Int} (h : rep g c L) : (L.length : Int) = c := h.1.symm
theorem rep_sl {g : Int → Int} {c : Int} {L : List Int} (h : rep g c L) : sl g 0 c.toNat = L := by
  obtain ⟨h1, h2⟩ := h
  apply List.ext_getElem
  · rw [sl_len]; omega
  · intro k hk1 hk2
    have h3 := h2 k hk2
    have h4 := lst_at (b := fun k => g (0 + k)) (n := c.toNat) (k := k) (by omega)
    rw [List.getD_eq_getElem?_getD] at h3 h4
    rw [List.getElem?_eq_getElem hk2] at h3
    have h5 : k < (lst (fun k => g (0 + k)) c.toNat).length := by rw [lst_len]; omega
    rw [List.getElem?_eq_getElem h5] at h4
    simp only [Option.getD_some] at h3 h4
    show (lst (fun k => g (0 + k)) c.toNat)[k] = L[k]
    rw [h4, ← h3]
    simp

/-- where instruction i begins -/
def psm (P : PS) : Nat → Int
  | 0 => 0
  | k + 1 => psm P k + pS P k
def psI (P : PS) (i : Int) : Int := psm P i.toNat
theorem psI_s {P : PS} {i : Int} (h : 0 ≤ i) : psI P (i + 1) = psI P i + pS P i := by
  unfold psI
  rw [show (i + 1).toNat = i.toNat + 1 by omega]
  show psm P i.toNat + pS P (i.toNat : Int) = _
  rw [Int.toNat_of_nonneg h]
/-- the instructions a .. b - 1 make bytes from x on, at most 256, within c -/
def wnOK (P : PS) (a b x c : Int) : Prop := (0 ≤ a ∧ a ≤ b ∧ b ≤ 300) ∧ (x = psI P a ∧ 0 ≤ x ∧ x ≤ c ∧ c ≤ 300) ∧ ∀ i, a ≤ i → i < b → 1 ≤ pS P i ∧ psI P (i + 1) ≤ x + 256 ∧ psI P (i + 1) ≤ c ∧ (1 ≤ pT P i ∧ pT P i ≤ 3) ∧ (pT P i = 3 → 0 ≤ pA P i ∧ pA P i ≤ 700)
theorem wnOK_ge {P : PS} {a b x c : Int} (h : wnOK P a b x c) : ∀ (k : Nat), a + k ≤ b → x + k ≤ psI P (a + k) := by
  intro k
  induction k with
  | zero => intro _; have := h.2.1.1; simp only [Int.natCast_zero, Int.add_zero]; omega
  | succ k ih =>
    intro hk
    have h0 := h.1
    have h1 := ih (by omega)
    have h2 := h.2.2 (a + k) (by omega) (by omega)
    have h3 := psI_s (P := P) (i := a + k) (by omega)
    rw [show a + ((k + 1 : Nat) : Int) = a + (k : Int) + 1 by omega]
    omega
theorem wnOK_gi {P : PS} {a b x c i : Int} (h : wnOK P a b x c) (h1 : a ≤ i) (h2 : i ≤ b) : x + (i - a) ≤ psI P i := by
  have := wnOK_ge h (i - a).toNat (by omega)
  rw [show a + ((i - a).toNat : Int) = i by omega] at this
  omega
def gdI (P : PS) (g : Int → Int) (i pl : Int) : List Int := if pT P i = 1 then sl g pl (pS P i).toNat else if pT P i = 2 then [g pl] else []
def gdL (P : PS) (g : Int → Int) : Nat → Int → List Int
  | 0, _ => []
  | k + 1, i => gdI P g i (psI P i) ++ gdL P g k (i + 1)
theorem gdL_s {P : PS} {g : Int → Int} {b i : Int} (h : i < b) : gdL P g (b - i).toNat i = gdI P g i (psI P i) ++ gdL P g (b - (i + 1)).toNat (i + 1) := by
  rw [show (b - i).toNat = (b - (i + 1)).toNat + 1 by omega]; rfl
theorem gdL_e {P : PS} {g : Int → Int} {b i : Int} (h : b ≤ i) : gdL P g (b - i).toNat i = [] := by
  rw [show (b - i).toNat = 0 by omega]; rfl
def c2F (P : PS) (md : Int → Int) (i : Int) : Int := if pT P i = 1 ∧ pT P (i + 1) = 3 ∧ pS P i ≤ 4 then (if md (i + 1) ≤ 5 ∧ 4 ≤ pS P (i + 1) ∧ pS P (i + 1) ≤ 6 then 163 + 12 * md (i + 1) + 3 * (pS P i - 1) + pS P (i + 1) - 4 else if 6 ≤ md (i + 1) ∧ pS P (i + 1) = 4 then 235 + 4 * (md (i + 1) - 6) + pS P i - 1 else -1) else if pT P i = 3 ∧ pS P i = 4 ∧ pT P (i + 1) = 1 ∧ pS P (i + 1) = 1 then 247 + md i else -1
def c1L (t n m : Int) : List Int := if t = 1 ∧ n ≤ 17 then [1 + n] else if t = 3 ∧ 4 ≤ n ∧ n ≤ 18 then [19 + 16 * m + n - 3] else [if t = 2 then 0 else if t = 1 then 1 else 19 + 16 * m] ++ nbL n
def cdL (P : PS) (md : Int → Int) (b : Int) : Nat → Int → List Int
  | 0, _ => []
  | k + 1, i => if i < b then (if i + 1 < b ∧ 0 ≤ c2F P md i then [c2F P md i] ++ cdL P md b k (i + 2) else c1L (pT P i) (pS P i) (md i) ++ cdL P md b k (i + 1)) else []
/-- the rows of addresses while the instructions from a on are told: near, same, turn -/
abbrev AR : Type := (Int → Int) × (Int → Int) × Int
def ar0 : AR := (fun _ => 0, fun _ => 0, 0)
def arN (R : AR) (ad : Int) : AR := (rmN R.1 4 R.2.2 ad, rmS R.2.1 3 ad, rmT 4 R.2.2)
def arS (P : PS) (a : Int) : Nat → AR
  | 0 => ar0
  | k + 1 => if pT P (a + k) = 3 then arN (arS P a k) (pA P (a + k)) else arS P a k
def arI (P : PS) (a i : Int) : AR := arS P a (i - a).toNat
theorem arI_s {P : PS} {a i : Int} (h : a ≤ i) : arI P a (i + 1) = if pT P i = 3 then arN (arI P a i) (pA P i) else arI P a i := by
  unfold arI
  rw [show (i + 1 - a).toNat = (i - a).toNat + 1 by omega]
  show (if pT P (a + ((i - a).toNat : Int)) = 3 then _ else _) = _
  rw [show a + ((i - a).toNat : Int) = i by omega]
/-- by which mode instruction i is told -/
def mdI (P : PS) (a so i : Int) : Int := mdF (arI P a i).1 (arI P a i).2.1 4 3 (pA P i) (so + psI P i - psI P a)
def adI (P : PS) (a so i : Int) : List Int := if pT P i = 3 then lst (tlB (arI P a i).1 (arI P a i).2.1 4 3 (pA P i) (so + psI P i - psI P a)) (tlW (arI P a i).1 (arI P a i).2.1 4 3 (pA P i) (so + psI P i - psI P a)).toNat else []
def adL (P : PS) (a so : Int) : Nat → Int → List Int
  | 0, _ => []
  | k + 1, i => adI P a so i ++ adL P a so k (i + 1)
theorem adL_s {P : PS} {a so b i : Int} (h : i < b) : adL P a so (b - i).toNat i = adI P a so i ++ adL P a so (b - (i + 1)).toNat (i + 1) := by
  rw [show (b - i).toNat = (b - (i + 1)).toNat + 1 by omega]; rfl
theorem adL_e {P : PS} {a so b i : Int} (h : b ≤ i) : adL P a so (b - i).toNat i = [] := by
  rw [show (b - i).toNat = 0 by omega]; rfl
