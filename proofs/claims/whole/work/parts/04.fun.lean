/-! worlds as functions of a cell's number: wl E f; and the rules in that form -/
abbrev NC : Nat := 85
def wl (E : EV) (f : Nat → va_E) : va_W := (List.range NC).map fun i => (eA E i, f i)
theorem wl_at {E : EV} {f : Nat → va_E} {i : Nat} (h : i < NC) : (wl E f)[i]? = some (eA E i, f i) := by
  simp [wl, List.getElem?_range, h]
theorem wl_get {E : EV} {f : Nat → va_E} {i : Nat} {e : va_E} (h : i < NC) (he : f i = e) : (wl E f)[i]? = some (eA E i, e) := by
  rw [wl_at h, he]
theorem wl_set {E : EV} {f : Nat → va_E} {i : Nat} (e : va_E) (h : i < NC) : (wl E f).set i (eA E i, e) = wl E (va_up f i e) := by
  apply List.ext_getElem?
  intro j
  by_cases hj : j < NC
  · by_cases hij : i = j
    · subst hij
      rw [List.getElem?_set_self (by simp [wl, h]), wl_at h]
      simp [va_up]
    · rw [List.getElem?_set_ne hij, wl_at hj, wl_at hj]
      have : ¬ j = i := fun q => hij q.symm
      simp [va_up, this]
  · have h1 : ((wl E f).set i (eA E i, e)).length ≤ j := by simp [wl]; omega
    have h2 : (wl E (va_up f i e)).length ≤ j := by simp [wl]; omega
    rw [List.getElem?_eq_none h1, List.getElem?_eq_none h2]
/-- nothing but the cells of S has changed -/
def Fr (S : List Nat) (f f' : Nat → va_E) : Prop := ∀ x, x ∉ S → f' x = f x
theorem Fr.rf {S : List Nat} {f : Nat → va_E} : Fr S f f := fun _ _ => rfl
theorem Fr.tr {S S1 : List Nat} {f f' f'' : Nat → va_E} (h : Fr S f f') (h1 : Fr S1 f' f'') (hs : ∀ x ∈ S1, x ∈ S) : Fr S f f'' := fun x hx => (h1 x (fun q => hx (hs x q))).trans (h x hx)
theorem Fr.up {f : Nat → va_E} {i : Nat} {e : va_E} : Fr [i] f (va_up f i e) := fun x hx => by
  have : ¬ x = i := fun q => hx (by rw [q]; exact List.mem_singleton.mpr rfl)
  simp [va_up, this]
theorem Fr.mono {S S1 : List Nat} {f f' : Nat → va_E} (h : Fr S1 f f') (hs : ∀ x ∈ S1, x ∈ S) : Fr S f f' := fun x hx => h x (fun q => hx (hs x q))
abbrev ob (ci : Nat) (fs : List Value) : va_E := .inr (ci, fs)
abbrev ia (E : EV) (n : Nat) (g : Nat → Int32) : va_E := .inl (eI E, n, .inl g)
abbrev la (E : EV) (n : Nat) (g : Nat → Int64) : va_E := .inl (eJ E, n, .inr (.inl g))
abbrev ra (E : EV) (n : Nat) (g : Nat → Option Nat) : va_E := .inl (eR E, n, .inr (.inr (.inr (.inr g))))
def zf (g : Int → Int) : Nat → Int32 := fun j => zI (g j)
abbrev iz (E : EV) (n : Nat) (g : Int → Int) : va_E := ia E n (zf g)
def uz (g : Int → Int) (i v : Int) : Int → Int := fun j => if j = i then v else g j
def cz (f g : Int → Int) (sp dp n : Int) : Int → Int := fun j => if dp ≤ j ∧ j < dp + n then f (sp + (j - dp)) else g j
theorem zI_cl {x : Int} (h : 0 ≤ x ∧ x < 2147483648) : (zI x).toNatClampNeg = x.toNat := Int32.toNatClampNeg_ofInt_of_le (by omega) (by omega)
theorem zI_in {x : Int} {n : Nat} (h : 0 ≤ x ∧ x < n ∧ n ≤ 1000000) : vp_in (zI x) n := by
  rw [vp_in_iff, zI_t ⟨by omega, by omega⟩]; omega
theorem zf_at {g : Int → Int} {x : Int} (h : 0 ≤ x ∧ x < 2147483648) : zf g (zI x).toNatClampNeg = zI (g x) := by
  rw [zI_cl h]
  show zI (g (x.toNat : Int)) = zI (g x)
  rw [Int.toNat_of_nonneg h.1]
theorem zf_up {g : Int → Int} {x v : Int} (h : 0 ≤ x ∧ x < 2147483648) : upd (zf g) (zI x).toNatClampNeg (zI v) = zf (uz g x v) := by
  funext j
  rw [zI_cl h]
  unfold upd zf uz
  by_cases hj : j = x.toNat
  · have h2 : (j : Int) = x := by omega
    rw [if_pos hj, if_pos h2]
  · have h2 : ¬ (j : Int) = x := by omega
    rw [if_neg hj, if_neg h2]
theorem zf_cz {f g : Int → Int} {sp dp c : Int} (h : 0 ≤ sp ∧ sp < 2147483648 ∧ 0 ≤ dp ∧ dp < 2147483648 ∧ 0 ≤ c ∧ c < 2147483648) : va_cpy (zf f) (zf g) (zI sp).toNatClampNeg (zI dp).toNatClampNeg (zI c).toNatClampNeg = zf (cz f g sp dp c) := by
  rw [zI_cl ⟨h.1, h.2.1⟩, zI_cl ⟨h.2.2.1, h.2.2.2.1⟩, zI_cl h.2.2.2.2]
  funext j
  unfold va_cpy zf cz
  by_cases hj : dp.toNat ≤ j ∧ j < dp.toNat + c.toNat
  · have h2 : dp ≤ (j : Int) ∧ (j : Int) < dp + c := by omega
    have h3 : ((sp.toNat + (j - dp.toNat) : Nat) : Int) = sp + ((j : Int) - dp) := by omega
    simp only [hj, h2, and_self, if_true, h3]
  · have h2 : ¬ (dp ≤ (j : Int) ∧ (j : Int) < dp + c) := by omega
    simp only [hj, h2, if_false]
def mkR (fr lo : Nat) : Room := { frames := fr, cells := 0, slots := 0, locals := lo }
abbrev rl (d : Nat) : Room := { frames := d, cells := 0, slots := 0, locals := 40 * d }
def CF (y : MethodName) (cc : ByteArray) (nL : Nat) (ret : Option FieldType) (d : Nat) (E : EV) (av : List Value) (f : Nat → va_E) (Qf : Option Value → (Nat → va_E) → Prop) : Prop :=
  Ct y cc nL ret (rl d) E av (wl E f) (fun r w' => ∃ f', w' = wl E f' ∧ Qf r f')
def EF (E : EV) (X : XT) (Qf : Option Value → (Nat → va_E) → Prop) : Prop := En E X (fun r w' => ∃ f', w' = wl E f' ∧ Qf r f') 0 0
theorem CF.of {y : MethodName} {cc : ByteArray} {nL : Nat} {ret : Option FieldType} {d : Nat} {E : EV} {av : List Value} {f : Nat → va_E} {Qf : Option Value → (Nat → va_E) → Prop} (hy : plainName y.cls = true) (hl : (lg_sl av).length ≤ nL)
    (h : ∀ X : XT, Ok E X y.cls y.name cc nL ret (rl d) → EF E X Qf → G E X 0 0 0 (lv_args 0 av) [] (wl E f)) : CF y cc nL ret d E av f Qf := Ct.of hy hl h
theorem CF.mono {y : MethodName} {cc : ByteArray} {nL : Nat} {ret : Option FieldType} {d : Nat} {E : EV} {av : List Value} {f : Nat → va_E} {Qf Qg : Option Value → (Nat → va_E) → Prop} (h : CF y cc nL ret d E av f Qf) (hq : ∀ r f', Qf r f' → Qg r f') : CF y cc nL ret d E av f Qg := by
  intro l sz p e ha hc hk s m args below hf h1 h2 h3
  obtain ⟨kk, o, a1, a2, a3, a4, a5⟩ := h l sz p e ha hc hk s m args below hf h1 h2 h3
  obtain ⟨⟨r, w', b1, ⟨f', b2, b3⟩, b4, b5⟩, b6⟩ := a4
  exact ⟨kk, o, a1, a2, a3, ⟨⟨r, w', b1, ⟨f', b2, hq r f' b3⟩, b4, b5⟩, b6⟩, a5⟩
section RF
variable {E : EV} {X : XT} {own nm : String} {cc : ByteArray} {nL : Nat} {ret : Option FieldType} {d pc : Nat} {lv lv' : List (Nat × Value)} {st : List Value} {f : Nat → va_E}
theorem F_get (hX : Ok E X own nm cc nL ret (rl d)) {idx ci j : Nat} (hF : FG own idx ci j) (hd : decode cc pc = .ok (.getfield idx, 3)) (i : Nat) {fs : List Value} {v : Value} (hi : i < NC) (he : f i = ob ci fs) (hv : fs[j]? = some v) (kk : G E X 0 0 (pc + 3) lv (v :: st) (wl E f)) : G E X 0 0 pc lv (.ref (eA E i) :: st) (wl E f) := G_get hX hF hd i (wl_get hi he) hv kk
theorem F_put (hX : Ok E X own nm cc nL ret (rl d)) {idx ci j : Nat} {ty : FieldType} (hF : FG own idx ci j) (hF2 : FP ci j ty) (hd : decode cc pc = .ok (.putfield idx, 3)) (i : Nat) {fs fs' : List Value} {v : Value} (hi : i < NC) (he : f i = ob ci fs) (hn : narrow ty v = v) (hf : fits ty v = true) (hl2 : j < fs.length) (hs : fs.set j v = fs') (kk : ∀ f' : Nat → va_E, f' i = ob ci fs' → Fr [i] f f' → G E X 0 0 (pc + 3) lv st (wl E f')) : G E X 0 0 pc lv (v :: .ref (eA E i) :: st) (wl E f) := by
  refine G_put hX hF hF2 hd i (wl_get hi he) hn hf hl2 ?_
  rw [hs, wl_set _ hi]
  exact kk _ (by simp [va_up]) Fr.up
theorem F_iald (hX : Ok E X own nm cc nL ret (rl d)) (hd : decode cc pc = .ok (.iaload, 1)) (i : Nat) {nn : Nat} {g : Int → Int} {x : Int} (hi : i < NC) (he : f i = iz E nn g) (hb : 0 ≤ x ∧ x < nn ∧ nn ≤ 1000000) (kk : G E X 0 0 (pc + 1) lv (.int (zI (g x)) :: st) (wl E f)) : G E X 0 0 pc lv (.int (zI x) :: .ref (eA E i) :: st) (wl E f) := by
  refine G_iald hX hd i (wl_get hi he) (zI_in hb) ?_
  rw [zf_at ⟨hb.1, by omega⟩]
  exact kk
theorem F_iald_r (hX : Ok E X own nm cc nL ret (rl d)) (hd : decode cc pc = .ok (.iaload, 1)) (i : Nat) {nn : Nat} {g : Nat → Int32} {x : Int} (hi : i < NC) (he : f i = ia E nn g) (hb : 0 ≤ x ∧ x < nn ∧ nn ≤ 1000000) (kk : G E X 0 0 (pc + 1) lv (.int (g x.toNat) :: st) (wl E f)) : G E X 0 0 pc lv (.int (zI x) :: .ref (eA E i) :: st) (wl E f) := by
  refine G_iald hX hd i (wl_get hi he) (zI_in hb) ?_
  rw [zI_cl ⟨hb.1, by omega⟩]
  exact kk
theorem F_lald (hX : Ok E X own nm cc nL ret (rl d)) (hd : decode cc pc = .ok (.laload, 1)) (i : Nat) {nn : Nat} {g : Nat → Int64} {x : Int} (hi : i < NC) (he : f i = la E nn g) (hb : 0 ≤ x ∧ x < nn ∧ nn ≤ 1000000) (kk : G E X 0 0 (pc + 1) lv (.long (g x.toNat) :: st) (wl E f)) : G E X 0 0 pc lv (.int (zI x) :: .ref (eA E i) :: st) (wl E f) := by
  refine G_lald hX hd i (wl_get hi he) (zI_in hb) ?_
  rw [zI_cl ⟨hb.1, by omega⟩]
  exact kk
theorem F_aald (hX : Ok E X own nm cc nL ret (rl d)) (hd : decode cc pc = .ok (.aaload, 1)) (i : Nat) {nn : Nat} {g : Nat → Option Nat} {x : Int} {a : Nat} (hi : i < NC) (he : f i = ra E nn g) (hb : 0 ≤ x ∧ x < nn ∧ nn ≤ 1000000) (ha : g x.toNat = some a) (kk : G E X 0 0 (pc + 1) lv (.ref a :: st) (wl E f)) : G E X 0 0 pc lv (.int (zI x) :: .ref (eA E i) :: st) (wl E f) := by
  refine G_aald hX hd i (wl_get hi he) (zI_in hb) ?_
  rw [zI_cl ⟨hb.1, by omega⟩, ha]
  exact kk
theorem F_iast (hX : Ok E X own nm cc nL ret (rl d)) (hd : decode cc pc = .ok (.iastore, 1)) (i : Nat) {nn : Nat} {g : Int → Int} {x v : Int} (hi : i < NC) (he : f i = iz E nn g) (hb : 0 ≤ x ∧ x < nn ∧ nn ≤ 1000000) (kk : ∀ f' : Nat → va_E, f' i = iz E nn (uz g x v) → Fr [i] f f' → G E X 0 0 (pc + 1) lv st (wl E f')) : G E X 0 0 pc lv (.int (zI v) :: .int (zI x) :: .ref (eA E i) :: st) (wl E f) := by
  refine G_iast hX hd i (wl_get hi he) (zI_in hb) ?_
  rw [zf_up ⟨hb.1, by omega⟩, wl_set _ hi]
  exact kk _ (by simp [va_up]) Fr.up
theorem F_iast_r (hX : Ok E X own nm cc nL ret (rl d)) (hd : decode cc pc = .ok (.iastore, 1)) (i : Nat) {nn : Nat} {g : Nat → Int32} {x : Int} {v : Int32} (hi : i < NC) (he : f i = ia E nn g) (hb : 0 ≤ x ∧ x < nn ∧ nn ≤ 1000000) (kk : ∀ f' : Nat → va_E, f' i = ia E nn (upd g x.toNat v) → Fr [i] f f' → G E X 0 0 (pc + 1) lv st (wl E f')) : G E X 0 0 pc lv (.int v :: .int (zI x) :: .ref (eA E i) :: st) (wl E f) := by
  refine G_iast hX hd i (wl_get hi he) (zI_in hb) ?_
  rw [zI_cl ⟨hb.1, by omega⟩, wl_set _ hi]
  exact kk _ (by simp [va_up]) Fr.up
theorem F_last (hX : Ok E X own nm cc nL ret (rl d)) (hd : decode cc pc = .ok (.lastore, 1)) (i : Nat) {nn : Nat} {g : Nat → Int64} {x : Int} {v : Int64} (hi : i < NC) (he : f i = la E nn g) (hb : 0 ≤ x ∧ x < nn ∧ nn ≤ 1000000) (kk : ∀ f' : Nat → va_E, f' i = la E nn (vp_updL g x.toNat v) → Fr [i] f f' → G E X 0 0 (pc + 1) lv st (wl E f')) : G E X 0 0 pc lv (.long v :: .int (zI x) :: .ref (eA E i) :: st) (wl E f) := by
  refine G_last hX hd i (wl_get hi he) (zI_in hb) ?_
  rw [zI_cl ⟨hb.1, by omega⟩, wl_set _ hi]
  exact kk _ (by simp [va_up]) Fr.up
theorem F_alen (hX : Ok E X own nm cc nL ret (rl d)) (hd : decode cc pc = .ok (.arraylength, 1)) (i : Nat) {nn : Nat} {g : Nat → Int32} (hi : i < NC) (he : f i = ia E nn g) (kk : G E X 0 0 (pc + 1) lv (.int (zI nn) :: st) (wl E f)) : G E X 0 0 pc lv (.ref (eA E i) :: st) (wl E f) := G_alen hX hd i (wl_get hi he) kk
theorem F_acopy (hX : Ok E X own nm cc nL ret (rl d)) {idx : Nat} {sp dp c : Int} {n0 n1 : Nat} {g0 g1 : Int → Int} (hlk : Cond.methodLink own idx arraycopyName ∈ lw_tb) (hn : Cond.native arraycopyName ∈ lw_tb) (hs : Cond.static arraycopyName ∈ lw_tb) (hini : Cond.initialized "java/lang/System" ∈ lw_tb) (hd : decode cc pc = .ok (.invokestatic idx, 3)) (i0 i1 : Nat) (hi0 : i0 < NC) (hi1 : i1 < NC) (he0 : f i0 = iz E n0 g0) (he1 : f i1 = iz E n1 g1)
    (hb : 0 ≤ sp ∧ 0 ≤ dp ∧ 0 ≤ c ∧ sp + c ≤ n0 ∧ dp + c ≤ n1 ∧ n0 ≤ 1000000 ∧ n1 ≤ 1000000) (hf : 1 ≤ d) (hw : (st.map fun v => v.category).sum ≤ 8)
    (kk : ∀ f' : Nat → va_E, f' i1 = iz E n1 (cz g0 g1 sp dp c) → Fr [i1] f f' → G E X 0 0 (pc + 3) lv st (wl E f')) : G E X 0 0 pc lv (.int (zI c) :: .int (zI dp) :: .ref (eA E i1) :: .int (zI sp) :: .ref (eA E i0) :: st) (wl E f) := by
  have nn : ∀ z : Int, 0 ≤ z → z < 2147483648 → ¬ zI z < 0 := by
    intro z h1 h2 h3
    rw [Int32.lt_iff_toInt_lt, zI_t ⟨by omega, h2⟩] at h3
    have : (0 : Int32).toInt = 0 := rfl
    omega
  have hw2 : (st.map fun v => v.category).sum + (nativeFrameWords "java/lang/System" "arraycopy" 5 + 11) ≤ 40 * d := by
    have e : nativeFrameWords "java/lang/System" "arraycopy" 5 = 7 := by decide
    rw [e]; omega
  refine G_acopy hX hlk hn hs hini hd i0 i1 (wl_get hi0 he0) (wl_get hi1 he1) (nn sp (by omega) (by omega)) (nn dp (by omega) (by omega)) (nn c (by omega) (by omega)) (by rw [zI_cl ⟨by omega, by omega⟩, zI_cl ⟨by omega, by omega⟩]; omega) (by rw [zI_cl ⟨by omega, by omega⟩, zI_cl ⟨by omega, by omega⟩]; omega) hf hw2 ?_
  rw [zf_cz ⟨hb.1, by omega, hb.2.1, by omega, hb.2.2.1, by omega⟩, wl_set _ hi1]
  exact kk _ (by simp [va_up]) Fr.up
theorem F_min (hX : Ok E X own nm cc nL ret (rl d)) {idx : Nat} {x y : Int} (hlk : Cond.methodLink own idx Lib.Math.min.name ∈ lw_tb) (hs : Cond.static Lib.Math.min.name ∈ lw_tb) (hi : Cond.initialized "java/lang/Math" ∈ lw_tb) (hc : Cond.code Lib.Math.min.name Lib.Math.min.code 2 (some .int) ∈ lw_tb) (hf : 1 ≤ d) (hw : (st.map fun v => v.category).sum ≤ 8) (hb : -2147483648 ≤ x ∧ x < 2147483648 ∧ -2147483648 ≤ y ∧ y < 2147483648) (hd : decode cc pc = .ok (.invokestatic idx, 3)) (kk : G E X 0 0 (pc + 3) lv (.int (zI (if x ≤ y then x else y)) :: st) (wl E f)) : G E X 0 0 pc lv (.int (zI y) :: .int (zI x) :: st) (wl E f) := by
  refine G_min hX hlk hs hi hc hf (show _ + 13 ≤ 40 * d by omega) (Nat.zero_le _) (Nat.zero_le _) hd ?_
  have e : (if zI y < zI x then zI y else zI x) = zI (if x ≤ y then x else y) := by
    have h := zI_lt (x := y) (y := x) ⟨hb.2.2.1, hb.2.2.2, hb.1, hb.2.1⟩
    by_cases h2 : y < x
    · rw [if_pos (h.mpr h2), if_neg (by omega)]
    · rw [if_neg (fun q => h2 (h.mp q)), if_pos (by omega)]
  rw [e]
  exact kk
theorem F_callV (hX : Ok E X own nm cc nL ret (rl d)) {y : MethodName} {cc' : ByteArray} {nL' n' ci d' idx i : Nat} {ret' : Option FieldType} {Qf : Option Value → (Nat → va_E) → Prop} {As st0 : List Value} {fs : List Value} {r : vw_C}
    (hC : CF y cc' nL' ret' d' E (.ref (eA E i) :: As) f Qf) (hm : CM y cc' nL' ret' n') (him : Cond.instanceMethod y ∈ lw_tb) (hs : Cond.selects r.1 y y ∈ lw_tb) (hc : cls[ci]? = some r) (hlk : Cond.methodLink own idx y ∈ lw_tb) (hd : decode cc pc = .ok (.invokevirtual idx, 3))
    (hi : i < NC) (he : f i = ob ci fs) (hn : As.length = n') (hst : st0 = As.reverse ++ .ref (eA E i) :: st) (hW : (st.map fun v => v.category).sum ≤ 8) (hrm : d' + 1 ≤ d ∧ nL' ≤ 21)
    (kk : ∀ (r : Option Value) (f' : Nat → va_E), Qf r f' → G E X 0 0 (pc + 3) lv (r.toList ++ st) (wl E f')) : G E X 0 0 pc lv st0 (wl E f) := by
  refine G_callV hX hC hm him hs hc hlk hd (wl_get hi he) hn hst hW ⟨hrm.1, show 8 + (nL' + 11) + 40 * d' ≤ 40 * d by omega⟩ ⟨Nat.zero_le _, Nat.zero_le _⟩ ?_
  rintro r w' ⟨f', rfl, hq⟩
  exact kk r f' hq
theorem F_callS (hX : Ok E X own nm cc nL ret (rl d)) {y : MethodName} {cc' : ByteArray} {nL' n' d' idx : Nat} {ret' : Option FieldType} {Qf : Option Value → (Nat → va_E) → Prop} {As st0 : List Value}
    (hC : CF y cc' nL' ret' d' E As f Qf) (hm : CM y cc' nL' ret' n') (hs : Cond.static y ∈ lw_tb) (hlk : Cond.methodLink own idx y ∈ lw_tb) (hd : decode cc pc = .ok (.invokestatic idx, 3))
    (hn : As.length = n') (hst : st0 = As.reverse ++ st) (hW : (st.map fun v => v.category).sum ≤ 8) (hrm : d' + 1 ≤ d ∧ nL' ≤ 21)
    (kk : ∀ (r : Option Value) (f' : Nat → va_E), Qf r f' → G E X 0 0 (pc + 3) lv (r.toList ++ st) (wl E f')) : G E X 0 0 pc lv st0 (wl E f) := by
  refine G_callS hX hC hm hs hlk hd hn hst hW ⟨hrm.1, show 8 + (nL' + 11) + 40 * d' ≤ 40 * d by omega⟩ ⟨Nat.zero_le _, Nat.zero_le _⟩ ?_
  rintro r w' ⟨f', rfl, hq⟩
  exact kk r f' hq
theorem F_callSN (hX : Ok E X own nm cc nL ret (rl d)) {y : MethodName} {host : String} {cc' : ByteArray} {nL' n' d' idx : Nat} {ret' : Option FieldType} {Qf : Option Value → (Nat → va_E) → Prop} {As st0 : List Value}
    (hC : CF y cc' nL' ret' d' E As f Qf) (hm : CM y cc' nL' ret' n') (hs : Cond.static y ∈ lw_tb) (hlk : (own, idx, y, host) ∈ nw_l) (hd : decode cc pc = .ok (.invokestatic idx, 3))
    (hn : As.length = n') (hst : st0 = As.reverse ++ st) (hW : (st.map fun v => v.category).sum ≤ 8) (hrm : d' + 1 ≤ d ∧ nL' ≤ 21)
    (kk : ∀ (r : Option Value) (f' : Nat → va_E), Qf r f' → G E X 0 0 (pc + 3) lv (r.toList ++ st) (wl E f')) : G E X 0 0 pc lv st0 (wl E f) := by
  refine G_callSN hX hC hm hs hlk hd hn hst hW ⟨hrm.1, show 8 + (nL' + 11) + 40 * d' ≤ 40 * d by omega⟩ ⟨Nat.zero_le _, Nat.zero_le _⟩ ?_
  rintro r w' ⟨f', rfl, hq⟩
  exact kk r f' hq
theorem F_iret (hX : Ok E X own nm cc nL (some .int) (rl d)) {Qf : Option Value → (Nat → va_E) → Prop} (hE : EF E X Qf) {x : Int32} (hd : decode cc pc = .ok (.ireturn, 1)) (hq : Qf (some (.int x)) f) : G E X 0 0 pc lv [.int x] (wl E f) := G_iret hX hE hd ⟨f, rfl, hq⟩
theorem F_zret (hX : Ok E X own nm cc nL (some .boolean) (rl d)) {Qf : Option Value → (Nat → va_E) → Prop} (hE : EF E X Qf) {x : Int32} (hn : narrow .boolean (.int x) = .int x) (hd : decode cc pc = .ok (.ireturn, 1)) (hq : Qf (some (.int x)) f) : G E X 0 0 pc lv [.int x] (wl E f) := G_zret hX hE hn hd ⟨f, rfl, hq⟩
theorem F_lret (hX : Ok E X own nm cc nL (some .long) (rl d)) {Qf : Option Value → (Nat → va_E) → Prop} (hE : EF E X Qf) {x : Int64} (hd : decode cc pc = .ok (.lreturn, 1)) (hq : Qf (some (.long x)) f) : G E X 0 0 pc lv [.long x] (wl E f) := G_lret hX hE hd ⟨f, rfl, hq⟩
theorem F_vret (hX : Ok E X own nm cc nL none (rl d)) {Qf : Option Value → (Nat → va_E) → Prop} (hE : EF E X Qf) (hd : decode cc pc = .ok (.return_, 1)) (hq : Qf none f) : G E X 0 0 pc lv [] (wl E f) := G_vret hX hE hd ⟨f, rfl, hq⟩
/-- a number on the stack, told otherwise -/
theorem G_top {x y : Int32} {ws : va_W} (e : x = y) (h : G E X 0 0 pc lv (.int y :: st) ws) : G E X 0 0 pc lv (.int x :: st) ws := by rw [e]; exact h
theorem G_topl {x y : Int64} {ws : va_W} (e : x = y) (h : G E X 0 0 pc lv (.long y :: st) ws) : G E X 0 0 pc lv (.long x :: st) ws := by rw [e]; exact h
theorem G_nam {x : Int32} {ws : va_W} (h : ∀ y : Int32, y = x → G E X 0 0 pc lv (.int y :: st) ws) : G E X 0 0 pc lv (.int x :: st) ws := h x rfl
theorem G_naml {x : Int64} {ws : va_W} (h : ∀ y : Int64, y = x → G E X 0 0 pc lv (.long y :: st) ws) : G E X 0 0 pc lv (.long x :: st) ws := h x rfl
theorem G_namz {x : Int} {ws : va_W} (h : ∀ y : Int, y = x → G E X 0 0 pc lv (.int (zI y) :: st) ws) : G E X 0 0 pc lv (.int (zI x) :: st) ws := h x rfl
end RF
theorem zI_div {x y : Int} (h : 0 ≤ x ∧ x < 2147483648 ∧ 0 < y ∧ y < 2147483648) : zI x / zI y = zI (x / y) := by
  unfold zI
  rw [← Int32.ofInt_tdiv (by have : Int32.minValue.toInt = -2147483648 := rfl
                             omega) (by have : Int32.maxValue.toInt = 2147483647 := rfl
                                        omega) (by have : Int32.minValue.toInt = -2147483648 := rfl
                                                   omega) (by have : Int32.maxValue.toInt = 2147483647 := rfl
                                                              omega), Int.tdiv_eq_ediv_of_nonneg h.1]
theorem zI_ne0 {y : Int} (h : 0 < y ∧ y < 2147483648) : ¬ zI y = 0 := by
  intro e
  have := (zI_eq (x := y) (y := 0) ⟨by omega, h.2, by omega, by omega⟩).mp e
  omega
theorem zI_rem {x y : Int} (h : 0 ≤ x ∧ x < 2147483648 ∧ 0 < y ∧ y < 2147483648) : zI x - zI x / zI y * zI y = zI (x % y) := by
  rw [zI_div h]
  unfold zI
  rw [← Int32.ofInt_mul, ← Int32.ofInt_sub, Int.emod_def, Int.mul_comm]
section RF2
variable {E : EV} {X : XT} {own nm : String} {cc : ByteArray} {nL : Nat} {ret : Option FieldType} {rm : Room} {k n pc : Nat} {lv lv' : List (Nat × Value)} {st : List Value} {ws : va_W}
theorem G_idiv_z (hX : Ok E X own nm cc nL ret rm) {x y : Int} (hb : 0 ≤ x ∧ x < 2147483648 ∧ 0 < y ∧ y < 2147483648) (hd : decode cc pc = .ok (.idiv, 1)) (kk : G E X k n (pc + 1) lv (.int (zI (x / y)) :: st) ws) : G E X k n pc lv (.int (zI y) :: .int (zI x) :: st) ws := by
  refine G_idiv hX (zI_ne0 hb.2.2) hd ?_
  rw [zI_div hb]; exact kk
theorem G_irem_z (hX : Ok E X own nm cc nL ret rm) {x y : Int} (hb : 0 ≤ x ∧ x < 2147483648 ∧ 0 < y ∧ y < 2147483648) (hd : decode cc pc = .ok (.irem, 1)) (kk : G E X k n (pc + 1) lv (.int (zI (x % y)) :: st) ws) : G E X k n pc lv (.int (zI y) :: .int (zI x) :: st) ws := by
  refine G_irem hX (zI_ne0 hb.2.2) hd ?_
  rw [zI_rem hb]; exact kk
end RF2
