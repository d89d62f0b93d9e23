/-! making objects and rows: rules over lists of cells -/
theorem ko_inst : Cond.instanceMethod objectInit ∈ lw_tb := lw_mt tq_1 23 (by decide +kernel) rfl
theorem ko_code : Cond.code objectInit ⟨#[0xb1]⟩ 1 none ∈ lw_tb := lw_mt tq_1 24 rfl rfl
section NEWR
variable {E : EV} {X : XT} {own nm : String} {cc : ByteArray} {nL : Nat} {ret : Option FieldType} {rm : Room} {k n pc : Nat} {lv lv' : List (Nat × Value)} {st : List Value} {ws : va_W}
theorem G_objInit (hX : Ok E X own nm cc nL ret rm) {idx a : Nat} (hlk : Cond.methodLink own idx objectInit ∈ lw_tb) (hd : decode cc pc = .ok (.invokespecial idx, 3)) (hf : 1 ≤ rm.frames) (hw : (st.map fun v => v.category).sum + 12 ≤ rm.locals) (kk : G E X k n (pc + 3) lv st ws) : G E X k n pc lv (.ref a :: st) ws := by
  obtain ⟨p, l, e, R, s, m, args, below, meth, c, A, Q⟩ := X
  obtain ⟨hx, hb, hml, hown, hts, hr, hlo, hR, hK, hN, hT, hA, hnm⟩ := hX
  subst hR
  intro ls H locs hl hP hD hS
  refine W.objInit hx hb hown (hts _ hlk) (hts _ ko_inst) (hts _ ko_code) rfl hl.1 rfl hd hf ?_ ?_
  · show 2 * 0 + (st.map fun v => v.category).sum + 12 ≤ _
    omega
  · exact kk ls H locs hl hP hD hS
theorem G_new (hX : Ok E X own nm cc nL ret rm) {idx ci N : Nat} {C : String} {T : u_T} {ty : Nat → FieldType} (hc : cls[ci]? = some (C, T, N)) (hin : ∀ w ∈ u_ws C T N, w ∈ lw_tb) (hty : ∀ k, k < N → parseFieldDescriptor (T k).2.2.1 = some (ty k)) (hcl : Cond.classLink own idx C ∈ lw_tb) (hi : Cond.instantiable C N ∈ lw_tb) (hini : Cond.initialized C ∈ lw_tb) {fs : List Value} (hfs : ∀ j, j < N → defaultValue (ty j) = vp_V fs j) (hcs : k + 1 ≤ rm.cells ∧ n + N ≤ rm.slots) (hd : decode cc pc = .ok (.new idx, 3)) (kk : ∀ q : Nat, G E X (k + 1) (n + N) (pc + 3) lv (.ref q :: st) (ws ++ [(q, .inr (ci, fs))])) : G E X k n pc lv st ws := by
  obtain ⟨p, l, e, R, s, m, args, below, meth, c, A, Q⟩ := X
  obtain ⟨hx, hb, hml, hown, hts, hr, hlo, hR, hK, hN, hT, hA, hnm⟩ := hX
  subst hR
  intro ls H locs hl hP hD hS
  exact va_new hx hb hts hin ty hty hown (hts _ hcl) (hts _ hi) (hts _ hini) hK hP hD hS hA hc hfs hcs.1 hcs.2 hd (fun q H1 hP1 hD1 hS1 => kk q ls H1 locs hl hP1 hD1 hS1)
theorem G_newI (hX : Ok E X own nm cc nL ret rm) {nv : Int32} {N : Nat} (hn : ¬ nv < 0) (hN : nv.toNatClampNeg = N) (hby : N * 4 ≤ 536870912) (hcs : k + 1 ≤ rm.cells ∧ n + N ≤ rm.slots) (hd : decode cc pc = .ok (.newarray .int, 2)) (kk : ∀ q : Nat, G E X (k + 1) (n + N) (pc + 2) lv (.ref q :: st) (ws ++ [(q, .inl (eI E, N, .inl (fun _ => 0)))])) : G E X k n pc lv (.int nv :: st) ws := by
  obtain ⟨p, l, e, R, s, m, args, below, meth, c, A, Q⟩ := X
  obtain ⟨hx, hb, hml, hown, hts, hr, hlo, hR, hK, hN', hT, hA, hnm⟩ := hX
  subst hR
  intro ls H locs hl hP hD hS
  refine va_newa (atype := .int) hx hb (hts _ ka_int) rfl hK hP hD hS hA (a0 := (N, .inl (fun _ => 0))) (fun cA => rfl) hn hN hby hcs.1 hcs.2 hd (fun q cA H1 hK1 hP1 hD1 hS1 => ?_)
  have e1 : s.vm.findClass ("[" ++ FieldType.int.toString) = some cA := (hK1.2 3 (cA, .int) rfl).2
  have e2 : s.vm.findClass ("[" ++ FieldType.int.toString) = some (eI E) := (hK.2 0 (eI E, .int) rfl).2
  have e3 : cA = eI E := Option.some.inj (e1.symm.trans e2)
  subst e3
  exact kk q ls H1 locs hl hP1 hD1 hS1
theorem G_newJ (hX : Ok E X own nm cc nL ret rm) {nv : Int32} {N : Nat} (hn : ¬ nv < 0) (hN : nv.toNatClampNeg = N) (hby : N * 8 ≤ 536870912) (hcs : k + 1 ≤ rm.cells ∧ n + N ≤ rm.slots) (hd : decode cc pc = .ok (.newarray .long, 2)) (kk : ∀ q : Nat, G E X (k + 1) (n + N) (pc + 2) lv (.ref q :: st) (ws ++ [(q, .inl (eJ E, N, .inr (.inl (fun _ => 0))))])) : G E X k n pc lv (.int nv :: st) ws := by
  obtain ⟨p, l, e, R, s, m, args, below, meth, c, A, Q⟩ := X
  obtain ⟨hx, hb, hml, hown, hts, hr, hlo, hR, hK, hN', hT, hA, hnm⟩ := hX
  subst hR
  intro ls H locs hl hP hD hS
  refine va_newa (atype := .long) hx hb (hts _ ka_long) rfl hK hP hD hS hA (a0 := (N, .inr (.inl (fun _ => 0)))) (fun cA => rfl) hn hN hby hcs.1 hcs.2 hd (fun q cA H1 hK1 hP1 hD1 hS1 => ?_)
  have e1 : s.vm.findClass ("[" ++ FieldType.long.toString) = some cA := (hK1.2 3 (cA, .long) rfl).2
  have e2 : s.vm.findClass ("[" ++ FieldType.long.toString) = some (eJ E) := (hK.2 1 (eJ E, .long) rfl).2
  have e3 : cA = eJ E := Option.some.inj (e1.symm.trans e2)
  subst e3
  exact kk q ls H1 locs hl hP1 hD1 hS1
/-- a final field, in its constructor -/
def FPF (own : String) (ci j : Nat) (ty : FieldType) : Prop := ∃ (C : String) (T : u_T) (N : Nat) (ty0 : Nat → FieldType), cls[ci]? = some (C, T, N) ∧ (∀ k, k < N → parseFieldDescriptor (T k).2.2.1 = some (ty0 k)) ∧ (∀ a, a < N → ∀ b, b < N → a ≠ b → (T a).2.1 ≠ (T b).2.1) ∧ (T j).2.2.2 = true ∧ parseFieldDescriptor (T j).2.2.1 = some ty ∧ C = own
theorem G_putF (hX : Ok E X own "<init>" cc nL ret rm) {idx ci j a : Nat} {ty : FieldType} (hF : FG own idx ci j) (hF2 : FPF own ci j ty) (hd : decode cc pc = .ok (.putfield idx, 3)) (q0 : Nat) {fs : List Value} {v : Value} (he : ws[q0]? = some (a, .inr (ci, fs))) (hn : narrow ty v = v) (hf : fits ty v = true) (hl2 : j < fs.length) (kk : G E X k n (pc + 3) lv st (ws.set q0 (a, .inr (ci, fs.set j v)))) : G E X k n pc lv (v :: .ref a :: st) ws := by
  obtain ⟨p, l, e, R, s, m, args, below, meth, c, A, Q⟩ := X
  obtain ⟨hx, hb, hml, hown, hts, hr, hlo, hR, hK, hN, hT, hA, hnm⟩ := hX
  obtain ⟨C, T, N, hc, hin, hj, hTj, hlk⟩ := hF
  obtain ⟨C', T', N', ty0, hc', hty, hnm2, hfin, hpd, hC⟩ := hF2
  cases hc.symm.trans hc'
  intro ls H locs hl hP hD hS
  exact va_putF hx hb hts hin ty0 hty hnm2 hown hK hP hD hS q0 he hc j hj (hts _ hlk) (fun _ h => by rw [hTj] at h; exact h) hfin hnm (hTj.trans hC) hpd hn hf hl2 hd (fun H1 locs1 hP1 hD1 hS1 => kk ls H1 locs1 hl hP1 hD1 hS1)
/-- a constructor of a nest mate, called -/
theorem G_callIN (hX : Ok E X own nm cc nL ret rm) {y : MethodName} {host : String} {cc' : ByteArray} {nL' n' idx b : Nat} {rm' : Room} {Qp : Option Value → va_W → Prop} {As st0 : List Value}
    (hC : Ct y cc' nL' none rm' E (.ref b :: As) ws Qp) (hm : CM y cc' nL' none n') (hi : Cond.instanceMethod y ∈ lw_tb) (hnm1 : y.name = "<init>") (hlk : (own, idx, y, host) ∈ nw_l) (hd : decode cc pc = .ok (.invokespecial idx, 3))
    (hn : As.length = n') (hst : st0 = As.reverse ++ .ref b :: st) (hW : (st.map fun v => v.category).sum ≤ 8) (hrm : rm'.frames + 1 ≤ rm.frames ∧ 8 + (nL' + 11) + rm'.locals ≤ rm.locals) (hcs : k + rm'.cells ≤ rm.cells ∧ n + rm'.slots ≤ rm.slots)
    (kk : ∀ (r : Option Value) (w' : va_W), Qp r w' → G E X (k + rm'.cells) (n + rm'.slots) (pc + 3) lv (r.toList ++ st) w') : G E X k n pc lv st0 ws := by
  obtain ⟨p, l, e, R, s, m, args, below, meth, c, A, Q⟩ := X
  obtain ⟨hx, hb, hml, hown, hts, hr, hlo, hR, hK, hN, hT, hA, hnm⟩ := hX
  subst hR
  subst hst
  intro ls H locs hl hP hD hS
  have hrun := va_runIN (g := F0 m pc ls (As.reverse ++ .ref b :: st)) (As := As) (rest := st) (b := b) ⟨hx, hb, hml, hown, hts⟩ (hC l H.size) ⟨va_cnB n' hts (lw_gt hm.2.2.2.2) rfl rfl rfl (hN _ hlk) (hts _ hm.2.2.2.1) ⟨hm.1, hm.2.1, hm.2.2.1⟩ hrm, hnm1, hts _ hi⟩
    ⟨pq_blind, fun U hU hW => pq_at hK hN hT hP hD hS hA hU hW⟩ rfl hn (by rw [← hml]; exact hl.1) rfl (lv_room hW) hd hcs (locs := locs) (e := e) (below := below) (meth := meth)
  exact g_call hrun hl hD hS hA kk
/-- a constructor, called -/
theorem G_callI (hX : Ok E X own nm cc nL ret rm) {y : MethodName} {cc' : ByteArray} {nL' n' idx b : Nat} {rm' : Room} {Qp : Option Value → va_W → Prop} {As st0 : List Value}
    (hC : Ct y cc' nL' none rm' E (.ref b :: As) ws Qp) (hm : CM y cc' nL' none n') (hi : Cond.instanceMethod y ∈ lw_tb) (hnm1 : y.name = "<init>") (hlk : Cond.methodLink own idx y ∈ lw_tb) (hd : decode cc pc = .ok (.invokespecial idx, 3))
    (hn : As.length = n') (hst : st0 = As.reverse ++ .ref b :: st) (hW : (st.map fun v => v.category).sum ≤ 8) (hrm : rm'.frames + 1 ≤ rm.frames ∧ 8 + (nL' + 11) + rm'.locals ≤ rm.locals) (hcs : k + rm'.cells ≤ rm.cells ∧ n + rm'.slots ≤ rm.slots)
    (kk : ∀ (r : Option Value) (w' : va_W), Qp r w' → G E X (k + rm'.cells) (n + rm'.slots) (pc + 3) lv (r.toList ++ st) w') : G E X k n pc lv st0 ws := by
  obtain ⟨p, l, e, R, s, m, args, below, meth, c, A, Q⟩ := X
  obtain ⟨hx, hb, hml, hown, hts, hr, hlo, hR, hK, hN, hT, hA, hnm⟩ := hX
  subst hR
  subst hst
  intro ls H locs hl hP hD hS
  have hrun := va_runI (g := F0 m pc ls (As.reverse ++ .ref b :: st)) (As := As) (rest := st) (b := b) ⟨hx, hb, hml, hown, hts⟩ (hC l H.size) ⟨callB_of n' hts (lw_gt hm.2.2.2.2) rfl rfl rfl (hts _ hm.2.2.2.1) (hts _ hlk) ⟨hm.1, hm.2.1, hm.2.2.1⟩ hrm, hnm1, hts _ hi⟩
    ⟨pq_blind, fun U hU hW => pq_at hK hN hT hP hD hS hA hU hW⟩ rfl hn (by rw [← hml]; exact hl.1) rfl (lv_room hW) hd hcs (locs := locs) (e := e) (below := below) (meth := meth)
  exact g_call hrun hl hD hS hA kk
theorem G_aast (hX : Ok E X own nm cc nL ret rm) {a nn v q0 qk : Nat} {vs : List Value} {f : Nat → Option Nat} {i : Int32} (hd : decode cc pc = .ok (.aastore, 1)) (ha : ws[q0]? = some (a, .inl (eR E, nn, .inr (.inr (.inr (.inr f)))))) (hv : ws[qk]? = some (v, .inr (6, vs))) (hi : vp_in i nn) (kk : G E X k n (pc + 1) lv st (ws.set q0 (a, .inl (eR E, nn, .inr (.inr (.inr (.inr (va_up f i.toNatClampNeg (some v))))))))) : G E X k n pc lv (.ref v :: .int i :: .ref a :: st) ws := by
  obtain ⟨p, l, e, R, s, m, args, below, meth, c, A, Q⟩ := X
  obtain ⟨hx, hb, hml, hown, hts, hr, hlo, hR, hK, hN, hT, hA, hnm⟩ := hX
  intro ls H locs hl hP hD hS
  exact va_astq hx hb hK hP hD hS q0 2 qk 6 ha (r := (Rn_Ro, Tn_Ro, 2)) rfl hv rfl hi hd (fun H1 locs1 hP1 hD1 hS1 => kk ls H1 locs1 hl hP1 hD1 hS1)
/-- the words that Row[] can be made -/
def AOX (X : XT) : Prop := va_AO "DeltaFerry$Row" X.2.2.2.2.1
theorem G_anew (hX : Ok E X own nm cc nL ret rm) (hao : AOX X) {idx : Nat} {nv : Int32} {N : Nat} (hcl : Cond.classLink own idx "DeltaFerry$Row" ∈ lw_tb) (hn : ¬ nv < 0) (hN : nv.toNatClampNeg = N) (hby : N * 4 ≤ 536870912) (hcs : k + 1 ≤ rm.cells ∧ n + N ≤ rm.slots) (hd : decode cc pc = .ok (.anewarray idx, 3)) (kk : ∀ q : Nat, G E X (k + 1) (n + N) (pc + 3) lv (.ref q :: st) (ws ++ [(q, .inl (eR E, N, .inr (.inr (.inr (.inr (fun _ => none))))))])) : G E X k n pc lv (.int nv :: st) ws := by
  obtain ⟨p, l, e, R, s, m, args, below, meth, c, A, Q⟩ := X
  obtain ⟨hx, hb, hml, hown, hts, hr, hlo, hR, hK, hN', hT, hA, hnm⟩ := hX
  subst hR
  intro ls H locs hl hP hD hS
  refine va_newq hx hb hown (hts _ hcl) hao hK hP hD hS hA hn hN hby hcs.1 hcs.2 hd (fun q cA H1 hK1 hP1 hD1 hS1 => ?_)
  obtain ⟨_, _, _, _, _, e1⟩ := (hK1.2 3 (cA, .object "DeltaFerry$Row") rfl).2
  obtain ⟨_, _, _, _, _, e2⟩ := (hK.2 2 (eR E, .object "DeltaFerry$Row") rfl).2
  have e3 : cA = eR E := Option.some.inj (e1.symm.trans e2)
  subst e3
  exact kk q ls H1 locs hl hP1 hD1 hS1
end NEWR
/-! cells behind others -/
theorem ap_at {ws0 L : va_W} {j : Nat} {x : Nat × va_E} (h : L[j]? = some x) : (ws0 ++ L)[ws0.length + j]? = some x := by
  rw [List.getElem?_append_right (by omega), show ws0.length + j - ws0.length = j by omega]; exact h
theorem ap_set {ws0 L : va_W} {j : Nat} {x : Nat × va_E} : (ws0 ++ L).set (ws0.length + j) x = ws0 ++ L.set j x := by
  rw [List.set_append_right _ _ (by omega), show ws0.length + j - ws0.length = j by omega]
