/-! the judgement G: from the abstract state (pc, locals, stack, cells) the machine comes to Q -/
def zI (z : Int) : Int32 := Int32.ofInt z
def zL (z : Int) : Int64 := Int64.ofInt z
abbrev EV : Type := va_G × (ClassId × ClassId × ClassId) × (Nat → Nat) × (Nat × Nat)
def eI (E : EV) : ClassId := E.2.1.1
def eJ (E : EV) : ClassId := E.2.1.2.1
def eR (E : EV) : ClassId := E.2.1.2.2
def eA (E : EV) (i : Nat) : Nat := E.2.2.1 i
def eK (E : EV) : Nat := E.2.2.2.1
def eT (E : EV) : Nat := E.2.2.2.2
def eTy (E : EV) : List (ClassId × FieldType) := [(eI E, .int), (eJ E, .long), (eR E, .object "DeltaFerry$Row")]
def kt_K : List Int32 := [-680876936, -389564586, 606105819, -1044525330, -176418897, 1200080426, -1473231341, -45705983, 1770035416, -1958414417, -42063, -1990404162, 1804603682, -40341101, -1502002290, 1236535329, -165796510, -1069501632, 643717713, -373897302, -701558691, 38016083, -660478335, -405537848, 568446438, -1019803690, -187363961, 1163531501, -1444681467, -51403784, 1735328473, -1926607734, -378558, -2022574463, 1839030562, -35309556, -1530992060, 1272893353, -155497632, -1094730640, 681279174, -358537222, -722521979, 76029189, -640364487, -421815835, 530742520, -995338651, -198630844, 1126891415, -1416354905, -57434055, 1700485571, -1894986606, -1051523, -2054922799, 1873313359, -30611744, -1560198380, 1309151649, -145523070, -1120210379, 718787259, -343485551]
def kt_T : List Int32 := [7, 12, 17, 22, 5, 9, 14, 20, 4, 11, 16, 23, 6, 10, 15, 21]
def nw_l : List (String × Nat × MethodName × String) := [("DeltaFerry", 17, ⟨"DeltaFerry$Digester", "<init>", "()V"⟩, "DeltaFerry"), ("DeltaFerry", 24, ⟨"DeltaFerry$WeakSum", "<init>", "()V"⟩, "DeltaFerry"), ("DeltaFerry", 31, ⟨"DeltaFerry$Signature", "<init>", "()V"⟩, "DeltaFerry"), ("DeltaFerry$Signature", 11, ⟨"DeltaFerry$Digester", "<init>", "()V"⟩, "DeltaFerry"), ("DeltaFerry$Signature", 30, ⟨"DeltaFerry$WeakSum", "<init>", "()V"⟩, "DeltaFerry"), ("DeltaFerry", 38, ⟨"DeltaFerry$Plan", "<init>", "()V"⟩, "DeltaFerry"), ("DeltaFerry", 45, ⟨"DeltaFerry$Matcher", "<init>", "()V"⟩, "DeltaFerry"), ("DeltaFerry", 52, ⟨"DeltaFerry$Writer", "<init>", "()V"⟩, "DeltaFerry"), ("DeltaFerry$Writer", 38, ⟨"DeltaFerry$AddressRows", "<init>", "()V"⟩, "DeltaFerry"), ("DeltaFerry", 59, ⟨"DeltaFerry$Reader", "<init>", "()V"⟩, "DeltaFerry"), ("DeltaFerry$Reader", 32, ⟨"DeltaFerry$Cursor", "<init>", "()V"⟩, "DeltaFerry"), ("DeltaFerry$Reader", 42, ⟨"DeltaFerry$WindowReader", "<init>", "()V"⟩, "DeltaFerry"), ("DeltaFerry$WindowReader", 11, ⟨"DeltaFerry$Cursor", "<init>", "()V"⟩, "DeltaFerry"), ("DeltaFerry$WindowReader", 29, ⟨"DeltaFerry$AddressRows", "<init>", "()V"⟩, "DeltaFerry"), ("DeltaFerry$Writer", 82, ⟨"DeltaFerry", "checkOf", "([III)J"⟩, "DeltaFerry"), ("DeltaFerry$WindowReader", 124, ⟨"DeltaFerry", "checkOf", "([III)J"⟩, "DeltaFerry")]
def NW (U : State) : Prop := ∀ q ∈ nw_l, va_Nw (.methodLinkNest q.1 q.2.1 q.2.2.1 q.2.2.2) U
theorem NW.warm {s U : State} (hW : s.WarmedH U.vm) (h : NW s) : NW U := fun q hq => va_Nw.warmM hW (h q hq)
theorem NW.same {s U : State} (e : s.vm = U.vm) (h : NW s) : NW U := fun q hq => va_Nw.same rfl e (h q hq)
def ST (E : EV) (A : Nat → Prop) (U : State) (H : Heap) : Prop := va_Z "DeltaFerry$Digester" "K" "[I" (.ref (eK E)) A U H ∧ va_T .int (eK E) 64 (fun j => .int (kt_K.getD j 0)) A U H ∧ va_Z "DeltaFerry$Digester" "TURNS" "[I" (.ref (eT E)) A U H ∧ va_T .int (eT E) 16 (fun j => .int (kt_T.getD j 0)) A U H
theorem ST.moved {E : EV} {A : Nat → Prop} {u U : State} {H : Heap} (hvm : u.vm.Alike U.vm) (h : ST E A u H) : ST E A U H := ⟨h.1.moved hvm, h.2.1.moved hvm, h.2.2.1.moved hvm, h.2.2.2.moved hvm⟩
theorem ST.kept {E : EV} {A : Nat → Prop} {U : State} {H H1 : Heap} (h : ST E A U H) (hq : ∀ a : Nat, a < H.size → ¬ A a → H1[a]? = H[a]?) : ST E A U H1 := ⟨h.1.kept hq, h.2.1.kept hq, h.2.2.1.kept hq, h.2.2.2.kept hq⟩
theorem ST.narrow {E : EV} {A B : Nat → Prop} {U : State} {H : Heap} (h : ST E A U H) (hAB : ∀ q, B q → A q) : ST E B U H := ⟨h.1.narrow hAB, h.2.1.narrow hAB, h.2.2.1.narrow hAB, h.2.2.2.narrow hAB⟩
abbrev XT := Program × Launch × Env × Room × State × MethodId × Array Value × List Frame × Method × Code × (Nat → Prop) × (State → Prop)
def G (E : EV) (X : XT) (k n pc : Nat) (lv : List (Nat × Value)) (st : List Value) (ws : va_W) : Prop :=
  match X with
  | (p, l, e, R, s, m, args, below, meth, c, A, Q) => ∀ (ls : Array Slot) (H : Heap) (locs : List Loc), lv_has ls c.maxLocals lv → va_P E.1 cls ws H → va_D A ws → va_S A s.heap H locs → W p l e R s m args below meth c H locs k n Q (F0 m pc ls st)
def Ok (E : EV) (X : XT) (own nm : String) (cc : ByteArray) (nL : Nat) (ret : Option FieldType) (rm : Room) : Prop :=
  match X with
  | (p, _, _, R, s, m, args, _, meth, c, A, _) => p.tables.exec = Jvm.exec ∧ c.code = cc ∧ c.maxLocals = nL ∧ s.vm.findClass own = some m.cls ∧ (∀ w ∈ lw_tb, w.before args s = true) ∧ meth.sig.returnType = ret ∧ meth.locks = false ∧ R = rm ∧ va_K E.1 cls (eTy E) s ∧ NW s ∧ ST E A s s.heap ∧ (∀ q, s.heap.size ≤ q → A q) ∧ meth.name = nm
def QQ (E : EV) (A : Nat → Prop) (Qp : Option Value → va_W → Prop) : Array Value → State → Outcome → State → Prop := fun _ st oc t => (∃ (r : Option Value) (w' : va_W), oc = .returned r ∧ Qp r w' ∧ va_P E.1 cls w' t.heap ∧ va_D A w') ∧ va_F A st t
def En (E : EV) (X : XT) (Qp : Option Value → va_W → Prop) (k n : Nat) : Prop :=
  match X with
  | (_, _, _, _, s, _, args, below, _, _, A, Q) => Q = MQ below (QQ E A Qp) args s k n A
def Pq (E : EV) (av : List Value) (w : va_W) (sz : Nat) : Array Value → State → Prop := va_Pc av (fun U => U.heap.size = sz ∧ va_P E.1 cls w U.heap ∧ va_K E.1 cls (eTy E) U ∧ NW U ∧ ST E (va_A w sz) U U.heap ∧ va_D (fun _ => True) w)
def Ct (y : MethodName) (cc : ByteArray) (nL : Nat) (ret : Option FieldType) (rm : Room) (E : EV) (av : List Value) (w : va_W) (Qp : Option Value → va_W → Prop) : Prop :=
  ∀ (l : Launch) (sz : Nat), Met l y (.code y cc nL ret :: lw_tb) rm (Pq E av w sz) (QQ E (va_A w sz) Qp) rm.cells rm.slots (va_A w sz)
theorem Ct.of {y : MethodName} {cc : ByteArray} {nL : Nat} {ret : Option FieldType} {rm : Room} {E : EV} {av : List Value} {w : va_W} {Qp : Option Value → va_W → Prop} (hy : plainName y.cls = true) (hl : (lg_sl av).length ≤ nL)
    (h : ∀ X : XT, Ok E X y.cls y.name cc nL ret rm → En E X Qp rm.cells rm.slots → G E X 0 0 0 (lv_args 0 av) [] w) : Ct y cc nL ret rm E av w Qp := by
  intro l sz
  refine Met.ofW (cc := cc) (maxL := nL) (ret := ret) hy rfl ?_
  intro p e s m args below meth c s₁ B hml hv
  obtain ⟨rfl, hsz, hP, hK, hN, hT, hD0⟩ := hv
  subst hsz
  have hts := atoms_spec (ws := .code y cc nL ret :: lw_tb) B.pre
  have h1 := h (p, l, e, rm, s, m, av.toArray, below, meth, c, va_A w s.heap.size, MQ below (QQ E (va_A w s.heap.size) Qp) av.toArray s rm.cells rm.slots (va_A w s.heap.size))
    ⟨B.exec, B.bytes, hml, findClass_of_methodNamed B.named, fun w hw => hts w (List.mem_cons_of_mem _ hw), B.returns, B.notSynchronized, rfl, hK, hN, hT, fun q hq => Or.inr hq, (name_of_methodNamed B.named B.method).1⟩ rfl
  rw [lg_entry_eq]
  exact h1 _ s.heap [] (by rw [hml]; exact lv_entry av hl) hP hD0.self va_S.rf
theorem pq_blind {E : EV} {av : List Value} {w : va_W} {sz : Nat} : FrameBlind (Pq E av w sz) := by
  intro a U g mk h
  obtain ⟨h0, h1, h2, h3, h4, h5, h6⟩ := h
  exact ⟨h0, h1, h2, va_K.moved (u := U) (U := U.calling g mk a) (Vm.Alike.refl U.vm) h3, h4.same rfl, ST.moved (u := U) (U := U.calling g mk a) (Vm.Alike.refl U.vm) h5, h6⟩
theorem pq_at {E : EV} {av : List Value} {w : va_W} {A : Nat → Prop} {s U : State} {H : Heap} {locs : List Loc} (hK : va_K E.1 cls (eTy E) s) (hN : NW s) (hT : ST E A s s.heap) (hP : va_P E.1 cls w H) (hD : va_D A w) (hS : va_S A s.heap H locs) (hA : ∀ q, s.heap.size ≤ q → A q) (hU : U.heap = H) (hW : s.WarmedH U.vm) : Pq E av w H.size av.toArray U := by
  refine ⟨rfl, by rw [hU], by rw [hU]; exact hP, va_K.moved hW.alike hK, hN.warm hW, ?_, hD.weaken (fun _ _ _ _ => trivial)⟩
  rw [hU]
  refine (ST.moved hW.alike ((hT.kept hS.2.1).narrow ?_))
  intro q hq
  rcases hq with ⟨k, e, h⟩ | h
  · exact hD.2 k (q, e) h
  · exact hA q (Nat.le_trans hS.1 h)
theorem g_call {E : EV} {p : Program} {l : Launch} {e : Env} {R : Room} {s : State} {m : MethodId} {args : Array Value} {below : List Frame} {meth : Method} {c : Code} {A : Nat → Prop} {Q : State → Prop} {H : Heap} {locs : List Loc} {k n pc mc ms : Nat} {lv : List (Nat × Value)} {ls : Array Slot} {st st0 : List Value} {ws : va_W} {a : Array Value} {Qp : Option Value → va_W → Prop}
    (hr : va_Run p l e R s m args below meth c H locs k n mc ms (F0 m pc ls st0) st (QQ E (va_A ws H.size) Qp a) (va_A ws H.size)) (hl : lv_has ls c.maxLocals lv) (hD : va_D A ws) (hS : va_S A s.heap H locs) (hA : ∀ q, s.heap.size ≤ q → A q)
    (kk : ∀ (r : Option Value) (w' : va_W), Qp r w' → G E (p, l, e, R, s, m, args, below, meth, c, A, Q) (k + mc) (n + ms) (pc + 3) lv (r.toList ++ st) w') : W p l e R s m args below meth c H locs k n Q (F0 m pc ls st0) := by
  have hF : ∀ q, va_A ws H.size q → A q := by
    intro q hq
    rcases hq with ⟨k, e, h⟩ | h
    · exact hD.2 k (q, e) h
    · exact hA q (Nat.le_trans hS.1 h)
  intro T hT X
  obtain ⟨v, st₀, t, T', L, h0, X', hL, e1, e2, ⟨⟨r, w', hv, hq, hP1, hD1⟩, hz, hk⟩, st2⟩ := hr T hT X
  cases hv
  rw [h0] at hz hk
  obtain ⟨t2, a1, b1⟩ := kk _ w' hq ls T'.heap (locs ++ L) hl (by rw [e1]; exact hP1) (hD1.weaken fun _ _ _ h => hF _ h)
    ⟨Nat.le_trans hS.1 (by rw [e1]; exact hz), fun q h1 h2 => by rw [e1, hk q (Nat.lt_of_lt_of_le h1 hS.1) (fun z => h2 (hF q z))]; exact hS.2.1 q h1 h2, fun q hq => by
      rcases List.mem_append.mp hq with h | h
      · exact hS.2.2 q h
      · exact hF _ (hL q h)⟩ T' rfl X'
  exact ⟨t2, st2 t2 a1, b1⟩
def CM (y : MethodName) (cc : ByteArray) (nL : Nat) (ret : Option FieldType) (n : Nat) : Prop := y.cls ≠ "java/lang/invoke/MethodHandle" ∧ y.cls ≠ "java/lang/invoke/VarHandle" ∧ (parseMethodDescriptor y.desc).map (fun d => d.parameters.length) = some n ∧ Cond.initialized y.cls ∈ lw_tb ∧ Cond.code y cc nL ret ∈ lw_tb
section RULES
variable {E : EV} {X : XT} {own nm : String} {cc : ByteArray} {nL : Nat} {ret : Option FieldType} {rm : Room} {k n pc : Nat} {lv lv' : List (Nat × Value)} {st : List Value} {ws : va_W}
theorem G_callV (hX : Ok E X own nm cc nL ret rm) {y : MethodName} {cc' : ByteArray} {nL' n' ci q0 idx b : Nat} {ret' : Option FieldType} {rm' : Room} {Qp : Option Value → va_W → Prop} {As st0 : List Value} {fs : List Value} {r : vw_C}
    (hC : Ct y cc' nL' ret' rm' E (.ref b :: As) ws Qp) (hm : CM y cc' nL' ret' n') (hi : Cond.instanceMethod y ∈ lw_tb) (hs : Cond.selects r.1 y y ∈ lw_tb) (hc : cls[ci]? = some r) (hlk : Cond.methodLink own idx y ∈ lw_tb) (hd : decode cc pc = .ok (.invokevirtual idx, 3))
    (he : ws[q0]? = some (b, .inr (ci, fs))) (hn : As.length = n') (hst : st0 = As.reverse ++ .ref b :: st) (hW : (st.map fun v => v.category).sum ≤ 8) (hrm : rm'.frames + 1 ≤ rm.frames ∧ 8 + (nL' + 11) + rm'.locals ≤ rm.locals) (hcs : k + rm'.cells ≤ rm.cells ∧ n + rm'.slots ≤ rm.slots)
    (kk : ∀ (r : Option Value) (w' : va_W), Qp r w' → G E X (k + rm'.cells) (n + rm'.slots) (pc + 3) lv (r.toList ++ st) w') : G E X k n pc lv st0 ws := by
  obtain ⟨p, l, e, R, s, m, args, below, meth, c, A, Q⟩ := X
  obtain ⟨hx, hb, hml, hown, hts, hr, hlo, hR, hK, hN, hT, hA, hnm⟩ := hX
  subst hR
  subst hst
  intro ls H locs hl hP hD hS
  have hrun := va_runV (g := F0 m pc ls (As.reverse ++ .ref b :: st)) (As := As) (rest := st) (C := r.1) (b := b) ⟨hx, hb, hml, hown, hts⟩ (hC l H.size) ⟨callB_of n' hts (lw_gt hm.2.2.2.2) rfl rfl rfl (hts _ hm.2.2.2.1) (hts _ hlk) ⟨hm.1, hm.2.1, hm.2.2.1⟩ hrm, hts _ hi, hts _ hs⟩
    ⟨pq_blind, va_recv hK hP hc he, fun U hU hW => pq_at hK hN hT hP hD hS hA hU hW⟩ rfl hn (by rw [← hml]; exact hl.1) rfl (lv_room hW) hd hcs (locs := locs) (e := e) (below := below) (meth := meth)
  exact g_call hrun hl hD hS hA kk
theorem G_callS (hX : Ok E X own nm cc nL ret rm) {y : MethodName} {cc' : ByteArray} {nL' n' idx : Nat} {ret' : Option FieldType} {rm' : Room} {Qp : Option Value → va_W → Prop} {As st0 : List Value}
    (hC : Ct y cc' nL' ret' rm' E As ws Qp) (hm : CM y cc' nL' ret' n') (hs : Cond.static y ∈ lw_tb) (hlk : Cond.methodLink own idx y ∈ lw_tb) (hd : decode cc pc = .ok (.invokestatic idx, 3))
    (hn : As.length = n') (hst : st0 = As.reverse ++ st) (hW : (st.map fun v => v.category).sum ≤ 8) (hrm : rm'.frames + 1 ≤ rm.frames ∧ 8 + (nL' + 11) + rm'.locals ≤ rm.locals) (hcs : k + rm'.cells ≤ rm.cells ∧ n + rm'.slots ≤ rm.slots)
    (kk : ∀ (r : Option Value) (w' : va_W), Qp r w' → G E X (k + rm'.cells) (n + rm'.slots) (pc + 3) lv (r.toList ++ st) w') : G E X k n pc lv st0 ws := by
  obtain ⟨p, l, e, R, s, m, args, below, meth, c, A, Q⟩ := X
  obtain ⟨hx, hb, hml, hown, hts, hr, hlo, hR, hK, hN, hT, hA, hnm⟩ := hX
  subst hR
  subst hst
  intro ls H locs hl hP hD hS
  have hrun := va_runS (g := F0 m pc ls (As.reverse ++ st)) (As := As) (rest := st) ⟨hx, hb, hml, hown, hts⟩ (hC l H.size) ⟨callB_of n' hts (lw_gt hm.2.2.2.2) rfl rfl rfl (hts _ hm.2.2.2.1) (hts _ hlk) ⟨hm.1, hm.2.1, hm.2.2.1⟩ hrm, hts _ hs⟩
    ⟨pq_blind, fun U hU hW => pq_at hK hN hT hP hD hS hA hU hW⟩ rfl hn (by rw [← hml]; exact hl.1) rfl (lv_room hW) hd hcs (locs := locs) (e := e) (below := below) (meth := meth)
  exact g_call hrun hl hD hS hA kk
theorem G_callSN (hX : Ok E X own nm cc nL ret rm) {y : MethodName} {host : String} {cc' : ByteArray} {nL' n' idx : Nat} {ret' : Option FieldType} {rm' : Room} {Qp : Option Value → va_W → Prop} {As st0 : List Value}
    (hC : Ct y cc' nL' ret' rm' E As ws Qp) (hm : CM y cc' nL' ret' n') (hs : Cond.static y ∈ lw_tb) (hlk : (own, idx, y, host) ∈ nw_l) (hd : decode cc pc = .ok (.invokestatic idx, 3))
    (hn : As.length = n') (hst : st0 = As.reverse ++ st) (hW : (st.map fun v => v.category).sum ≤ 8) (hrm : rm'.frames + 1 ≤ rm.frames ∧ 8 + (nL' + 11) + rm'.locals ≤ rm.locals) (hcs : k + rm'.cells ≤ rm.cells ∧ n + rm'.slots ≤ rm.slots)
    (kk : ∀ (r : Option Value) (w' : va_W), Qp r w' → G E X (k + rm'.cells) (n + rm'.slots) (pc + 3) lv (r.toList ++ st) w') : G E X k n pc lv st0 ws := by
  obtain ⟨p, l, e, R, s, m, args, below, meth, c, A, Q⟩ := X
  obtain ⟨hx, hb, hml, hown, hts, hr, hlo, hR, hK, hN, hT, hA, hnm⟩ := hX
  subst hR
  subst hst
  intro ls H locs hl hP hD hS
  have hrun := va_runSN (g := F0 m pc ls (As.reverse ++ st)) (As := As) (rest := st) ⟨hx, hb, hml, hown, hts⟩ (hC l H.size) ⟨va_cnB n' hts (lw_gt hm.2.2.2.2) rfl rfl rfl (hN _ hlk) (hts _ hm.2.2.2.1) ⟨hm.1, hm.2.1, hm.2.2.1⟩ hrm, hts _ hs, trivial⟩
    ⟨pq_blind, fun U hU hW => pq_at hK hN hT hP hD hS hA hU hW⟩ rfl hn (by rw [← hml]; exact hl.1) rfl (lv_room hW) hd hcs (locs := locs) (e := e) (below := below) (meth := meth)
  exact g_call hrun hl hD hS hA kk
theorem G_iconst (hX : Ok E X own nm cc nL ret rm) {n0 : Int} (hd : decode cc pc = .ok (.iconst n0, 1)) (kk : G E X k n (pc + 1) lv (.int (zI n0) :: st) ws) : G E X k n pc lv (st) ws := by
  obtain ⟨p, l, e, R, s, m, args, below, meth, c, A, Q⟩ := X
  intro ls H locs hl hP hD hS
  exact lv_iconst hX.1 hX.2.1 hd rfl (kk ls H locs hl hP hD hS)
theorem G_bipush (hX : Ok E X own nm cc nL ret rm) {n0 : Int} (hv : (Int8.ofInt n0).toInt32 = zI n0) (hd : decode cc pc = .ok (.bipush n0, 2)) (kk : G E X k n (pc + 2) lv (.int (zI n0) :: st) ws) : G E X k n pc lv (st) ws := by
  obtain ⟨p, l, e, R, s, m, args, below, meth, c, A, Q⟩ := X
  intro ls H locs hl hP hD hS
  exact lv_bipush hX.1 hX.2.1 hd hv (kk ls H locs hl hP hD hS)
theorem G_sipush (hX : Ok E X own nm cc nL ret rm) {n0 : Int} (hv : (Int16.ofInt n0).toInt32 = zI n0) (hd : decode cc pc = .ok (.sipush n0, 3)) (kk : G E X k n (pc + 3) lv (.int (zI n0) :: st) ws) : G E X k n pc lv (st) ws := by
  obtain ⟨p, l, e, R, s, m, args, below, meth, c, A, Q⟩ := X
  intro ls H locs hl hP hD hS
  exact lv_sipush hX.1 hX.2.1 hd hv (kk ls H locs hl hP hD hS)
theorem G_lconst (hX : Ok E X own nm cc nL ret rm) {n0 : Fin 2} {v : Int64} (hv : Int64.ofNat (n0 : Nat) = v) (hd : decode cc pc = .ok (.lconst n0, 1)) (kk : G E X k n (pc + 1) lv (.long v :: st) ws) : G E X k n pc lv (st) ws := by
  obtain ⟨p, l, e, R, s, m, args, below, meth, c, A, Q⟩ := X
  intro ls H locs hl hP hD hS
  exact lv_lconst hX.1 hX.2.1 hd hv (kk ls H locs hl hP hD hS)
theorem G_ldc (hX : Ok E X own nm cc nL ret rm) {i : Nat} {v : Int32} (hc : Cond.constant own i v ∈ lw_tb) (hd : decode cc pc = .ok (.ldc i, 2)) (kk : G E X k n (pc + 2) lv (.int v :: st) ws) : G E X k n pc lv (st) ws := by
  obtain ⟨p, l, e, R, s, m, args, below, meth, c, A, Q⟩ := X
  intro ls H locs hl hP hD hS
  exact lv_ldc hX.1 hX.2.1 hX.2.2.2.1 (hX.2.2.2.2.1 _ hc) hd (kk ls H locs hl hP hD hS)
theorem G_ldcw (hX : Ok E X own nm cc nL ret rm) {i : Nat} {v : Int32} (hc : Cond.constant own i v ∈ lw_tb) (hd : decode cc pc = .ok (.ldc_w i, 3)) (kk : G E X k n (pc + 3) lv (.int v :: st) ws) : G E X k n pc lv (st) ws := by
  obtain ⟨p, l, e, R, s, m, args, below, meth, c, A, Q⟩ := X
  intro ls H locs hl hP hD hS
  exact lv_ldcw hX.1 hX.2.1 hX.2.2.2.1 (hX.2.2.2.2.1 _ hc) hd (kk ls H locs hl hP hD hS)
theorem G_ldc2 (hX : Ok E X own nm cc nL ret rm) {i : Nat} {v : Int64} (hc : Cond.constantLong own i v ∈ lw_tb) (hd : decode cc pc = .ok (.ldc2_w i, 3)) (kk : G E X k n (pc + 3) lv (.long v :: st) ws) : G E X k n pc lv (st) ws := by
  obtain ⟨p, l, e, R, s, m, args, below, meth, c, A, Q⟩ := X
  intro ls H locs hl hP hD hS
  exact lv_ldc2 hX.1 hX.2.1 hX.2.2.2.1 (hX.2.2.2.2.1 _ hc) hd (kk ls H locs hl hP hD hS)
theorem G_iload_n (hX : Ok E X own nm cc nL ret rm) {j : Fin 4} {i : Nat} {x : Int32} (q : Nat) (hj : (j : Nat) = i) (hq : lv[q]? = some (i, .int x)) (hd : decode cc pc = .ok (.iload_n j, 1)) (kk : G E X k n (pc + 1) lv (.int x :: st) ws) : G E X k n pc lv (st) ws := by
  obtain ⟨p, l, e, R, s, m, args, below, meth, c, A, Q⟩ := X
  intro ls H locs hl hP hD hS
  exact lv_iload_n hX.1 hX.2.1 hd hj (lv_at hl q hq) (kk ls H locs hl hP hD hS)
theorem G_iload (hX : Ok E X own nm cc nL ret rm) {i : Nat} {x : Int32} (q : Nat) (hq : lv[q]? = some (i, .int x)) (hd : decode cc pc = .ok (.iload i, 2)) (kk : G E X k n (pc + 2) lv (.int x :: st) ws) : G E X k n pc lv (st) ws := by
  obtain ⟨p, l, e, R, s, m, args, below, meth, c, A, Q⟩ := X
  intro ls H locs hl hP hD hS
  exact lv_iload hX.1 hX.2.1 hd (lv_at hl q hq) (kk ls H locs hl hP hD hS)
theorem G_istore_n (hX : Ok E X own nm cc nL ret rm) {j : Fin 4} {i : Nat} {x : Int32} (hj : (j : Nat) = i) (hn : i < nL) (hl2 : (i, Value.int x) :: lv.filter (fun q => !(q.1 == i) && !(q.1 + 1 == i && q.2.category == 2)) = lv') (hd : decode cc pc = .ok (.istore_n j, 1)) (kk : G E X k n (pc + 1) lv' st ws) : G E X k n pc lv (.int x :: st) ws := by
  obtain ⟨p, l, e, R, s, m, args, below, meth, c, A, Q⟩ := X
  intro ls H locs hl hP hD hS
  exact lv_istore_n hX.1 hX.2.1 hd hj hl (by rw [hX.2.2.1]; exact hn) hl2 (fun ls' hl' => kk ls' H locs hl' hP hD hS)
theorem G_istore (hX : Ok E X own nm cc nL ret rm) {i : Nat} {x : Int32} (hn : i < nL) (hl2 : (i, Value.int x) :: lv.filter (fun q => !(q.1 == i) && !(q.1 + 1 == i && q.2.category == 2)) = lv') (hd : decode cc pc = .ok (.istore i, 2)) (kk : G E X k n (pc + 2) lv' st ws) : G E X k n pc lv (.int x :: st) ws := by
  obtain ⟨p, l, e, R, s, m, args, below, meth, c, A, Q⟩ := X
  intro ls H locs hl hP hD hS
  exact lv_istore hX.1 hX.2.1 hd hl (by rw [hX.2.2.1]; exact hn) hl2 (fun ls' hl' => kk ls' H locs hl' hP hD hS)
theorem G_lload_n (hX : Ok E X own nm cc nL ret rm) {j : Fin 4} {i : Nat} {x : Int64} (q : Nat) (hj : (j : Nat) = i) (hq : lv[q]? = some (i, .long x)) (hd : decode cc pc = .ok (.lload_n j, 1)) (kk : G E X k n (pc + 1) lv (.long x :: st) ws) : G E X k n pc lv (st) ws := by
  obtain ⟨p, l, e, R, s, m, args, below, meth, c, A, Q⟩ := X
  intro ls H locs hl hP hD hS
  exact lv_lload_n hX.1 hX.2.1 hd hj (lv_at hl q hq) (kk ls H locs hl hP hD hS)
theorem G_lload (hX : Ok E X own nm cc nL ret rm) {i : Nat} {x : Int64} (q : Nat) (hq : lv[q]? = some (i, .long x)) (hd : decode cc pc = .ok (.lload i, 2)) (kk : G E X k n (pc + 2) lv (.long x :: st) ws) : G E X k n pc lv (st) ws := by
  obtain ⟨p, l, e, R, s, m, args, below, meth, c, A, Q⟩ := X
  intro ls H locs hl hP hD hS
  exact lv_lload hX.1 hX.2.1 hd (lv_at hl q hq) (kk ls H locs hl hP hD hS)
theorem G_lstore_n (hX : Ok E X own nm cc nL ret rm) {j : Fin 4} {i : Nat} {x : Int64} (hj : (j : Nat) = i) (hn : i + 1 < nL) (hl2 : (i, Value.long x) :: lv.filter (fun q => !(q.1 == i) && (!(q.1 == i + 1) && !(q.1 + 1 == i && q.2.category == 2))) = lv') (hd : decode cc pc = .ok (.lstore_n j, 1)) (kk : G E X k n (pc + 1) lv' st ws) : G E X k n pc lv (.long x :: st) ws := by
  obtain ⟨p, l, e, R, s, m, args, below, meth, c, A, Q⟩ := X
  intro ls H locs hl hP hD hS
  exact lv_lstore_n hX.1 hX.2.1 hd hj hl (by rw [hX.2.2.1]; exact hn) hl2 (fun ls' hl' => kk ls' H locs hl' hP hD hS)
theorem G_lstore (hX : Ok E X own nm cc nL ret rm) {i : Nat} {x : Int64} (hn : i + 1 < nL) (hl2 : (i, Value.long x) :: lv.filter (fun q => !(q.1 == i) && (!(q.1 == i + 1) && !(q.1 + 1 == i && q.2.category == 2))) = lv') (hd : decode cc pc = .ok (.lstore i, 2)) (kk : G E X k n (pc + 2) lv' st ws) : G E X k n pc lv (.long x :: st) ws := by
  obtain ⟨p, l, e, R, s, m, args, below, meth, c, A, Q⟩ := X
  intro ls H locs hl hP hD hS
  exact lv_lstore hX.1 hX.2.1 hd hl (by rw [hX.2.2.1]; exact hn) hl2 (fun ls' hl' => kk ls' H locs hl' hP hD hS)
theorem G_aload_n (hX : Ok E X own nm cc nL ret rm) {j : Fin 4} {i : Nat} {x : Nat} (q : Nat) (hj : (j : Nat) = i) (hq : lv[q]? = some (i, .ref x)) (hd : decode cc pc = .ok (.aload_n j, 1)) (kk : G E X k n (pc + 1) lv (.ref x :: st) ws) : G E X k n pc lv (st) ws := by
  obtain ⟨p, l, e, R, s, m, args, below, meth, c, A, Q⟩ := X
  intro ls H locs hl hP hD hS
  exact lv_aload_n hX.1 hX.2.1 hd hj (lv_at hl q hq) (kk ls H locs hl hP hD hS)
theorem G_aload (hX : Ok E X own nm cc nL ret rm) {i : Nat} {x : Nat} (q : Nat) (hq : lv[q]? = some (i, .ref x)) (hd : decode cc pc = .ok (.aload i, 2)) (kk : G E X k n (pc + 2) lv (.ref x :: st) ws) : G E X k n pc lv (st) ws := by
  obtain ⟨p, l, e, R, s, m, args, below, meth, c, A, Q⟩ := X
  intro ls H locs hl hP hD hS
  exact lv_aload hX.1 hX.2.1 hd (lv_at hl q hq) (kk ls H locs hl hP hD hS)
theorem G_astore_n (hX : Ok E X own nm cc nL ret rm) {j : Fin 4} {i : Nat} {x : Nat} (hj : (j : Nat) = i) (hn : i < nL) (hl2 : (i, Value.ref x) :: lv.filter (fun q => !(q.1 == i) && !(q.1 + 1 == i && q.2.category == 2)) = lv') (hd : decode cc pc = .ok (.astore_n j, 1)) (kk : G E X k n (pc + 1) lv' st ws) : G E X k n pc lv (.ref x :: st) ws := by
  obtain ⟨p, l, e, R, s, m, args, below, meth, c, A, Q⟩ := X
  intro ls H locs hl hP hD hS
  exact lv_astore_n hX.1 hX.2.1 hd hj hl (by rw [hX.2.2.1]; exact hn) hl2 (fun ls' hl' => kk ls' H locs hl' hP hD hS)
theorem G_astore (hX : Ok E X own nm cc nL ret rm) {i : Nat} {x : Nat} (hn : i < nL) (hl2 : (i, Value.ref x) :: lv.filter (fun q => !(q.1 == i) && !(q.1 + 1 == i && q.2.category == 2)) = lv') (hd : decode cc pc = .ok (.astore i, 2)) (kk : G E X k n (pc + 2) lv' st ws) : G E X k n pc lv (.ref x :: st) ws := by
  obtain ⟨p, l, e, R, s, m, args, below, meth, c, A, Q⟩ := X
  intro ls H locs hl hP hD hS
  exact lv_astore hX.1 hX.2.1 hd hl (by rw [hX.2.2.1]; exact hn) hl2 (fun ls' hl' => kk ls' H locs hl' hP hD hS)
theorem G_iinc (hX : Ok E X own nm cc nL ret rm) {i : Nat} {n0 : Int} {x v : Int32} (q : Nat) (hq : lv[q]? = some (i, .int x)) (hv : x + Int32.ofInt n0 = v) (hn : i < nL) (hl2 : (i, Value.int v) :: lv.filter (fun q => !(q.1 == i) && !(q.1 + 1 == i && q.2.category == 2)) = lv') (hd : decode cc pc = .ok (.iinc i n0, 3)) (kk : G E X k n (pc + 3) lv' st ws) : G E X k n pc lv st ws := by
  obtain ⟨p, l, e, R, s, m, args, below, meth, c, A, Q⟩ := X
  intro ls H locs hl hP hD hS
  exact lv_iinc hX.1 hX.2.1 hd hl hq hv (by rw [hX.2.2.1]; exact hn) hl2 (fun ls' hl' => kk ls' H locs hl' hP hD hS)
theorem G_iinc_z (hX : Ok E X own nm cc nL ret rm) {i : Nat} {n0 x : Int} (q : Nat) (hq : lv[q]? = some (i, .int (zI x))) (hn : i < nL) (hl2 : (i, Value.int (zI (x + n0))) :: lv.filter (fun q => !(q.1 == i) && !(q.1 + 1 == i && q.2.category == 2)) = lv') (hd : decode cc pc = .ok (.iinc i n0, 3)) (kk : G E X k n (pc + 3) lv' st ws) : G E X k n pc lv st ws := G_iinc hX q hq (Int32.ofInt_add x n0).symm hn hl2 hd kk
theorem G_iincW (hX : Ok E X own nm cc nL ret rm) {i : Nat} {n0 : Int} {x v : Int32} (q : Nat) (hq : lv[q]? = some (i, .int x)) (hv : x + Int32.ofInt n0 = v) (hn : i < nL) (hl2 : (i, Value.int v) :: lv.filter (fun q => !(q.1 == i) && !(q.1 + 1 == i && q.2.category == 2)) = lv') (hd : decode cc pc = .ok (.iinc i n0, 6)) (kk : G E X k n (pc + 6) lv' st ws) : G E X k n pc lv st ws := by
  obtain ⟨p, l, e, R, s, m, args, below, meth, c, A, Q⟩ := X
  intro ls H locs hl hP hD hS
  exact lv_iincW hX.1 hX.2.1 hd hl hq hv (by rw [hX.2.2.1]; exact hn) hl2 (fun ls' hl' => kk ls' H locs hl' hP hD hS)
theorem G_iincW_z (hX : Ok E X own nm cc nL ret rm) {i : Nat} {n0 x : Int} (q : Nat) (hq : lv[q]? = some (i, .int (zI x))) (hn : i < nL) (hl2 : (i, Value.int (zI (x + n0))) :: lv.filter (fun q => !(q.1 == i) && !(q.1 + 1 == i && q.2.category == 2)) = lv') (hd : decode cc pc = .ok (.iinc i n0, 6)) (kk : G E X k n (pc + 6) lv' st ws) : G E X k n pc lv st ws := G_iincW hX q hq (Int32.ofInt_add x n0).symm hn hl2 hd kk
theorem G_iadd (hX : Ok E X own nm cc nL ret rm) {x y : Int32} (hd : decode cc pc = .ok (.iadd, 1)) (kk : G E X k n (pc + 1) lv (.int (x + y) :: st) ws) : G E X k n pc lv (.int y :: .int x :: st) ws := by
  obtain ⟨p, l, e, R, s, m, args, below, meth, c, A, Q⟩ := X
  intro ls H locs hl hP hD hS
  exact lv_iadd hX.1 hX.2.1 hd (kk ls H locs hl hP hD hS)
theorem G_isub (hX : Ok E X own nm cc nL ret rm) {x y : Int32} (hd : decode cc pc = .ok (.isub, 1)) (kk : G E X k n (pc + 1) lv (.int (x - y) :: st) ws) : G E X k n pc lv (.int y :: .int x :: st) ws := by
  obtain ⟨p, l, e, R, s, m, args, below, meth, c, A, Q⟩ := X
  intro ls H locs hl hP hD hS
  exact lv_isub hX.1 hX.2.1 hd (kk ls H locs hl hP hD hS)
theorem G_imul (hX : Ok E X own nm cc nL ret rm) {x y : Int32} (hd : decode cc pc = .ok (.imul, 1)) (kk : G E X k n (pc + 1) lv (.int (x * y) :: st) ws) : G E X k n pc lv (.int y :: .int x :: st) ws := by
  obtain ⟨p, l, e, R, s, m, args, below, meth, c, A, Q⟩ := X
  intro ls H locs hl hP hD hS
  exact lv_imul hX.1 hX.2.1 hd (kk ls H locs hl hP hD hS)
theorem G_iand (hX : Ok E X own nm cc nL ret rm) {x y : Int32} (hd : decode cc pc = .ok (.iand, 1)) (kk : G E X k n (pc + 1) lv (.int (x &&& y) :: st) ws) : G E X k n pc lv (.int y :: .int x :: st) ws := by
  obtain ⟨p, l, e, R, s, m, args, below, meth, c, A, Q⟩ := X
  intro ls H locs hl hP hD hS
  exact lv_iand hX.1 hX.2.1 hd (kk ls H locs hl hP hD hS)
theorem G_ior (hX : Ok E X own nm cc nL ret rm) {x y : Int32} (hd : decode cc pc = .ok (.ior, 1)) (kk : G E X k n (pc + 1) lv (.int (x ||| y) :: st) ws) : G E X k n pc lv (.int y :: .int x :: st) ws := by
  obtain ⟨p, l, e, R, s, m, args, below, meth, c, A, Q⟩ := X
  intro ls H locs hl hP hD hS
  exact lv_ior hX.1 hX.2.1 hd (kk ls H locs hl hP hD hS)
theorem G_ixor (hX : Ok E X own nm cc nL ret rm) {x y : Int32} (hd : decode cc pc = .ok (.ixor, 1)) (kk : G E X k n (pc + 1) lv (.int (x ^^^ y) :: st) ws) : G E X k n pc lv (.int y :: .int x :: st) ws := by
  obtain ⟨p, l, e, R, s, m, args, below, meth, c, A, Q⟩ := X
  intro ls H locs hl hP hD hS
  exact lv_ixor hX.1 hX.2.1 hd (kk ls H locs hl hP hD hS)
theorem G_iadd_z (hX : Ok E X own nm cc nL ret rm) {x y : Int} (hd : decode cc pc = .ok (.iadd, 1)) (kk : G E X k n (pc + 1) lv (.int (zI (x + y)) :: st) ws) : G E X k n pc lv (.int (zI y) :: .int (zI x) :: st) ws := by
  refine G_iadd hX hd ?_
  have e : zI x + zI y = zI (x + y) := (Int32.ofInt_add x y).symm
  rw [e]
  exact kk
theorem G_isub_z (hX : Ok E X own nm cc nL ret rm) {x y : Int} (hd : decode cc pc = .ok (.isub, 1)) (kk : G E X k n (pc + 1) lv (.int (zI (x - y)) :: st) ws) : G E X k n pc lv (.int (zI y) :: .int (zI x) :: st) ws := by
  refine G_isub hX hd ?_
  have e : zI x - zI y = zI (x - y) := (Int32.ofInt_sub x y).symm
  rw [e]
  exact kk
theorem G_imul_z (hX : Ok E X own nm cc nL ret rm) {x y : Int} (hd : decode cc pc = .ok (.imul, 1)) (kk : G E X k n (pc + 1) lv (.int (zI (x * y)) :: st) ws) : G E X k n pc lv (.int (zI y) :: .int (zI x) :: st) ws := by
  refine G_imul hX hd ?_
  have e : zI x * zI y = zI (x * y) := (Int32.ofInt_mul x y).symm
  rw [e]
  exact kk
theorem G_ladd (hX : Ok E X own nm cc nL ret rm) {x y : Int64} (hd : decode cc pc = .ok (.ladd, 1)) (kk : G E X k n (pc + 1) lv (.long (x + y) :: st) ws) : G E X k n pc lv (.long y :: .long x :: st) ws := by
  obtain ⟨p, l, e, R, s, m, args, below, meth, c, A, Q⟩ := X
  intro ls H locs hl hP hD hS
  exact lv_ladd hX.1 hX.2.1 hd (kk ls H locs hl hP hD hS)
theorem G_lsub (hX : Ok E X own nm cc nL ret rm) {x y : Int64} (hd : decode cc pc = .ok (.lsub, 1)) (kk : G E X k n (pc + 1) lv (.long (x - y) :: st) ws) : G E X k n pc lv (.long y :: .long x :: st) ws := by
  obtain ⟨p, l, e, R, s, m, args, below, meth, c, A, Q⟩ := X
  intro ls H locs hl hP hD hS
  exact lv_lsub hX.1 hX.2.1 hd (kk ls H locs hl hP hD hS)
theorem G_lmul (hX : Ok E X own nm cc nL ret rm) {x y : Int64} (hd : decode cc pc = .ok (.lmul, 1)) (kk : G E X k n (pc + 1) lv (.long (x * y) :: st) ws) : G E X k n pc lv (.long y :: .long x :: st) ws := by
  obtain ⟨p, l, e, R, s, m, args, below, meth, c, A, Q⟩ := X
  intro ls H locs hl hP hD hS
  exact lv_lmul hX.1 hX.2.1 hd (kk ls H locs hl hP hD hS)
theorem G_land (hX : Ok E X own nm cc nL ret rm) {x y : Int64} (hd : decode cc pc = .ok (.land, 1)) (kk : G E X k n (pc + 1) lv (.long (x &&& y) :: st) ws) : G E X k n pc lv (.long y :: .long x :: st) ws := by
  obtain ⟨p, l, e, R, s, m, args, below, meth, c, A, Q⟩ := X
  intro ls H locs hl hP hD hS
  exact lv_land hX.1 hX.2.1 hd (kk ls H locs hl hP hD hS)
theorem G_lor (hX : Ok E X own nm cc nL ret rm) {x y : Int64} (hd : decode cc pc = .ok (.lor, 1)) (kk : G E X k n (pc + 1) lv (.long (x ||| y) :: st) ws) : G E X k n pc lv (.long y :: .long x :: st) ws := by
  obtain ⟨p, l, e, R, s, m, args, below, meth, c, A, Q⟩ := X
  intro ls H locs hl hP hD hS
  exact lv_lor hX.1 hX.2.1 hd (kk ls H locs hl hP hD hS)
theorem G_lxor (hX : Ok E X own nm cc nL ret rm) {x y : Int64} (hd : decode cc pc = .ok (.lxor, 1)) (kk : G E X k n (pc + 1) lv (.long (x ^^^ y) :: st) ws) : G E X k n pc lv (.long y :: .long x :: st) ws := by
  obtain ⟨p, l, e, R, s, m, args, below, meth, c, A, Q⟩ := X
  intro ls H locs hl hP hD hS
  exact lv_lxor hX.1 hX.2.1 hd (kk ls H locs hl hP hD hS)
theorem G_ladd_z (hX : Ok E X own nm cc nL ret rm) {x y : Int} (hd : decode cc pc = .ok (.ladd, 1)) (kk : G E X k n (pc + 1) lv (.long (zL (x + y)) :: st) ws) : G E X k n pc lv (.long (zL y) :: .long (zL x) :: st) ws := by
  refine G_ladd hX hd ?_
  have e : zL x + zL y = zL (x + y) := (Int64.ofInt_add x y).symm
  rw [e]
  exact kk
theorem G_lmul_z (hX : Ok E X own nm cc nL ret rm) {x y : Int} (hd : decode cc pc = .ok (.lmul, 1)) (kk : G E X k n (pc + 1) lv (.long (zL (x * y)) :: st) ws) : G E X k n pc lv (.long (zL y) :: .long (zL x) :: st) ws := by
  refine G_lmul hX hd ?_
  have e : zL x * zL y = zL (x * y) := (Int64.ofInt_mul x y).symm
  rw [e]
  exact kk
theorem G_idiv (hX : Ok E X own nm cc nL ret rm) {x y : Int32} (hne : ¬ y = 0) (hd : decode cc pc = .ok (.idiv, 1)) (kk : G E X k n (pc + 1) lv (.int (x / y) :: st) ws) : G E X k n pc lv (.int y :: .int x :: st) ws := by
  obtain ⟨p, l, e, R, s, m, args, below, meth, c, A, Q⟩ := X
  intro ls H locs hl hP hD hS
  exact lv_idiv hX.1 hX.2.1 hd hne (kk ls H locs hl hP hD hS)
theorem G_irem (hX : Ok E X own nm cc nL ret rm) {x y : Int32} (hne : ¬ y = 0) (hd : decode cc pc = .ok (.irem, 1)) (kk : G E X k n (pc + 1) lv (.int (x - x / y * y) :: st) ws) : G E X k n pc lv (.int y :: .int x :: st) ws := by
  obtain ⟨p, l, e, R, s, m, args, below, meth, c, A, Q⟩ := X
  intro ls H locs hl hP hD hS
  exact lv_irem hX.1 hX.2.1 hd hne (kk ls H locs hl hP hD hS)
theorem G_lrem (hX : Ok E X own nm cc nL ret rm) {x y : Int64} (hne : ¬ y = 0) (hd : decode cc pc = .ok (.lrem, 1)) (kk : G E X k n (pc + 1) lv (.long (x - x / y * y) :: st) ws) : G E X k n pc lv (.long y :: .long x :: st) ws := by
  obtain ⟨p, l, e, R, s, m, args, below, meth, c, A, Q⟩ := X
  intro ls H locs hl hP hD hS
  exact lv_lrem hX.1 hX.2.1 hd hne (kk ls H locs hl hP hD hS)
theorem G_ishl (hX : Ok E X own nm cc nL ret rm) {x y : Int32} (hd : decode cc pc = .ok (.ishl, 1)) (kk : G E X k n (pc + 1) lv (.int (x <<< (y &&& 31)) :: st) ws) : G E X k n pc lv (.int y :: .int x :: st) ws := by
  obtain ⟨p, l, e, R, s, m, args, below, meth, c, A, Q⟩ := X
  intro ls H locs hl hP hD hS
  exact lv_ishl hX.1 hX.2.1 hd (kk ls H locs hl hP hD hS)
theorem G_ishr (hX : Ok E X own nm cc nL ret rm) {x y : Int32} (hd : decode cc pc = .ok (.ishr, 1)) (kk : G E X k n (pc + 1) lv (.int (x >>> (y &&& 31)) :: st) ws) : G E X k n pc lv (.int y :: .int x :: st) ws := by
  obtain ⟨p, l, e, R, s, m, args, below, meth, c, A, Q⟩ := X
  intro ls H locs hl hP hD hS
  exact lv_ishr hX.1 hX.2.1 hd (kk ls H locs hl hP hD hS)
theorem G_iushr (hX : Ok E X own nm cc nL ret rm) {x y v : Int32} (hv : (x.toUInt32 >>> (y.toUInt32 &&& Int32.toUInt32 31)).toInt32 = v) (hd : decode cc pc = .ok (.iushr, 1)) (kk : G E X k n (pc + 1) lv (.int v :: st) ws) : G E X k n pc lv (.int y :: .int x :: st) ws := by
  obtain ⟨p, l, e, R, s, m, args, below, meth, c, A, Q⟩ := X
  intro ls H locs hl hP hD hS
  exact lv_iushr hX.1 hX.2.1 hd hv (kk ls H locs hl hP hD hS)
theorem G_lushr (hX : Ok E X own nm cc nL ret rm) {x v : Int64} {y : Int32} (hv : (x.toUInt64 >>> (y.toInt64.toUInt64 &&& Int64.toUInt64 63)).toInt64 = v) (hd : decode cc pc = .ok (.lushr, 1)) (kk : G E X k n (pc + 1) lv (.long v :: st) ws) : G E X k n pc lv (.int y :: .long x :: st) ws := by
  obtain ⟨p, l, e, R, s, m, args, below, meth, c, A, Q⟩ := X
  intro ls H locs hl hP hD hS
  exact lv_lushr hX.1 hX.2.1 hd hv (kk ls H locs hl hP hD hS)
theorem G_lshl (hX : Ok E X own nm cc nL ret rm) {x v : Int64} {y : Int32} (hv : x <<< (y.toInt64 &&& 63) = v) (hd : decode cc pc = .ok (.lshl, 1)) (kk : G E X k n (pc + 1) lv (.long v :: st) ws) : G E X k n pc lv (.int y :: .long x :: st) ws := by
  obtain ⟨p, l, e, R, s, m, args, below, meth, c, A, Q⟩ := X
  intro ls H locs hl hP hD hS
  exact lv_lshl hX.1 hX.2.1 hd hv (kk ls H locs hl hP hD hS)
theorem G_lshr (hX : Ok E X own nm cc nL ret rm) {x v : Int64} {y : Int32} (hv : x >>> (y.toInt64 &&& 63) = v) (hd : decode cc pc = .ok (.lshr, 1)) (kk : G E X k n (pc + 1) lv (.long v :: st) ws) : G E X k n pc lv (.int y :: .long x :: st) ws := by
  obtain ⟨p, l, e, R, s, m, args, below, meth, c, A, Q⟩ := X
  intro ls H locs hl hP hD hS
  exact lv_lshr hX.1 hX.2.1 hd hv (kk ls H locs hl hP hD hS)
theorem G_i2l (hX : Ok E X own nm cc nL ret rm) {x : Int32} {v : Int64} (hv : x.toInt64 = v) (hd : decode cc pc = .ok (.i2l, 1)) (kk : G E X k n (pc + 1) lv (.long v :: st) ws) : G E X k n pc lv (.int x :: st) ws := by
  obtain ⟨p, l, e, R, s, m, args, below, meth, c, A, Q⟩ := X
  intro ls H locs hl hP hD hS
  exact lv_i2l hX.1 hX.2.1 hd hv (kk ls H locs hl hP hD hS)
theorem G_l2i (hX : Ok E X own nm cc nL ret rm) {x : Int64} {v : Int32} (hv : x.toInt32 = v) (hd : decode cc pc = .ok (.l2i, 1)) (kk : G E X k n (pc + 1) lv (.int v :: st) ws) : G E X k n pc lv (.long x :: st) ws := by
  obtain ⟨p, l, e, R, s, m, args, below, meth, c, A, Q⟩ := X
  intro ls H locs hl hP hD hS
  exact lv_l2i hX.1 hX.2.1 hd hv (kk ls H locs hl hP hD hS)
theorem G_lcmp (hX : Ok E X own nm cc nL ret rm) {x y : Int64} (hd : decode cc pc = .ok (.lcmp, 1)) (kk : G E X k n (pc + 1) lv (.int (lg_cmp x y) :: st) ws) : G E X k n pc lv (.long y :: .long x :: st) ws := by
  obtain ⟨p, l, e, R, s, m, args, below, meth, c, A, Q⟩ := X
  intro ls H locs hl hP hD hS
  exact W.lcmp hX.1 hX.2.1 hd (kk ls H locs hl hP hD hS)
theorem G_dup (hX : Ok E X own nm cc nL ret rm) {va : Value} (hva : va.category = 1) (hd : decode cc pc = .ok (.dup, 1)) (kk : G E X k n (pc + 1) lv (va :: va :: st) ws) : G E X k n pc lv (va :: st) ws := by
  obtain ⟨p, l, e, R, s, m, args, below, meth, c, A, Q⟩ := X
  intro ls H locs hl hP hD hS
  exact lv_dup hX.1 hX.2.1 hd hva (kk ls H locs hl hP hD hS)
theorem G_pop (hX : Ok E X own nm cc nL ret rm) {va : Value} (hva : va.category = 1) (hd : decode cc pc = .ok (.pop, 1)) (kk : G E X k n (pc + 1) lv (st) ws) : G E X k n pc lv (va :: st) ws := by
  obtain ⟨p, l, e, R, s, m, args, below, meth, c, A, Q⟩ := X
  intro ls H locs hl hP hD hS
  exact lv_pop hX.1 hX.2.1 hd hva (kk ls H locs hl hP hD hS)
theorem G_dup2 (hX : Ok E X own nm cc nL ret rm) {va vb : Value} (hva : va.category = 1) (hvb : vb.category = 1) (hd : decode cc pc = .ok (.dup2, 1)) (kk : G E X k n (pc + 1) lv (va :: vb :: va :: vb :: st) ws) : G E X k n pc lv (va :: vb :: st) ws := by
  obtain ⟨p, l, e, R, s, m, args, below, meth, c, A, Q⟩ := X
  intro ls H locs hl hP hD hS
  exact lv_dup2_11 hX.1 hX.2.1 hd hva hvb (kk ls H locs hl hP hD hS)
end RULES
theorem zI_t {z : Int} (h : -2147483648 ≤ z ∧ z < 2147483648) : (zI z).toInt = z := Int32.toInt_ofInt_of_le (by omega) (by omega)
theorem zI_lt {x y : Int} (h : -2147483648 ≤ x ∧ x < 2147483648 ∧ -2147483648 ≤ y ∧ y < 2147483648) : zI x < zI y ↔ x < y := by rw [Int32.lt_iff_toInt_lt, zI_t ⟨h.1, h.2.1⟩, zI_t h.2.2]
theorem zI_le {x y : Int} (h : -2147483648 ≤ x ∧ x < 2147483648 ∧ -2147483648 ≤ y ∧ y < 2147483648) : zI x ≤ zI y ↔ x ≤ y := by rw [Int32.le_iff_toInt_le, zI_t ⟨h.1, h.2.1⟩, zI_t h.2.2]
theorem zI_eq {x y : Int} (h : -2147483648 ≤ x ∧ x < 2147483648 ∧ -2147483648 ≤ y ∧ y < 2147483648) : zI x = zI y ↔ x = y := by
  constructor
  · intro e
    have := congrArg Int32.toInt e
    rwa [zI_t ⟨h.1, h.2.1⟩, zI_t h.2.2] at this
  · intro e; rw [e]
theorem zI_self (x : Int32) : zI x.toInt = x := Int32.ofInt_toInt x
theorem zI_0 : zI 0 = 0 := rfl
section RULES2
variable {E : EV} {X : XT} {own nm : String} {cc : ByteArray} {nL : Nat} {ret : Option FieldType} {rm : Room} {k n pc : Nat} {lv lv' : List (Nat × Value)} {st : List Value} {ws : va_W}
theorem G_icmp_eq (hX : Ok E X own nm cc nL ret rm) {x y : Int32} {off : Int} {tgt : Nat} (hd : decode cc pc = .ok (.if_icmp .eq off, 3)) (ht : (pc : Int) + off = (tgt : Int)) (kt : x = y → G E X k n tgt lv st ws) (kf : ¬ (x = y) → G E X k n (pc + 3) lv st ws) : G E X k n pc lv (.int y :: .int x :: st) ws := by
  obtain ⟨p, l, e, R, s, m, args, below, meth, c, A, Q⟩ := X
  intro ls H locs hl hP hD hS
  exact lv_icmp_eq hX.1 hX.2.1 hd ht (fun h => kt h ls H locs hl hP hD hS) (fun h => kf h ls H locs hl hP hD hS)
theorem G_if_eq (hX : Ok E X own nm cc nL ret rm) {x : Int32} {off : Int} {tgt : Nat} (hd : decode cc pc = .ok (.ifCond .eq off, 3)) (ht : (pc : Int) + off = (tgt : Int)) (kt : x = 0 → G E X k n tgt lv st ws) (kf : ¬ (x = 0) → G E X k n (pc + 3) lv st ws) : G E X k n pc lv (.int x :: st) ws := by
  obtain ⟨p, l, e, R, s, m, args, below, meth, c, A, Q⟩ := X
  intro ls H locs hl hP hD hS
  exact lv_if_eq hX.1 hX.2.1 hd ht (fun h => kt h ls H locs hl hP hD hS) (fun h => kf h ls H locs hl hP hD hS)
theorem G_icmp_eq_z (hX : Ok E X own nm cc nL ret rm) {x y : Int} {off : Int} {tgt : Nat} (hd : decode cc pc = .ok (.if_icmp .eq off, 3)) (ht : (pc : Int) + off = (tgt : Int)) (hb : -2147483648 ≤ x ∧ x < 2147483648 ∧ -2147483648 ≤ y ∧ y < 2147483648) (kt : x = y → G E X k n tgt lv st ws) (kf : x ≠ y → G E X k n (pc + 3) lv st ws) : G E X k n pc lv (.int (zI y) :: .int (zI x) :: st) ws := by
  have e := zI_eq hb
  refine G_icmp_eq hX hd ht (fun h => kt ?_) (fun h => kf ?_)
  · rw [e] at h; omega
  · rw [e] at h; omega
theorem G_if_eq_z (hX : Ok E X own nm cc nL ret rm) {x : Int} {off : Int} {tgt : Nat} (hd : decode cc pc = .ok (.ifCond .eq off, 3)) (ht : (pc : Int) + off = (tgt : Int)) (hb : -2147483648 ≤ x ∧ x < 2147483648) (kt : x = 0 → G E X k n tgt lv st ws) (kf : x ≠ 0 → G E X k n (pc + 3) lv st ws) : G E X k n pc lv (.int (zI x) :: st) ws := by
  have hb : -2147483648 ≤ x ∧ x < 2147483648 ∧ -2147483648 ≤ (0 : Int) ∧ (0 : Int) < 2147483648 := ⟨hb.1, hb.2, by omega, by omega⟩
  have e := zI_eq hb
  rw [zI_0] at e
  refine G_if_eq hX hd ht (fun h => kt ?_) (fun h => kf ?_)
  · rw [e] at h; omega
  · rw [e] at h; omega
theorem G_icmp_ne (hX : Ok E X own nm cc nL ret rm) {x y : Int32} {off : Int} {tgt : Nat} (hd : decode cc pc = .ok (.if_icmp .ne off, 3)) (ht : (pc : Int) + off = (tgt : Int)) (kt : ¬ x = y → G E X k n tgt lv st ws) (kf : x = y → G E X k n (pc + 3) lv st ws) : G E X k n pc lv (.int y :: .int x :: st) ws := by
  obtain ⟨p, l, e, R, s, m, args, below, meth, c, A, Q⟩ := X
  intro ls H locs hl hP hD hS
  exact lv_icmp_ne hX.1 hX.2.1 hd ht (fun h => kt h ls H locs hl hP hD hS) (fun h => kf (by simpa using h) ls H locs hl hP hD hS)
theorem G_if_ne (hX : Ok E X own nm cc nL ret rm) {x : Int32} {off : Int} {tgt : Nat} (hd : decode cc pc = .ok (.ifCond .ne off, 3)) (ht : (pc : Int) + off = (tgt : Int)) (kt : ¬ x = 0 → G E X k n tgt lv st ws) (kf : x = 0 → G E X k n (pc + 3) lv st ws) : G E X k n pc lv (.int x :: st) ws := by
  obtain ⟨p, l, e, R, s, m, args, below, meth, c, A, Q⟩ := X
  intro ls H locs hl hP hD hS
  exact lv_if_ne hX.1 hX.2.1 hd ht (fun h => kt h ls H locs hl hP hD hS) (fun h => kf (by simpa using h) ls H locs hl hP hD hS)
theorem G_icmp_ne_z (hX : Ok E X own nm cc nL ret rm) {x y : Int} {off : Int} {tgt : Nat} (hd : decode cc pc = .ok (.if_icmp .ne off, 3)) (ht : (pc : Int) + off = (tgt : Int)) (hb : -2147483648 ≤ x ∧ x < 2147483648 ∧ -2147483648 ≤ y ∧ y < 2147483648) (kt : x ≠ y → G E X k n tgt lv st ws) (kf : x = y → G E X k n (pc + 3) lv st ws) : G E X k n pc lv (.int (zI y) :: .int (zI x) :: st) ws := by
  have e := zI_eq hb
  refine G_icmp_ne hX hd ht (fun h => kt ?_) (fun h => kf ?_)
  · rw [e] at h; omega
  · rw [e] at h; omega
theorem G_if_ne_z (hX : Ok E X own nm cc nL ret rm) {x : Int} {off : Int} {tgt : Nat} (hd : decode cc pc = .ok (.ifCond .ne off, 3)) (ht : (pc : Int) + off = (tgt : Int)) (hb : -2147483648 ≤ x ∧ x < 2147483648) (kt : x ≠ 0 → G E X k n tgt lv st ws) (kf : x = 0 → G E X k n (pc + 3) lv st ws) : G E X k n pc lv (.int (zI x) :: st) ws := by
  have hb : -2147483648 ≤ x ∧ x < 2147483648 ∧ -2147483648 ≤ (0 : Int) ∧ (0 : Int) < 2147483648 := ⟨hb.1, hb.2, by omega, by omega⟩
  have e := zI_eq hb
  rw [zI_0] at e
  refine G_if_ne hX hd ht (fun h => kt ?_) (fun h => kf ?_)
  · rw [e] at h; omega
  · rw [e] at h; omega
theorem G_icmp_lt (hX : Ok E X own nm cc nL ret rm) {x y : Int32} {off : Int} {tgt : Nat} (hd : decode cc pc = .ok (.if_icmp .lt off, 3)) (ht : (pc : Int) + off = (tgt : Int)) (kt : x < y → G E X k n tgt lv st ws) (kf : ¬ (x < y) → G E X k n (pc + 3) lv st ws) : G E X k n pc lv (.int y :: .int x :: st) ws := by
  obtain ⟨p, l, e, R, s, m, args, below, meth, c, A, Q⟩ := X
  intro ls H locs hl hP hD hS
  exact lv_icmp_lt hX.1 hX.2.1 hd ht (fun h => kt h ls H locs hl hP hD hS) (fun h => kf h ls H locs hl hP hD hS)
theorem G_if_lt (hX : Ok E X own nm cc nL ret rm) {x : Int32} {off : Int} {tgt : Nat} (hd : decode cc pc = .ok (.ifCond .lt off, 3)) (ht : (pc : Int) + off = (tgt : Int)) (kt : x < 0 → G E X k n tgt lv st ws) (kf : ¬ (x < 0) → G E X k n (pc + 3) lv st ws) : G E X k n pc lv (.int x :: st) ws := by
  obtain ⟨p, l, e, R, s, m, args, below, meth, c, A, Q⟩ := X
  intro ls H locs hl hP hD hS
  exact lv_if_lt hX.1 hX.2.1 hd ht (fun h => kt h ls H locs hl hP hD hS) (fun h => kf h ls H locs hl hP hD hS)
theorem G_icmp_lt_z (hX : Ok E X own nm cc nL ret rm) {x y : Int} {off : Int} {tgt : Nat} (hd : decode cc pc = .ok (.if_icmp .lt off, 3)) (ht : (pc : Int) + off = (tgt : Int)) (hb : -2147483648 ≤ x ∧ x < 2147483648 ∧ -2147483648 ≤ y ∧ y < 2147483648) (kt : x < y → G E X k n tgt lv st ws) (kf : y ≤ x → G E X k n (pc + 3) lv st ws) : G E X k n pc lv (.int (zI y) :: .int (zI x) :: st) ws := by
  have e := zI_lt hb
  refine G_icmp_lt hX hd ht (fun h => kt ?_) (fun h => kf ?_)
  · rw [e] at h; omega
  · rw [e] at h; omega
theorem G_if_lt_z (hX : Ok E X own nm cc nL ret rm) {x : Int} {off : Int} {tgt : Nat} (hd : decode cc pc = .ok (.ifCond .lt off, 3)) (ht : (pc : Int) + off = (tgt : Int)) (hb : -2147483648 ≤ x ∧ x < 2147483648) (kt : x < 0 → G E X k n tgt lv st ws) (kf : 0 ≤ x → G E X k n (pc + 3) lv st ws) : G E X k n pc lv (.int (zI x) :: st) ws := by
  have hb : -2147483648 ≤ x ∧ x < 2147483648 ∧ -2147483648 ≤ (0 : Int) ∧ (0 : Int) < 2147483648 := ⟨hb.1, hb.2, by omega, by omega⟩
  have e := zI_lt hb
  rw [zI_0] at e
  refine G_if_lt hX hd ht (fun h => kt ?_) (fun h => kf ?_)
  · rw [e] at h; omega
  · rw [e] at h; omega
theorem G_icmp_ge (hX : Ok E X own nm cc nL ret rm) {x y : Int32} {off : Int} {tgt : Nat} (hd : decode cc pc = .ok (.if_icmp .ge off, 3)) (ht : (pc : Int) + off = (tgt : Int)) (kt : y ≤ x → G E X k n tgt lv st ws) (kf : ¬ (y ≤ x) → G E X k n (pc + 3) lv st ws) : G E X k n pc lv (.int y :: .int x :: st) ws := by
  obtain ⟨p, l, e, R, s, m, args, below, meth, c, A, Q⟩ := X
  intro ls H locs hl hP hD hS
  exact lv_icmp_ge hX.1 hX.2.1 hd ht (fun h => kt h ls H locs hl hP hD hS) (fun h => kf h ls H locs hl hP hD hS)
theorem G_if_ge (hX : Ok E X own nm cc nL ret rm) {x : Int32} {off : Int} {tgt : Nat} (hd : decode cc pc = .ok (.ifCond .ge off, 3)) (ht : (pc : Int) + off = (tgt : Int)) (kt : 0 ≤ x → G E X k n tgt lv st ws) (kf : ¬ (0 ≤ x) → G E X k n (pc + 3) lv st ws) : G E X k n pc lv (.int x :: st) ws := by
  obtain ⟨p, l, e, R, s, m, args, below, meth, c, A, Q⟩ := X
  intro ls H locs hl hP hD hS
  exact lv_if_ge hX.1 hX.2.1 hd ht (fun h => kt h ls H locs hl hP hD hS) (fun h => kf h ls H locs hl hP hD hS)
theorem G_icmp_ge_z (hX : Ok E X own nm cc nL ret rm) {x y : Int} {off : Int} {tgt : Nat} (hd : decode cc pc = .ok (.if_icmp .ge off, 3)) (ht : (pc : Int) + off = (tgt : Int)) (hb : -2147483648 ≤ x ∧ x < 2147483648 ∧ -2147483648 ≤ y ∧ y < 2147483648) (kt : y ≤ x → G E X k n tgt lv st ws) (kf : x < y → G E X k n (pc + 3) lv st ws) : G E X k n pc lv (.int (zI y) :: .int (zI x) :: st) ws := by
  have e := zI_le ⟨hb.2.2.1, hb.2.2.2, hb.1, hb.2.1⟩
  refine G_icmp_ge hX hd ht (fun h => kt ?_) (fun h => kf ?_)
  · rw [e] at h; omega
  · rw [e] at h; omega
theorem G_if_ge_z (hX : Ok E X own nm cc nL ret rm) {x : Int} {off : Int} {tgt : Nat} (hd : decode cc pc = .ok (.ifCond .ge off, 3)) (ht : (pc : Int) + off = (tgt : Int)) (hb : -2147483648 ≤ x ∧ x < 2147483648) (kt : 0 ≤ x → G E X k n tgt lv st ws) (kf : x < 0 → G E X k n (pc + 3) lv st ws) : G E X k n pc lv (.int (zI x) :: st) ws := by
  have hb : -2147483648 ≤ x ∧ x < 2147483648 ∧ -2147483648 ≤ (0 : Int) ∧ (0 : Int) < 2147483648 := ⟨hb.1, hb.2, by omega, by omega⟩
  have e := zI_le ⟨hb.2.2.1, hb.2.2.2, hb.1, hb.2.1⟩
  rw [zI_0] at e
  refine G_if_ge hX hd ht (fun h => kt ?_) (fun h => kf ?_)
  · rw [e] at h; omega
  · rw [e] at h; omega
theorem G_icmp_gt (hX : Ok E X own nm cc nL ret rm) {x y : Int32} {off : Int} {tgt : Nat} (hd : decode cc pc = .ok (.if_icmp .gt off, 3)) (ht : (pc : Int) + off = (tgt : Int)) (kt : y < x → G E X k n tgt lv st ws) (kf : ¬ (y < x) → G E X k n (pc + 3) lv st ws) : G E X k n pc lv (.int y :: .int x :: st) ws := by
  obtain ⟨p, l, e, R, s, m, args, below, meth, c, A, Q⟩ := X
  intro ls H locs hl hP hD hS
  exact lv_icmp_gt hX.1 hX.2.1 hd ht (fun h => kt h ls H locs hl hP hD hS) (fun h => kf h ls H locs hl hP hD hS)
theorem G_if_gt (hX : Ok E X own nm cc nL ret rm) {x : Int32} {off : Int} {tgt : Nat} (hd : decode cc pc = .ok (.ifCond .gt off, 3)) (ht : (pc : Int) + off = (tgt : Int)) (kt : 0 < x → G E X k n tgt lv st ws) (kf : ¬ (0 < x) → G E X k n (pc + 3) lv st ws) : G E X k n pc lv (.int x :: st) ws := by
  obtain ⟨p, l, e, R, s, m, args, below, meth, c, A, Q⟩ := X
  intro ls H locs hl hP hD hS
  exact lv_if_gt hX.1 hX.2.1 hd ht (fun h => kt h ls H locs hl hP hD hS) (fun h => kf h ls H locs hl hP hD hS)
theorem G_icmp_gt_z (hX : Ok E X own nm cc nL ret rm) {x y : Int} {off : Int} {tgt : Nat} (hd : decode cc pc = .ok (.if_icmp .gt off, 3)) (ht : (pc : Int) + off = (tgt : Int)) (hb : -2147483648 ≤ x ∧ x < 2147483648 ∧ -2147483648 ≤ y ∧ y < 2147483648) (kt : y < x → G E X k n tgt lv st ws) (kf : x ≤ y → G E X k n (pc + 3) lv st ws) : G E X k n pc lv (.int (zI y) :: .int (zI x) :: st) ws := by
  have e := zI_lt ⟨hb.2.2.1, hb.2.2.2, hb.1, hb.2.1⟩
  refine G_icmp_gt hX hd ht (fun h => kt ?_) (fun h => kf ?_)
  · rw [e] at h; omega
  · rw [e] at h; omega
theorem G_if_gt_z (hX : Ok E X own nm cc nL ret rm) {x : Int} {off : Int} {tgt : Nat} (hd : decode cc pc = .ok (.ifCond .gt off, 3)) (ht : (pc : Int) + off = (tgt : Int)) (hb : -2147483648 ≤ x ∧ x < 2147483648) (kt : 0 < x → G E X k n tgt lv st ws) (kf : x ≤ 0 → G E X k n (pc + 3) lv st ws) : G E X k n pc lv (.int (zI x) :: st) ws := by
  have hb : -2147483648 ≤ x ∧ x < 2147483648 ∧ -2147483648 ≤ (0 : Int) ∧ (0 : Int) < 2147483648 := ⟨hb.1, hb.2, by omega, by omega⟩
  have e := zI_lt ⟨hb.2.2.1, hb.2.2.2, hb.1, hb.2.1⟩
  rw [zI_0] at e
  refine G_if_gt hX hd ht (fun h => kt ?_) (fun h => kf ?_)
  · rw [e] at h; omega
  · rw [e] at h; omega
theorem G_icmp_le (hX : Ok E X own nm cc nL ret rm) {x y : Int32} {off : Int} {tgt : Nat} (hd : decode cc pc = .ok (.if_icmp .le off, 3)) (ht : (pc : Int) + off = (tgt : Int)) (kt : x ≤ y → G E X k n tgt lv st ws) (kf : ¬ (x ≤ y) → G E X k n (pc + 3) lv st ws) : G E X k n pc lv (.int y :: .int x :: st) ws := by
  obtain ⟨p, l, e, R, s, m, args, below, meth, c, A, Q⟩ := X
  intro ls H locs hl hP hD hS
  exact lv_icmp_le hX.1 hX.2.1 hd ht (fun h => kt h ls H locs hl hP hD hS) (fun h => kf h ls H locs hl hP hD hS)
theorem G_if_le (hX : Ok E X own nm cc nL ret rm) {x : Int32} {off : Int} {tgt : Nat} (hd : decode cc pc = .ok (.ifCond .le off, 3)) (ht : (pc : Int) + off = (tgt : Int)) (kt : x ≤ 0 → G E X k n tgt lv st ws) (kf : ¬ (x ≤ 0) → G E X k n (pc + 3) lv st ws) : G E X k n pc lv (.int x :: st) ws := by
  obtain ⟨p, l, e, R, s, m, args, below, meth, c, A, Q⟩ := X
  intro ls H locs hl hP hD hS
  exact lv_if_le hX.1 hX.2.1 hd ht (fun h => kt h ls H locs hl hP hD hS) (fun h => kf h ls H locs hl hP hD hS)
theorem G_icmp_le_z (hX : Ok E X own nm cc nL ret rm) {x y : Int} {off : Int} {tgt : Nat} (hd : decode cc pc = .ok (.if_icmp .le off, 3)) (ht : (pc : Int) + off = (tgt : Int)) (hb : -2147483648 ≤ x ∧ x < 2147483648 ∧ -2147483648 ≤ y ∧ y < 2147483648) (kt : x ≤ y → G E X k n tgt lv st ws) (kf : y < x → G E X k n (pc + 3) lv st ws) : G E X k n pc lv (.int (zI y) :: .int (zI x) :: st) ws := by
  have e := zI_le hb
  refine G_icmp_le hX hd ht (fun h => kt ?_) (fun h => kf ?_)
  · rw [e] at h; omega
  · rw [e] at h; omega
theorem G_if_le_z (hX : Ok E X own nm cc nL ret rm) {x : Int} {off : Int} {tgt : Nat} (hd : decode cc pc = .ok (.ifCond .le off, 3)) (ht : (pc : Int) + off = (tgt : Int)) (hb : -2147483648 ≤ x ∧ x < 2147483648) (kt : x ≤ 0 → G E X k n tgt lv st ws) (kf : 0 < x → G E X k n (pc + 3) lv st ws) : G E X k n pc lv (.int (zI x) :: st) ws := by
  have hb : -2147483648 ≤ x ∧ x < 2147483648 ∧ -2147483648 ≤ (0 : Int) ∧ (0 : Int) < 2147483648 := ⟨hb.1, hb.2, by omega, by omega⟩
  have e := zI_le hb
  rw [zI_0] at e
  refine G_if_le hX hd ht (fun h => kt ?_) (fun h => kf ?_)
  · rw [e] at h; omega
  · rw [e] at h; omega
theorem G_goto (hX : Ok E X own nm cc nL ret rm) {off : Int} {tgt : Nat} (hd : decode cc pc = .ok (.goto off, 3)) (ht : (pc : Int) + off = (tgt : Int)) (kk : G E X k n tgt lv st ws) : G E X k n pc lv st ws := by
  obtain ⟨p, l, e, R, s, m, args, below, meth, c, A, Q⟩ := X
  intro ls H locs hl hP hD hS
  exact lv_goto hX.1 hX.2.1 hd ht (kk ls H locs hl hP hD hS)
theorem G_tblOut (hX : Ok E X own nm cc nL ret rm) {dflt lo hi : Int} {offs : Array Int} {len : Nat} {x : Int32} {tgt : Nat} (hd : decode cc pc = .ok (.tableswitch dflt lo hi offs, len)) (h : x.toInt < lo ∨ hi < x.toInt) (ht : (pc : Int) + dflt = (tgt : Int)) (kk : G E X k n tgt lv st ws) : G E X k n pc lv (.int x :: st) ws := by
  obtain ⟨p, l, e, R, s, m, args, below, meth, c, A, Q⟩ := X
  intro ls H locs hl hP hD hS
  exact lv_tableOut hX.1 hX.2.1 hd h ht (kk ls H locs hl hP hD hS)
theorem G_tblIn (hX : Ok E X own nm cc nL ret rm) {dflt lo hi : Int} {offs : Array Int} {len : Nat} {x : Int32} {off : Int} {tgt : Nat} (hd : decode cc pc = .ok (.tableswitch dflt lo hi offs, len)) (h1 : ¬ x.toInt < lo) (h2 : ¬ hi < x.toInt) (ho : offs[(x.toInt - lo).toNat]? = some off) (ht : (pc : Int) + off = (tgt : Int)) (kk : G E X k n tgt lv st ws) : G E X k n pc lv (.int x :: st) ws := by
  obtain ⟨p, l, e, R, s, m, args, below, meth, c, A, Q⟩ := X
  intro ls H locs hl hP hD hS
  exact lv_tableIn hX.1 hX.2.1 hd h1 h2 ho ht (kk ls H locs hl hP hD hS)
theorem G_cast {pc' : Nat} {st' : List Value} {ws' : va_W} (h : G E X k n pc' lv' st' ws') (e1 : pc = pc') (e2 : lv = lv') (e3 : st = st') (e4 : ws = ws') : G E X k n pc lv st ws := by
  subst e1; subst e2; subst e3; subst e4; exact h
/-- fewer locals, in any order -/
theorem G_loc (ks : List Nat) (e0 : lv_pick lv ks = lv') (h : G E X k n pc lv' st ws) : G E X k n pc lv st ws := by
  obtain ⟨p, l, e, R, s, m, args, below, meth, c, A, Q⟩ := X
  intro ls H locs hl hP hD hS
  exact h ls H locs (lv_sub hl ks e0) hP hD hS
theorem G_iret (hX : Ok E X own nm cc nL (some .int) rm) {Qp : Option Value → va_W → Prop} (hE : En E X Qp k n) {x : Int32} (hd : decode cc pc = .ok (.ireturn, 1)) (hq : Qp (some (.int x)) ws) : G E X k n pc lv [.int x] ws := by
  obtain ⟨p, l, e, R, s, m, args, below, meth, c, A, Q⟩ := X
  obtain ⟨hx, hb, hml, hown, hts, hr, hlo, hR, hK, hN, hT, hA, hnm⟩ := hX
  intro ls H locs hl hP hD hS
  have hE : Q = MQ below (QQ E A Qp) args s k n A := hE
  subst hE
  exact W.iret hx hb hr (fun t ht hW => ⟨⟨_, ws, rfl, hq, by rw [ht]; exact hP, hD⟩, hS.F ht⟩) hS.2.2 hd hlo
theorem G_zret (hX : Ok E X own nm cc nL (some .boolean) rm) {Qp : Option Value → va_W → Prop} (hE : En E X Qp k n) {x : Int32} (hn : narrow .boolean (.int x) = .int x) (hd : decode cc pc = .ok (.ireturn, 1)) (hq : Qp (some (.int x)) ws) : G E X k n pc lv [.int x] ws := by
  obtain ⟨p, l, e, R, s, m, args, below, meth, c, A, Q⟩ := X
  obtain ⟨hx, hb, hml, hown, hts, hr, hlo, hR, hK, hN, hT, hA, hnm⟩ := hX
  intro ls H locs hl hP hD hS
  have hE : Q = MQ below (QQ E A Qp) args s k n A := hE
  subst hE
  exact W.zret hx hb hr hn (fun t ht hW => ⟨⟨_, ws, rfl, hq, by rw [ht]; exact hP, hD⟩, hS.F ht⟩) hS.2.2 hd hlo
theorem G_lret (hX : Ok E X own nm cc nL (some .long) rm) {Qp : Option Value → va_W → Prop} (hE : En E X Qp k n) {x : Int64} (hd : decode cc pc = .ok (.lreturn, 1)) (hq : Qp (some (.long x)) ws) : G E X k n pc lv [.long x] ws := by
  obtain ⟨p, l, e, R, s, m, args, below, meth, c, A, Q⟩ := X
  obtain ⟨hx, hb, hml, hown, hts, hr, hlo, hR, hK, hN, hT, hA, hnm⟩ := hX
  intro ls H locs hl hP hD hS
  have hE : Q = MQ below (QQ E A Qp) args s k n A := hE
  subst hE
  exact W.lret hx hb hr (fun t ht hW => ⟨⟨_, ws, rfl, hq, by rw [ht]; exact hP, hD⟩, hS.F ht⟩) hS.2.2 hd hlo
theorem G_vret (hX : Ok E X own nm cc nL none rm) {Qp : Option Value → va_W → Prop} (hE : En E X Qp k n) (hd : decode cc pc = .ok (.return_, 1)) (hq : Qp none ws) : G E X k n pc lv [] ws := by
  obtain ⟨p, l, e, R, s, m, args, below, meth, c, A, Q⟩ := X
  obtain ⟨hx, hb, hml, hown, hts, hr, hlo, hR, hK, hN, hT, hA, hnm⟩ := hX
  intro ls H locs hl hP hD hS
  have hE : Q = MQ below (QQ E A Qp) args s k n A := hE
  subst hE
  exact W.vret hx hb hr (fun t ht hW => ⟨⟨_, ws, rfl, hq, by rw [ht]; exact hP, hD⟩, hS.F ht⟩) hS.2.2 hd hlo
def FG (own : String) (idx ci j : Nat) : Prop := ∃ (C : String) (T : u_T) (N : Nat), cls[ci]? = some (C, T, N) ∧ (∀ w ∈ u_ws C T N, w ∈ lw_tb) ∧ j < N ∧ (T j).1 = C ∧ Cond.fieldLink own idx C (T j).2.1 (T j).2.2.1 ∈ lw_tb
def FP (ci j : Nat) (ty : FieldType) : Prop := ∃ (C : String) (T : u_T) (N : Nat) (ty0 : Nat → FieldType), cls[ci]? = some (C, T, N) ∧ (∀ k, k < N → parseFieldDescriptor (T k).2.2.1 = some (ty0 k)) ∧ (∀ a, a < N → ∀ b, b < N → a ≠ b → (T a).2.1 ≠ (T b).2.1) ∧ (T j).2.2.2 = false ∧ parseFieldDescriptor (T j).2.2.1 = some ty
theorem G_get (hX : Ok E X own nm cc nL ret rm) {idx ci j a : Nat} (hF : FG own idx ci j) (hd : decode cc pc = .ok (.getfield idx, 3)) (q0 : Nat) {fs : List Value} {v : Value} (he : ws[q0]? = some (a, .inr (ci, fs))) (hv : fs[j]? = some v) (kk : G E X k n (pc + 3) lv (v :: st) ws) : G E X k n pc lv (.ref a :: st) ws := by
  obtain ⟨p, l, e, R, s, m, args, below, meth, c, A, Q⟩ := X
  obtain ⟨hx, hb, hml, hown, hts, hr, hlo, hR, hK, hN, hT, hA, hnm⟩ := hX
  obtain ⟨C, T, N, hc, hin, hj, hTj, hlk⟩ := hF
  intro ls H locs hl hP hD hS
  exact va_get hx hb hts hin hown hK hP q0 he hc j hj (hts _ hlk) (fun _ h => by rw [hTj] at h; exact h) hv hd (kk ls H locs hl hP hD hS)
theorem G_put (hX : Ok E X own nm cc nL ret rm) {idx ci j a : Nat} {ty : FieldType} (hF : FG own idx ci j) (hF2 : FP ci j ty) (hd : decode cc pc = .ok (.putfield idx, 3)) (q0 : Nat) {fs : List Value} {v : Value} (he : ws[q0]? = some (a, .inr (ci, fs))) (hn : narrow ty v = v) (hf : fits ty v = true) (hl2 : j < fs.length) (kk : G E X k n (pc + 3) lv st (ws.set q0 (a, .inr (ci, fs.set j v)))) : G E X k n pc lv (v :: .ref a :: st) ws := by
  obtain ⟨p, l, e, R, s, m, args, below, meth, c, A, Q⟩ := X
  obtain ⟨hx, hb, hml, hown, hts, hr, hlo, hR, hK, hN, hT, hA, hnm⟩ := hX
  obtain ⟨C, T, N, hc, hin, hj, hTj, hlk⟩ := hF
  obtain ⟨C', T', N', ty0, hc', hty, hnm2, hfin, hpd⟩ := hF2
  cases hc.symm.trans hc'
  intro ls H locs hl hP hD hS
  exact va_put hx hb hts hin ty0 hty hnm2 hown hK hP hD hS q0 he hc j hj (hts _ hlk) (fun _ h => by rw [hTj] at h; exact h) hfin hpd hn hf hl2 hd (fun H1 locs1 hP1 hD1 hS1 => kk ls H1 locs1 hl hP1 hD1 hS1)
theorem G_iald (hX : Ok E X own nm cc nL ret rm) {a nn : Nat} {f : Nat → Int32} {i : Int32} (hd : decode cc pc = .ok (.iaload, 1)) (q0 : Nat) (he : ws[q0]? = some (a, .inl (eI E, nn, .inl f))) (hi : vp_in i nn) (kk : G E X k n (pc + 1) lv (.int (f i.toNatClampNeg) :: st) ws) : G E X k n pc lv (.int i :: .ref a :: st) ws := by
  obtain ⟨p, l, e, R, s, m, args, below, meth, c, A, Q⟩ := X
  obtain ⟨hx, hb, hml, hown, hts, hr, hlo, hR, hK, hN, hT, hA, hnm⟩ := hX
  intro ls H locs hl hP hD hS
  exact va_iald hx hb hK hP q0 0 he rfl hi hd (kk ls H locs hl hP hD hS)
theorem G_lald (hX : Ok E X own nm cc nL ret rm) {a nn : Nat} {f : Nat → Int64} {i : Int32} (hd : decode cc pc = .ok (.laload, 1)) (q0 : Nat) (he : ws[q0]? = some (a, .inl (eJ E, nn, .inr (.inl f)))) (hi : vp_in i nn) (kk : G E X k n (pc + 1) lv (.long (f i.toNatClampNeg) :: st) ws) : G E X k n pc lv (.int i :: .ref a :: st) ws := by
  obtain ⟨p, l, e, R, s, m, args, below, meth, c, A, Q⟩ := X
  obtain ⟨hx, hb, hml, hown, hts, hr, hlo, hR, hK, hN, hT, hA, hnm⟩ := hX
  intro ls H locs hl hP hD hS
  exact va_lald hx hb hK hP q0 1 he rfl hi hd (kk ls H locs hl hP hD hS)
theorem G_aald (hX : Ok E X own nm cc nL ret rm) {a nn : Nat} {f : Nat → Option Nat} {i : Int32} (hd : decode cc pc = .ok (.aaload, 1)) (q0 : Nat) (he : ws[q0]? = some (a, .inl (eR E, nn, .inr (.inr (.inr (.inr f)))))) (hi : vp_in i nn) (kk : G E X k n (pc + 1) lv (va_rf (f i.toNatClampNeg) :: st) ws) : G E X k n pc lv (.int i :: .ref a :: st) ws := by
  obtain ⟨p, l, e, R, s, m, args, below, meth, c, A, Q⟩ := X
  obtain ⟨hx, hb, hml, hown, hts, hr, hlo, hR, hK, hN, hT, hA, hnm⟩ := hX
  intro ls H locs hl hP hD hS
  exact va_aldq hx hb hK hP q0 2 he rfl hi hd (kk ls H locs hl hP hD hS)
theorem G_iast (hX : Ok E X own nm cc nL ret rm) {a nn : Nat} {f : Nat → Int32} {i x : Int32} (hd : decode cc pc = .ok (.iastore, 1)) (q0 : Nat) (he : ws[q0]? = some (a, .inl (eI E, nn, .inl f))) (hi : vp_in i nn) (kk : G E X k n (pc + 1) lv st (ws.set q0 (a, .inl (eI E, nn, .inl (upd f i.toNatClampNeg x))))) : G E X k n pc lv (.int x :: .int i :: .ref a :: st) ws := by
  obtain ⟨p, l, e, R, s, m, args, below, meth, c, A, Q⟩ := X
  obtain ⟨hx, hb, hml, hown, hts, hr, hlo, hR, hK, hN, hT, hA, hnm⟩ := hX
  intro ls H locs hl hP hD hS
  exact va_iast hx hb hK hP hD hS q0 0 he rfl hi hd (fun H1 locs1 hP1 hD1 hS1 => kk ls H1 locs1 hl hP1 hD1 hS1)
theorem G_last (hX : Ok E X own nm cc nL ret rm) {a nn : Nat} {f : Nat → Int64} {i : Int32} {x : Int64} (hd : decode cc pc = .ok (.lastore, 1)) (q0 : Nat) (he : ws[q0]? = some (a, .inl (eJ E, nn, .inr (.inl f)))) (hi : vp_in i nn) (kk : G E X k n (pc + 1) lv st (ws.set q0 (a, .inl (eJ E, nn, .inr (.inl (vp_updL f i.toNatClampNeg x)))))) : G E X k n pc lv (.long x :: .int i :: .ref a :: st) ws := by
  obtain ⟨p, l, e, R, s, m, args, below, meth, c, A, Q⟩ := X
  obtain ⟨hx, hb, hml, hown, hts, hr, hlo, hR, hK, hN, hT, hA, hnm⟩ := hX
  intro ls H locs hl hP hD hS
  exact va_last hx hb hK hP hD hS q0 1 he rfl hi hd (fun H1 locs1 hP1 hD1 hS1 => kk ls H1 locs1 hl hP1 hD1 hS1)
theorem G_alen (hX : Ok E X own nm cc nL ret rm) {a nn : Nat} {f : Nat → Int32} (hd : decode cc pc = .ok (.arraylength, 1)) (q0 : Nat) (he : ws[q0]? = some (a, .inl (eI E, nn, .inl f))) (kk : G E X k n (pc + 1) lv (.int (zI nn) :: st) ws) : G E X k n pc lv (.ref a :: st) ws := by
  obtain ⟨p, l, e, R, s, m, args, below, meth, c, A, Q⟩ := X
  obtain ⟨hx, hb, hml, hown, hts, hr, hlo, hR, hK, hN, hT, hA, hnm⟩ := hX
  intro ls H locs hl hP hD hS
  exact va_alen hx hb hK hP q0 0 he rfl (show Int32.ofNat nn = zI nn from Int32.ofInt_eq_ofNat.symm) hd (kk ls H locs hl hP hD hS)
theorem G_getsK (hX : Ok E X own nm cc nL ret rm) {idx : Nat} (hlk : Cond.fieldLink own idx "DeltaFerry$Digester" "K" "[I" ∈ lw_tb) (hd : decode cc pc = .ok (.getstatic idx, 3)) (kk : G E X k n (pc + 3) lv (.ref (eK E) :: st) ws) : G E X k n pc lv st ws := by
  obtain ⟨p, l, e, R, s, m, args, below, meth, c, A, Q⟩ := X
  obtain ⟨hx, hb, hml, hown, hts, hr, hlo, hR, hK, hN, hT, hA, hnm⟩ := hX
  intro ls H locs hl hP hD hS
  exact va_gets hx hb hT.1 hS hown (hts _ hlk) (fun _ h => h) hd (kk ls H locs hl hP hD hS)
theorem G_getsT (hX : Ok E X own nm cc nL ret rm) {idx : Nat} (hlk : Cond.fieldLink own idx "DeltaFerry$Digester" "TURNS" "[I" ∈ lw_tb) (hd : decode cc pc = .ok (.getstatic idx, 3)) (kk : G E X k n (pc + 3) lv (.ref (eT E) :: st) ws) : G E X k n pc lv st ws := by
  obtain ⟨p, l, e, R, s, m, args, below, meth, c, A, Q⟩ := X
  obtain ⟨hx, hb, hml, hown, hts, hr, hlo, hR, hK, hN, hT, hA, hnm⟩ := hX
  intro ls H locs hl hP hD hS
  exact va_gets hx hb hT.2.2.1 hS hown (hts _ hlk) (fun _ h => h) hd (kk ls H locs hl hP hD hS)
theorem G_tldK (hX : Ok E X own nm cc nL ret rm) {i : Int32} (hi : vp_in i 64) (hd : decode cc pc = .ok (.iaload, 1)) (kk : G E X k n (pc + 1) lv (.int (kt_K.getD i.toNatClampNeg 0) :: st) ws) : G E X k n pc lv (.int i :: .ref (eK E) :: st) ws := by
  obtain ⟨p, l, e, R, s, m, args, below, meth, c, A, Q⟩ := X
  obtain ⟨hx, hb, hml, hown, hts, hr, hlo, hR, hK, hN, hT, hA, hnm⟩ := hX
  intro ls H locs hl hP hD hS
  exact va_ti hx hb hT.2.1 hS hi rfl hd (kk ls H locs hl hP hD hS)
theorem G_tldT (hX : Ok E X own nm cc nL ret rm) {i : Int32} (hi : vp_in i 16) (hd : decode cc pc = .ok (.iaload, 1)) (kk : G E X k n (pc + 1) lv (.int (kt_T.getD i.toNatClampNeg 0) :: st) ws) : G E X k n pc lv (.int i :: .ref (eT E) :: st) ws := by
  obtain ⟨p, l, e, R, s, m, args, below, meth, c, A, Q⟩ := X
  obtain ⟨hx, hb, hml, hown, hts, hr, hlo, hR, hK, hN, hT, hA, hnm⟩ := hX
  intro ls H locs hl hP hD hS
  exact va_ti hx hb hT.2.2.2 hS hi rfl hd (kk ls H locs hl hP hD hS)
theorem G_min (hX : Ok E X own nm cc nL ret rm) {idx : Nat} {x y : Int32} (hlk : Cond.methodLink own idx Lib.Math.min.name ∈ lw_tb) (hs : Cond.static Lib.Math.min.name ∈ lw_tb) (hi : Cond.initialized "java/lang/Math" ∈ lw_tb) (hc : Cond.code Lib.Math.min.name Lib.Math.min.code 2 (some .int) ∈ lw_tb) (hf : 1 ≤ rm.frames) (hw : (st.map fun v => v.category).sum + 13 ≤ rm.locals) (h1 : k ≤ rm.cells) (h2 : n ≤ rm.slots) (hd : decode cc pc = .ok (.invokestatic idx, 3)) (kk : G E X k n (pc + 3) lv (.int (if y < x then y else x) :: st) ws) : G E X k n pc lv (.int y :: .int x :: st) ws := by
  obtain ⟨p, l, e, R, s, m, args, below, meth, c, A, Q⟩ := X
  obtain ⟨hx, hb, hml, hown, hts, hr, hlo, hR, hK, hN, hT, hA, hnm⟩ := hX
  subst hR
  intro ls H locs hl hP hD hS
  exact va_mmin hx hb hl.1.symm hown (hts _ hlk) (hts _ hs) (hts _ hi) (hts _ hc) hf hw h1 h2 hd (kk ls H locs hl hP hD hS)
theorem G_acopy (hX : Ok E X own nm cc nL ret rm) {idx : Nat} {sp dp cn : Int32} {a0 a n0 n1 : Nat} {f g : Nat → Int32} (hlk : Cond.methodLink own idx arraycopyName ∈ lw_tb) (hn : Cond.native arraycopyName ∈ lw_tb) (hs : Cond.static arraycopyName ∈ lw_tb) (hi : Cond.initialized "java/lang/System" ∈ lw_tb) (hd : decode cc pc = .ok (.invokestatic idx, 3)) (q0 q1 : Nat) (he0 : ws[q0]? = some (a0, .inl (eI E, n0, .inl f))) (he1 : ws[q1]? = some (a, .inl (eI E, n1, .inl g)))
    (h1 : ¬ sp < 0) (h2 : ¬ dp < 0) (h3 : ¬ cn < 0) (h4 : sp.toNatClampNeg + cn.toNatClampNeg ≤ n0) (h5 : dp.toNatClampNeg + cn.toNatClampNeg ≤ n1) (hf : 1 ≤ rm.frames) (hw : (st.map fun v => v.category).sum + (nativeFrameWords "java/lang/System" "arraycopy" 5 + 11) ≤ rm.locals)
    (kk : G E X k n (pc + 3) lv st (ws.set q1 (a, .inl (eI E, n1, .inl (va_cpy f g sp.toNatClampNeg dp.toNatClampNeg cn.toNatClampNeg))))) : G E X k n pc lv (.int cn :: .int dp :: .ref a :: .int sp :: .ref a0 :: st) ws := by
  obtain ⟨p, l, e, R, s, m, args, below, meth, c, A, Q⟩ := X
  obtain ⟨hx, hb, hml, hown, hts, hr, hlo, hR, hK, hN, hT, hA, hnm⟩ := hX
  subst hR
  intro ls H locs hl hP hD hS
  exact va_copyi hx hb hl.1.symm hown (hts _ hlk) (hts _ hn) (hts _ hs) (hts _ hi) hK hP hD hS q0 q1 0 0 he0 he1 rfl rfl rfl h1 h2 h3 h4 h5 (fun _ _ => rfl) hf hw hd (fun H1 locs1 hP1 hD1 hS1 => kk ls H1 locs1 hl hP1 hD1 hS1)
end RULES2
