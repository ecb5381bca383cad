/-! Contracts over the world, and the rows that use them. -/
def sl_tys (cy : Nat → ClassId) : List (ClassId × FieldType) := [(cy 0, .int), (cy 1, .object "SharedLog$Client"), (cy 2, .object "SharedLog$Unit")]
/-- the words of the nest: (own, index, ref, name, descriptor), host SharedLog -/
def sl_nf : List (Nat × String × String × String) := [(40, "SharedLog$Client", "kind", "I"), (44, "SharedLog$Client", "content", "I"), (55, "SharedLog$Client", "position", "I"), (65, "SharedLog$Client", "upto", "I"), (68, "SharedLog$Client", "sum", "I"), (75, "SharedLog$Client", "members", "I"), (78, "SharedLog$Client", "survivors", "I"), (81, "SharedLog$Client", "greatestEnd", "I"), (84, "SharedLog$Client", "route", "I"), (98, "SharedLog$Unit", "up", "Z"), (102, "SharedLog$Unit", "epoch", "I"), (119, "SharedLog$Client", "epoch", "I"), (120, "SharedLog$Client", "outcome", "I"), (123, "SharedLog$Client", "number", "I")]
def sl_nm : List (String × Nat × MethodName) := [(RX2, 34, yX1_init), (RX2, 35, yX0_init), (RX2, 47, yX0_begin), (RX2, 58, yX0_chainOf), (RX2, 71, yX0_replayRoute), (RX2, 105, yX0_newestEpochItBears), (RX2, 108, yX0_end), (RX2, 126, yX1_contentAt), (RX2, 150, yX0_isAtHead), (RX2, 154, yX1_writeOnce), (RX2, 158, yX0_goAlongChain), (RX2, 161, yX1_endOfWritten), (RX0, 52, yX2_highestOf), (RX0, 55, yX2_withoutLowest), (RX1, 23, yX2_isPosition)]
def sl_N (U : State) : Prop := (∀ q ∈ sl_nf, va_Nw (.fieldLinkNest RX2 q.1 q.2.1 q.2.2.1 q.2.2.2 "SharedLog") U) ∧ ∀ q ∈ sl_nm, va_Nw (.methodLinkNest q.1 q.2.1 q.2.2 "SharedLog") U
theorem sl_N.warm {s U : State} (h : sl_N s) (hW : s.WarmedH U.vm) : sl_N U := ⟨fun q hq => va_Nw.warmF hW (h.1 q hq), fun q hq => va_Nw.warmM hW (h.2 q hq)⟩
theorem sl_N.same {s U : State} (h : sl_N s) (e : s.vm = U.vm) : sl_N U := ⟨fun q hq => va_Nw.same rfl e (h.1 q hq), fun q hq => va_Nw.same rfl e (h.2 q hq)⟩
/-- a field of a nest mate, by its place -/
theorem sl_N.f {s : State} {args : Array Value} (h : sl_N s) (n : Nat) {q : Nat × String × String × String} (hq : sl_nf[n]? = some q) : (Cond.fieldLinkNest RX2 q.1 q.2.1 q.2.2.1 q.2.2.2 "SharedLog").before args s = true := va_Nw.use rfl (h.1 q (List.mem_of_getElem? hq))
theorem sl_N.m {s : State} (h : sl_N s) (n : Nat) {q : String × Nat × MethodName} (hq : sl_nm[n]? = some q) : va_Nw (.methodLinkNest q.1 q.2.1 q.2.2 "SharedLog") s := h.2 q (List.mem_of_getElem? hq)
def sl_Pre (G : va_G) (cy : Nat → ClassId) (ad : Nat → Nat) (σ τ : sl_M) (U : State) : Prop := va_P G vwCl (sl_wd cy ad σ τ) U.heap ∧ va_K G vwCl (sl_tys cy) U ∧ va_D (fun _ => True) (sl_wd cy ad σ τ) ∧ sl_N U
def sl_A (ad : Nat → Nat) (sz : Nat) : Nat → Prop := fun q => (∃ k, k < 33 ∧ q = ad k) ∨ sz ≤ q
theorem sl_A.mono {ad : Nat → Nat} {a b q : Nat} (h : a ≤ b) (hq : sl_A ad b q) : sl_A ad a q := hq.elim Or.inl (fun g => Or.inr (Nat.le_trans h g))
def sl_Q (G : va_G) (cy : Nat → ClassId) (ad : Nat → Nat) (v : Option Value) (σ' τ' : sl_M) (sz : Nat) : Array Value → State → Outcome → State → Prop := fun _ st oc t => (oc = .returned v ∧ va_P G vwCl (sl_wd cy ad σ' τ') t.heap) ∧ va_F (sl_A ad sz) st t
/-- a contract: from the world of σ, τ the method returns v and leaves the world of σ', τ' -/
def sl_C (l : Launch) (G : va_G) (cy : Nat → ClassId) (ad : Nat → Nat) (y : MethodName) (ws : List Cond) (rm : Room) (av : List Value) (σ τ : sl_M) (v : Option Value) (σ' τ' : sl_M) : Prop := ∀ sz, Met l y ws rm (va_Pc av (fun U => U.heap.size = sz ∧ sl_Pre G cy ad σ τ U)) (sl_Q G cy ad v σ' τ' sz) 0 0 (sl_A ad sz)
theorem sl_D1 {cy : Nat → ClassId} {ad : Nat → Nat} {σ τ σ1 τ1 : sl_M} {A : Nat → Prop} {sz : Nat} (h : va_D A (sl_wd cy ad σ τ)) : va_D (sl_A ad sz) (sl_wd cy ad σ1 τ1) := by
  refine ⟨fun i j p q hp hq e => ?_, fun k q hq => ?_⟩
  · obtain ⟨hi, rfl⟩ := sl_wd_of hp
    obtain ⟨hj, rfl⟩ := sl_wd_of hq
    exact h.1 i j _ _ (sl_wd_at hi) (sl_wd_at hj) e
  · obtain ⟨hk, rfl⟩ := sl_wd_of hq
    exact Or.inl ⟨k, hk, rfl⟩
theorem sl_blind {G : va_G} {cy : Nat → ClassId} {ad : Nat → Nat} {σ τ : sl_M} {av : List Value} {sz : Nat} : FrameBlind (va_Pc av (fun U => U.heap.size = sz ∧ sl_Pre G cy ad σ τ U)) := fun a U g mk q => by
  obtain ⟨q0, q1, qP, qK, qD, qN⟩ := q
  exact ⟨q0, q1, qP, va_K.moved (u := U) (U := U.calling g mk a) (Vm.Alike.refl U.vm) qK, qD, qN.same rfl⟩
abbrev sl_Z (G : va_G) (cy : Nat → ClassId) (ad : Nat → Nat) (v : Option Value) (σ' τ' : sl_M) (av : List Value) (below : List Frame) (s : State) : State → Prop := MQ below (sl_Q G cy ad v σ' τ' s.heap.size) av.toArray s 0 0 (sl_A ad s.heap.size)
theorem sl_of {l : Launch} {G : va_G} {cy : Nat → ClassId} {ad : Nat → Nat} {y : MethodName} {ws ws' : List Cond} {rm : Room} {av : List Value} {σ τ σ' τ' : sl_M} {v : Option Value} {cc : ByteArray} {maxL : Nat} {ret : Option FieldType} (hy : plainName y.cls = true) (hw : ws = Cond.code y cc maxL ret :: ws') (hlen : (lg_sl av).length ≤ maxL)
    (body : ∀ (p : Program) (e : Env) (s : State) (m : MethodId) (below : List Frame) (meth : Method) (c : Code), p.tables.exec = Jvm.exec → c.code = cc → meth.sig.returnType = ret → c.maxLocals = maxL → (∀ w ∈ ws, w.before av.toArray s = true) → s.vm.findClass y.cls = some m.cls → meth.locks = false → va_K G vwCl (sl_tys cy) s → sl_N s → (∀ σ1 τ1, va_D (sl_A ad s.heap.size) (sl_wd cy ad σ1 τ1)) → va_P G vwCl (sl_wd cy ad σ τ) s.heap → va_S (sl_A ad s.heap.size) s.heap s.heap [] → ∀ ls, lv_has ls maxL (lv_args 0 av) → W p l e rm s m av.toArray below meth c s.heap [] 0 0 (sl_Z G cy ad v σ' τ' av below s) (F0 m 0 ls [])) : sl_C l G cy ad y ws rm av σ τ v σ' τ' := by
  intro sz
  refine Met.ofW (cc := cc) (maxL := maxL) (ret := ret) hy hw ?_
  intro p e s m args below meth c s₁ B hml hv
  obtain ⟨rfl, rfl, hP, hK, hD, hN⟩ := hv
  have hl := lv_entry av (n := maxL) hlen
  rw [lg_entry_eq]
  exact body p e s m below meth c B.exec B.bytes B.returns hml (atoms_spec (ws := ws) B.pre) (findClass_of_methodNamed B.named) B.notSynchronized hK hN (fun σ1 τ1 => sl_D1 hD) hP va_S.rf _ hl
section SLR
variable {p : Program} {l : Launch} {e : Env} {R : Room} {s : State} {m : MethodId} {args : Array Value} {below : List Frame} {meth : Method} {c : Code} {H : Heap} {locs : List Loc} {cells slots : Nat} {Q : State → Prop}
variable {G : va_G} {cy : Nat → ClassId} {ad : Nat → Nat} {σ τ σ' τ' : sl_M} {v : Option Value} {pc : Nat} {ls : Array Slot} {rest st0 : List Value} {a : Array Value} {cc : ByteArray}
theorem sl_go (hr : va_Run p l e R s m args below meth c H locs cells slots 0 0 (F0 m pc ls st0) rest (sl_Q G cy ad v σ' τ' H.size a) (sl_A ad H.size)) (hS : va_S (sl_A ad s.heap.size) s.heap H locs)
    (kk : ∀ (H1 : Heap) (locs1 : List Loc), va_P G vwCl (sl_wd cy ad σ' τ') H1 → va_S (sl_A ad s.heap.size) s.heap H1 locs1 → W p l e R s m args below meth c H1 locs1 cells slots Q (F0 m (pc + 3) ls (v.toList ++ rest))) : W p l e R s m args below meth c H locs cells slots Q (F0 m pc ls st0) := by
  intro T hT X
  obtain ⟨v', st₀, t, T', L, h0, X', hL, e1, e2, ⟨⟨hv, hb⟩, hz, hk⟩, st⟩ := hr T hT X
  cases hv
  rw [h0] at hz hk
  obtain ⟨t2, a1, b1⟩ := kk T'.heap (locs ++ L) (by rw [e1]; exact hb)
    ⟨Nat.le_trans hS.1 (by rw [e1]; exact hz), fun q h1 h2 => by rw [e1, hk q (Nat.lt_of_lt_of_le h1 hS.1) (fun z => h2 (z.mono hS.1))]; exact hS.2.1 q h1 h2, fun q hq => by
      rcases List.mem_append.mp hq with h | h
      · exact hS.2.2 q h
      · exact (hL q h).mono hS.1⟩ T' rfl X'
  exact ⟨t2, st t2 a1, b1⟩
variable {y : MethodName} {bytes : ByteArray} {maxL nL n index : Nat} {ret : Option FieldType} {ws ws' : List Cond} {rm : Room} {Ts : List Cond} {own C : String} {b : Addr} {As : List Value}
theorem sl_pre {av : List Value} (hK : va_K G vwCl (sl_tys cy) s) (hN : sl_N s) (hD : ∀ σ1 τ1, va_D (sl_A ad s.heap.size) (sl_wd cy ad σ1 τ1)) (hP : va_P G vwCl (sl_wd cy ad σ τ) H) : ∀ U : State, U.heap = H → s.WarmedH U.vm → va_Pc av (fun U => U.heap.size = H.size ∧ sl_Pre G cy ad σ τ U) av.toArray U := fun U hU hW => ⟨rfl, by rw [hU], by rw [hU]; exact hP, va_K.moved hW.alike hK, (hD σ τ).weaken (fun _ _ _ _ => trivial), hN.warm hW⟩
/-- a virtual call -/
theorem sl_cV (S : CallFix p m c cc nL s args Ts own) (hM : sl_C l G cy ad y ws rm (.ref b :: As) σ τ v σ' τ') (hg : GoodIn Ts (wsV own index C y ws)) (hw : ws = Cond.code y bytes maxL ret :: ws') (hr0 : rm.cells = 0) (hr1 : rm.slots = 0)
    (hd : y.cls = C ∧ y.cls ≠ "java/lang/invoke/MethodHandle" ∧ y.cls ≠ "java/lang/invoke/VarHandle" ∧ (parseMethodDescriptor y.desc).map (fun d => d.parameters.length) = some n) (hR : rm.frames + 1 ≤ R.frames ∧ 8 + (maxL + 11) + rm.locals ≤ R.locals)
    (hrecv : ∃ cell : Cell, H[b]? = some cell ∧ cell.vm.isStatics = false ∧ s.vm.findClass C = some cell.cls) (hn : As.length = n) (hsize : ls.size = nL) (hstack : st0 = As.reverse ++ .ref b :: rest) (hW : (rest.map fun v => v.category).sum ≤ 8) (hdg : decode cc pc = .ok (.invokevirtual index, 3)) (hf : cells ≤ R.cells ∧ slots ≤ R.slots)
    (hK : va_K G vwCl (sl_tys cy) s) (hN : sl_N s) (hD : ∀ σ1 τ1, va_D (sl_A ad s.heap.size) (sl_wd cy ad σ1 τ1)) (hP : va_P G vwCl (sl_wd cy ad σ τ) H) (hS : va_S (sl_A ad s.heap.size) s.heap H locs)
    (kk : ∀ (H1 : Heap) (locs1 : List Loc), va_P G vwCl (sl_wd cy ad σ' τ') H1 → va_S (sl_A ad s.heap.size) s.heap H1 locs1 → W p l e R s m args below meth c H1 locs1 cells slots Q (F0 m (pc + 3) ls (v.toList ++ rest))) : W p l e R s m args below meth c H locs cells slots Q (F0 m pc ls st0) :=
  sl_go (va_runV S (hM H.size) (cwV n S.2.2.2.2 hg hw hr0 hr1 hd hR) ⟨sl_blind, hrecv, sl_pre hK hN hD hP⟩ rfl hn hsize hstack (lv_room hW) hdg ⟨hf.1, hf.2⟩) hS kk
/-- a static call -/
theorem sl_cS (S : CallFix p m c cc nL s args Ts own) (hM : sl_C l G cy ad y ws rm As σ τ v σ' τ') (hg : GoodIn Ts (va_wsS own index y ws)) (hw : ws = Cond.code y bytes maxL ret :: ws') (hr0 : rm.cells = 0) (hr1 : rm.slots = 0)
    (hd : y.cls ≠ "java/lang/invoke/MethodHandle" ∧ y.cls ≠ "java/lang/invoke/VarHandle" ∧ (parseMethodDescriptor y.desc).map (fun d => d.parameters.length) = some n) (hR : rm.frames + 1 ≤ R.frames ∧ 8 + (maxL + 11) + rm.locals ≤ R.locals)
    (hn : As.length = n) (hsize : ls.size = nL) (hstack : st0 = As.reverse ++ rest) (hW : (rest.map fun v => v.category).sum ≤ 8) (hdg : decode cc pc = .ok (.invokestatic index, 3)) (hf : cells ≤ R.cells ∧ slots ≤ R.slots)
    (hK : va_K G vwCl (sl_tys cy) s) (hN : sl_N s) (hD : ∀ σ1 τ1, va_D (sl_A ad s.heap.size) (sl_wd cy ad σ1 τ1)) (hP : va_P G vwCl (sl_wd cy ad σ τ) H) (hS : va_S (sl_A ad s.heap.size) s.heap H locs)
    (kk : ∀ (H1 : Heap) (locs1 : List Loc), va_P G vwCl (sl_wd cy ad σ' τ') H1 → va_S (sl_A ad s.heap.size) s.heap H1 locs1 → W p l e R s m args below meth c H1 locs1 cells slots Q (F0 m (pc + 3) ls (v.toList ++ rest))) : W p l e R s m args below meth c H locs cells slots Q (F0 m pc ls st0) :=
  sl_go (va_runS S (hM H.size) (va_cwS n S.2.2.2.2 hg hw hr0 hr1 hd hR) ⟨sl_blind, sl_pre hK hN hD hP⟩ rfl hn hsize hstack (lv_room hW) hdg ⟨hf.1, hf.2⟩) hS kk
/-- a virtual call of a nest mate's private method -/
theorem sl_nV (S : CallFix p m c cc nL s args Ts own) (hM : sl_C l G cy ad y ws rm (.ref b :: As) σ τ v σ' τ') (hg : GoodIn Ts ws) (hw : ws = Cond.code y bytes maxL ret :: ws') (hr0 : rm.cells = 0) (hr1 : rm.slots = 0) (hl : va_Nw (.methodLinkNest own index y "SharedLog") s) (hini : (Cond.initialized y.cls).before args s = true) (hinst : (Cond.instanceMethod y).before args s = true) (hsel : (Cond.selects C y y).before args s = true)
    (hd : y.cls ≠ "java/lang/invoke/MethodHandle" ∧ y.cls ≠ "java/lang/invoke/VarHandle" ∧ (parseMethodDescriptor y.desc).map (fun d => d.parameters.length) = some n) (hR : rm.frames + 1 ≤ R.frames ∧ 8 + (maxL + 11) + rm.locals ≤ R.locals)
    (hrecv : ∃ cell : Cell, H[b]? = some cell ∧ cell.vm.isStatics = false ∧ s.vm.findClass C = some cell.cls) (hn : As.length = n) (hsize : ls.size = nL) (hstack : st0 = As.reverse ++ .ref b :: rest) (hW : (rest.map fun v => v.category).sum ≤ 8) (hdg : decode cc pc = .ok (.invokevirtual index, 3)) (hf : cells ≤ R.cells ∧ slots ≤ R.slots)
    (hK : va_K G vwCl (sl_tys cy) s) (hN : sl_N s) (hD : ∀ σ1 τ1, va_D (sl_A ad s.heap.size) (sl_wd cy ad σ1 τ1)) (hP : va_P G vwCl (sl_wd cy ad σ τ) H) (hS : va_S (sl_A ad s.heap.size) s.heap H locs)
    (kk : ∀ (H1 : Heap) (locs1 : List Loc), va_P G vwCl (sl_wd cy ad σ' τ') H1 → va_S (sl_A ad s.heap.size) s.heap H1 locs1 → W p l e R s m args below meth c H1 locs1 cells slots Q (F0 m (pc + 3) ls (v.toList ++ rest))) : W p l e R s m args below meth c H locs cells slots Q (F0 m pc ls st0) :=
  sl_go (va_runVN S (hM H.size) ⟨va_cnB n S.2.2.2.2 hg hw hr0 hr1 hl hini hd hR, hinst, hsel⟩ ⟨sl_blind, hrecv, sl_pre hK hN hD hP⟩ rfl hn hsize hstack (lv_room hW) hdg ⟨hf.1, hf.2⟩) hS kk
/-- a static call of a nest mate's private method -/
theorem sl_nS (S : CallFix p m c cc nL s args Ts own) (hM : sl_C l G cy ad y ws rm As σ τ v σ' τ') (hg : GoodIn Ts ws) (hw : ws = Cond.code y bytes maxL ret :: ws') (hr0 : rm.cells = 0) (hr1 : rm.slots = 0) (hl : va_Nw (.methodLinkNest own index y "SharedLog") s) (hini : (Cond.initialized y.cls).before args s = true) (hst : (Cond.static y).before args s = true)
    (hd : y.cls ≠ "java/lang/invoke/MethodHandle" ∧ y.cls ≠ "java/lang/invoke/VarHandle" ∧ (parseMethodDescriptor y.desc).map (fun d => d.parameters.length) = some n) (hR : rm.frames + 1 ≤ R.frames ∧ 8 + (maxL + 11) + rm.locals ≤ R.locals)
    (hn : As.length = n) (hsize : ls.size = nL) (hstack : st0 = As.reverse ++ rest) (hW : (rest.map fun v => v.category).sum ≤ 8) (hdg : decode cc pc = .ok (.invokestatic index, 3)) (hf : cells ≤ R.cells ∧ slots ≤ R.slots)
    (hK : va_K G vwCl (sl_tys cy) s) (hN : sl_N s) (hD : ∀ σ1 τ1, va_D (sl_A ad s.heap.size) (sl_wd cy ad σ1 τ1)) (hP : va_P G vwCl (sl_wd cy ad σ τ) H) (hS : va_S (sl_A ad s.heap.size) s.heap H locs)
    (kk : ∀ (H1 : Heap) (locs1 : List Loc), va_P G vwCl (sl_wd cy ad σ' τ') H1 → va_S (sl_A ad s.heap.size) s.heap H1 locs1 → W p l e R s m args below meth c H1 locs1 cells slots Q (F0 m (pc + 3) ls (v.toList ++ rest))) : W p l e R s m args below meth c H locs cells slots Q (F0 m pc ls st0) :=
  sl_go (va_runSN S (hM H.size) ⟨va_cnB n S.2.2.2.2 hg hw hr0 hr1 hl hini hd hR, hst, trivial⟩ ⟨sl_blind, sl_pre hK hN hD hP⟩ rfl hn hsize hstack (lv_room hW) hdg ⟨hf.1, hf.2⟩) hS kk
variable {i j k f : Nat} {x z : Int32}
abbrev sl_K (p : Program) (l : Launch) (e : Env) (R : Room) (s : State) (m : MethodId) (args : Array Value) (below : List Frame) (meth : Method) (c : Code) (cells slots : Nat) (Q : State → Prop) (G : va_G) (cy : Nat → ClassId) (ad : Nat → Nat) (σ τ : sl_M) (fr : JFrame) : Prop := ∀ (H1 : Heap) (locs1 : List Loc), va_P G vwCl (sl_wd cy ad σ τ) H1 → va_S (sl_A ad s.heap.size) s.heap H1 locs1 → W p l e R s m args below meth c H1 locs1 cells slots Q fr
/-- a client's field, written by the log -/
theorem sl_putCN (hx : p.tables.exec = Jvm.exec) (hb : c.code = cc) (hts : ∀ w ∈ Ts, w.before args s = true) (hin : ∀ w ∈ wsX00, w ∈ Ts) (hown : s.vm.findClass RX2 = some m.cls) (hK : va_K G vwCl (sl_tys cy) s) (hD : ∀ σ1 τ1, va_D (sl_A ad s.heap.size) (sl_wd cy ad σ1 τ1)) (hP : va_P G vwCl (sl_wd cy ad σ τ) H) (hS : va_S (sl_A ad s.heap.size) s.heap H locs) (hi : i < 3) (f : Nat) (hf : f < 12) (hfin : (TX0 f).2.2.2 = false) (hty : parseFieldDescriptor (TX0 f).2.2.1 = some .int) (hlink : (Cond.fieldLinkNest RX2 index (TX0 f).1 (TX0 f).2.1 (TX0 f).2.2.1 "SharedLog").before args s = true) (hdg : decode cc pc = .ok (.putfield index, 3))
    (kk : sl_K p l e R s m args below meth c cells slots Q G cy ad (sl_up σ (3 + i) f x) τ (F0 m (pc + 3) ls rest)) : W p l e R s m args below meth c H locs cells slots Q (F0 m pc ls (.int x :: .ref (ad (3 + i)) :: rest)) :=
  va_putN (ci := 0) (ty := .int) (C := RX0) (T := TX0) (N := 12) hx hb hts hin tyX0 tyX0_ok nmX0 hown hK hP (hD σ τ) hS (3 + i) (sl_aC hi) rfl f hf hlink (fun _ h => h) hfin hty rfl rfl hf hdg (fun H1 locs1 h1 _ h3 => kk H1 locs1 (by rw [← sl_sC hi hf]; exact h1) h3)
/-- a client's field, written by itself -/
theorem sl_putC (hx : p.tables.exec = Jvm.exec) (hb : c.code = cc) (hts : ∀ w ∈ Ts, w.before args s = true) (hin : ∀ w ∈ wsX00, w ∈ Ts) (hown : s.vm.findClass RX0 = some m.cls) (hK : va_K G vwCl (sl_tys cy) s) (hD : ∀ σ1 τ1, va_D (sl_A ad s.heap.size) (sl_wd cy ad σ1 τ1)) (hP : va_P G vwCl (sl_wd cy ad σ τ) H) (hS : va_S (sl_A ad s.heap.size) s.heap H locs) (hi : i < 3) (f : Nat) (hf : f < 12) (hfin : (TX0 f).2.2.2 = false) (hty : parseFieldDescriptor (TX0 f).2.2.1 = some .int) (hlink : (Cond.fieldLink RX0 index (TX0 f).1 (TX0 f).2.1 (TX0 f).2.2.1).before args s = true) (hdg : decode cc pc = .ok (.putfield index, 3))
    (kk : sl_K p l e R s m args below meth c cells slots Q G cy ad (sl_up σ (3 + i) f x) τ (F0 m (pc + 3) ls rest)) : W p l e R s m args below meth c H locs cells slots Q (F0 m pc ls (.int x :: .ref (ad (3 + i)) :: rest)) :=
  va_put (ci := 0) (ty := .int) (C := RX0) (T := TX0) (N := 12) hx hb hts hin tyX0 tyX0_ok nmX0 hown hK hP (hD σ τ) hS (3 + i) (sl_aC hi) rfl f hf hlink (fun _ h => h) hfin hty rfl rfl hf hdg (fun H1 locs1 h1 _ h3 => kk H1 locs1 (by rw [← sl_sC hi hf]; exact h1) h3)
/-- a unit's field, written by the log -/
theorem sl_putUN {ty : FieldType} (hx : p.tables.exec = Jvm.exec) (hb : c.code = cc) (hts : ∀ w ∈ Ts, w.before args s = true) (hin : ∀ w ∈ wsX10, w ∈ Ts) (hown : s.vm.findClass RX2 = some m.cls) (hK : va_K G vwCl (sl_tys cy) s) (hD : ∀ σ1 τ1, va_D (sl_A ad s.heap.size) (sl_wd cy ad σ1 τ1)) (hP : va_P G vwCl (sl_wd cy ad σ τ) H) (hS : va_S (sl_A ad s.heap.size) s.heap H locs) (hj : j < 6) (f : Nat) (hf : f < 2) (hfin : (TX1 f).2.2.2 = false) (hty : parseFieldDescriptor (TX1 f).2.2.1 = some ty) (hnar : narrow ty (.int x) = .int x) (hfit : fits ty (.int x) = true) (hlink : (Cond.fieldLinkNest RX2 index (TX1 f).1 (TX1 f).2.1 (TX1 f).2.2.1 "SharedLog").before args s = true) (hdg : decode cc pc = .ok (.putfield index, 3))
    (kk : sl_K p l e R s m args below meth c cells slots Q G cy ad (sl_up σ (6 + j) f x) τ (F0 m (pc + 3) ls rest)) : W p l e R s m args below meth c H locs cells slots Q (F0 m pc ls (.int x :: .ref (ad (6 + j)) :: rest)) :=
  va_putN (ci := 1) (ty := ty) (C := RX1) (T := TX1) (N := 3) hx hb hts hin tyX1 tyX1_ok nmX1 hown hK hP (hD σ τ) hS (6 + j) (sl_aU hj) rfl f (Nat.lt_of_lt_of_le hf (by decide)) hlink (fun _ h => h) hfin hty hnar hfit (by show f < 3; omega) hdg (fun H1 locs1 h1 _ h3 => kk H1 locs1 (by rw [← sl_sU hj hf]; exact h1) h3)
/-- the log's own numbers -/
theorem sl_putL (hx : p.tables.exec = Jvm.exec) (hb : c.code = cc) (hts : ∀ w ∈ Ts, w.before args s = true) (hin : ∀ w ∈ wsX20, w ∈ Ts) (hown : s.vm.findClass RX2 = some m.cls) (hK : va_K G vwCl (sl_tys cy) s) (hD : ∀ σ1 τ1, va_D (sl_A ad s.heap.size) (sl_wd cy ad σ1 τ1)) (hP : va_P G vwCl (sl_wd cy ad σ τ) H) (hS : va_S (sl_A ad s.heap.size) s.heap H locs) (f : Nat) (hf2 : 2 ≤ f) (hf : f < 6) (hfin : (TX2 f).2.2.2 = false) (hty : parseFieldDescriptor (TX2 f).2.2.1 = some .int) (hlink : (Cond.fieldLink RX2 index (TX2 f).1 (TX2 f).2.1 (TX2 f).2.2.1).before args s = true) (hdg : decode cc pc = .ok (.putfield index, 3))
    (kk : sl_K p l e R s m args below meth c cells slots Q G cy ad (sl_up σ 0 f x) τ (F0 m (pc + 3) ls rest)) : W p l e R s m args below meth c H locs cells slots Q (F0 m pc ls (.int x :: .ref (ad 0) :: rest)) :=
  va_put (ci := 2) (ty := .int) (C := RX2) (T := TX2) (N := 6) hx hb hts hin tyX2 tyX2_ok nmX2 hown hK hP (hD σ τ) hS 0 sl_aL rfl f hf hlink (fun _ h => h) hfin hty rfl rfl hf hdg (fun H1 locs1 h1 _ h3 => kk H1 locs1 (by rw [← sl_sL hf2 hf]; exact h1) h3)
/-- the model's own numbers -/
theorem sl_putM (hx : p.tables.exec = Jvm.exec) (hb : c.code = cc) (hts : ∀ w ∈ Ts, w.before args s = true) (hin : ∀ w ∈ wsX30, w ∈ Ts) (hown : s.vm.findClass RX3 = some m.cls) (hK : va_K G vwCl (sl_tys cy) s) (hD : ∀ σ1 τ1, va_D (sl_A ad s.heap.size) (sl_wd cy ad σ1 τ1)) (hP : va_P G vwCl (sl_wd cy ad σ τ) H) (hS : va_S (sl_A ad s.heap.size) s.heap H locs) (f : Nat) (hf2 : f = 0 ∨ f = 6 ∨ f = 7 ∨ f = 8 ∨ f = 9) (hf : f < 19) (hfin : (TX3 f).2.2.2 = false) (hty : parseFieldDescriptor (TX3 f).2.2.1 = some .int) (hlink : (Cond.fieldLink RX3 index (TX3 f).1 (TX3 f).2.1 (TX3 f).2.2.1).before args s = true) (hdg : decode cc pc = .ok (.putfield index, 3))
    (kk : sl_K p l e R s m args below meth c cells slots Q G cy ad σ (sl_up τ 18 f x) (F0 m (pc + 3) ls rest)) : W p l e R s m args below meth c H locs cells slots Q (F0 m pc ls (.int x :: .ref (ad 18) :: rest)) :=
  va_put (ci := 3) (ty := .int) (C := RX3) (T := TX3) (N := 19) hx hb hts hin tyX3 tyX3_ok nmX3 hown hK hP (hD σ τ) hS 18 sl_aM rfl f hf hlink (fun _ h => h) hfin hty rfl rfl hf hdg (fun H1 locs1 h1 _ h3 => kk H1 locs1 (by rw [← sl_sM hf2]; exact h1) h3)
/-- a unit's cells -/
theorem sl_ldA (hx : p.tables.exec = Jvm.exec) (hb : c.code = cc) (hK : va_K G vwCl (sl_tys cy) s) (hP : va_P G vwCl (sl_wd cy ad σ τ) H) (hj : j < 6) (hin : vp_in x 32) (hdg : decode cc pc = .ok (.iaload, 1))
    (kk : W p l e R s m args below meth c H locs cells slots Q (F0 m (pc + 1) ls (.int (σ (6 + j + 6) x.toNatClampNeg) :: rest))) : W p l e R s m args below meth c H locs cells slots Q (F0 m pc ls (.int x :: .ref (ad (6 + j + 6)) :: rest)) := va_iald hx hb hK hP (6 + j + 6) 0 (sl_aA hj) rfl hin hdg kk
theorem sl_stA (hx : p.tables.exec = Jvm.exec) (hb : c.code = cc) (hK : va_K G vwCl (sl_tys cy) s) (hD : ∀ σ1 τ1, va_D (sl_A ad s.heap.size) (sl_wd cy ad σ1 τ1)) (hP : va_P G vwCl (sl_wd cy ad σ τ) H) (hS : va_S (sl_A ad s.heap.size) s.heap H locs) (hj : j < 6) (hin : vp_in x 32) (hdg : decode cc pc = .ok (.iastore, 1))
    (kk : sl_K p l e R s m args below meth c cells slots Q G cy ad (sl_up σ (6 + j + 6) x.toNatClampNeg z) τ (F0 m (pc + 1) ls rest)) : W p l e R s m args below meth c H locs cells slots Q (F0 m pc ls (.int z :: .int x :: .ref (ad (6 + j + 6)) :: rest)) := va_iast hx hb hK hP (hD σ τ) hS (6 + j + 6) 0 (sl_aA hj) rfl hin hdg (fun H1 locs1 h1 _ h3 => kk H1 locs1 (by rw [← sl_sA hj]; exact h1) h3)
/-- the model's arrays -/
theorem sl_ldR (k : Nat) (n : Nat) (hx : p.tables.exec = Jvm.exec) (hb : c.code = cc) (hK : va_K G vwCl (sl_tys cy) s) (hP : va_P G vwCl (sl_wd cy ad σ τ) H) (h1 : 18 < k) (h2 : k < 33) (hn : sl_len k = n) (hin : vp_in x n) (hdg : decode cc pc = .ok (.iaload, 1))
    (kk : W p l e R s m args below meth c H locs cells slots Q (F0 m (pc + 1) ls (.int (τ k x.toNatClampNeg) :: rest))) : W p l e R s m args below meth c H locs cells slots Q (F0 m pc ls (.int x :: .ref (ad k) :: rest)) := va_iald hx hb hK hP k 0 (sl_aR h1 h2 hn) rfl hin hdg kk
theorem sl_stR (k : Nat) (n : Nat) (hx : p.tables.exec = Jvm.exec) (hb : c.code = cc) (hK : va_K G vwCl (sl_tys cy) s) (hD : ∀ σ1 τ1, va_D (sl_A ad s.heap.size) (sl_wd cy ad σ1 τ1)) (hP : va_P G vwCl (sl_wd cy ad σ τ) H) (hS : va_S (sl_A ad s.heap.size) s.heap H locs) (h1 : 18 < k) (h2 : k < 33) (hn : sl_len k = n) (hin : vp_in x n) (hdg : decode cc pc = .ok (.iastore, 1))
    (kk : sl_K p l e R s m args below meth c cells slots Q G cy ad σ (sl_up τ k x.toNatClampNeg z) (F0 m (pc + 1) ls rest)) : W p l e R s m args below meth c H locs cells slots Q (F0 m pc ls (.int z :: .int x :: .ref (ad k) :: rest)) := va_iast hx hb hK hP (hD σ τ) hS k 0 (sl_aR h1 h2 hn) rfl hin hdg (fun H1 locs1 g1 _ g3 => kk H1 locs1 (by rw [← sl_sR h1 h2 hn]; exact g1) g3)
/-- the arrays of clients and of units -/
theorem sl_ldC (hx : p.tables.exec = Jvm.exec) (hb : c.code = cc) (hK : va_K G vwCl (sl_tys cy) s) (hP : va_P G vwCl (sl_wd cy ad σ τ) H) (hin : vp_in x 3) (hdg : decode cc pc = .ok (.aaload, 1))
    (kk : W p l e R s m args below meth c H locs cells slots Q (F0 m (pc + 1) ls (.ref (ad (3 + x.toNatClampNeg)) :: rest))) : W p l e R s m args below meth c H locs cells slots Q (F0 m pc ls (.int x :: .ref (ad 2) :: rest)) := va_aldq (C := "SharedLog$Client") hx hb hK hP 2 1 sl_a2 rfl hin hdg kk
theorem sl_ldU (hx : p.tables.exec = Jvm.exec) (hb : c.code = cc) (hK : va_K G vwCl (sl_tys cy) s) (hP : va_P G vwCl (sl_wd cy ad σ τ) H) (hin : vp_in x 6) (hdg : decode cc pc = .ok (.aaload, 1))
    (kk : W p l e R s m args below meth c H locs cells slots Q (F0 m (pc + 1) ls (.ref (ad (6 + x.toNatClampNeg)) :: rest))) : W p l e R s m args below meth c H locs cells slots Q (F0 m pc ls (.int x :: .ref (ad 1) :: rest)) := va_aldq (C := "SharedLog$Unit") hx hb hK hP 1 2 sl_a1 rfl hin hdg kk
end SLR
section SLE
variable {p : Program} {l : Launch} {e : Env} {R : Room} {s : State} {m : MethodId} {below : List Frame} {meth : Method} {c : Code} {H : Heap} {locs : List Loc} {G : va_G} {cy : Nat → ClassId} {ad : Nat → Nat} {σ τ σ' τ' : sl_M} {v : Option Value} {pc : Nat} {ls : Array Slot} {cc : ByteArray} {av : List Value}
theorem sl_iret {r : Int32} (hx : p.tables.exec = Jvm.exec) (hb : c.code = cc) (hr : meth.sig.returnType = some .int) (hlocks : meth.locks = false) (hP : va_P G vwCl (sl_wd cy ad σ τ) H) (hS : va_S (sl_A ad s.heap.size) s.heap H locs) (ev : v = some (.int r)) (eσ : σ' = σ) (eτ : τ' = τ) (hdg : decode cc pc = .ok (.ireturn, 1)) : W p l e R s m av.toArray below meth c H locs 0 0 (sl_Z G cy ad v σ' τ' av below s) (F0 m pc ls [.int r]) := by
  subst ev; subst eσ; subst eτ
  exact W.iret hx hb hr (fun t ht hW => ⟨⟨rfl, by rw [ht]; exact hP⟩, hS.F ht⟩) hS.2.2 hdg hlocks
theorem sl_zret {r : Int32} (hx : p.tables.exec = Jvm.exec) (hb : c.code = cc) (hr : meth.sig.returnType = some .boolean) (hlocks : meth.locks = false) (hn : narrow .boolean (.int r) = .int r) (hP : va_P G vwCl (sl_wd cy ad σ τ) H) (hS : va_S (sl_A ad s.heap.size) s.heap H locs) (ev : v = some (.int r)) (eσ : σ' = σ) (eτ : τ' = τ) (hdg : decode cc pc = .ok (.ireturn, 1)) : W p l e R s m av.toArray below meth c H locs 0 0 (sl_Z G cy ad v σ' τ' av below s) (F0 m pc ls [.int r]) := by
  subst ev; subst eσ; subst eτ
  exact W.zret hx hb hr hn (fun t ht hW => ⟨⟨rfl, by rw [ht]; exact hP⟩, hS.F ht⟩) hS.2.2 hdg hlocks
theorem sl_vret (hx : p.tables.exec = Jvm.exec) (hb : c.code = cc) (hr : meth.sig.returnType = none) (hlocks : meth.locks = false) (hP : va_P G vwCl (sl_wd cy ad σ τ) H) (hS : va_S (sl_A ad s.heap.size) s.heap H locs) (ev : v = none) (eσ : σ' = σ) (eτ : τ' = τ) (hdg : decode cc pc = .ok (.return_, 1)) : W p l e R s m av.toArray below meth c H locs 0 0 (sl_Z G cy ad v σ' τ' av below s) (F0 m pc ls []) := by
  subst ev; subst eσ; subst eτ
  exact W.vret hx hb hr (fun t ht hW => ⟨⟨rfl, by rw [ht]; exact hP⟩, hS.F ht⟩) hS.2.2 hdg hlocks
theorem sl_aret {u : Value} {C : String} (hx : p.tables.exec = Jvm.exec) (hb : c.code = cc) (hr : meth.sig.returnType = some (.object C)) (hlocks : meth.locks = false) (hu : u = .null ∨ ∃ a, u = .ref a) (hP : va_P G vwCl (sl_wd cy ad σ τ) H) (hS : va_S (sl_A ad s.heap.size) s.heap H locs) (ev : v = some u) (eσ : σ' = σ) (eτ : τ' = τ) (hdg : decode cc pc = .ok (.areturn, 1)) : W p l e R s m av.toArray below meth c H locs 0 0 (sl_Z G cy ad v σ' τ' av below s) (F0 m pc ls [u]) := by
  subst ev; subst eσ; subst eτ
  exact W.aret hx hb hr (Or.inl ⟨C, rfl⟩) hu (fun t ht hW => ⟨⟨rfl, by rw [ht]; exact hP⟩, hS.F ht⟩) hS.2.2 hdg hlocks
end SLE
/-! numbers -/
theorem sl_in {x b : Int32} {n : Nat} (h0 : ¬ x < 0) (h1 : ¬ b ≤ x) (hb : b.toInt = n) : vp_in x n := by
  rw [vp_in_iff]
  have a1 : (0 : Int32).toInt ≤ x.toInt := Int32.le_iff_toInt_le.mp (Int32.not_lt.mp h0)
  have a2 : x.toInt < b.toInt := Int32.lt_iff_toInt_lt.mp (Int32.not_le.mp h1)
  have a3 : (0 : Int32).toInt = 0 := rfl
  omega
theorem sl_lt {x : Int32} {n : Nat} (h : vp_in x n) : x.toNatClampNeg < n := Nat.not_le.mp fun q => h (Or.inr q)
theorem sl_i0 {x : Int32} {n : Nat} (h : vp_in x n) : ¬ x < 0 := fun q => h (Or.inl q)
theorem sl_iB {x b : Int32} {n : Nat} (h : vp_in x n) (hb : b.toInt = n) : ¬ b ≤ x := by
  rw [vp_in_iff] at h
  intro q
  have := Int32.le_iff_toInt_le.mp q
  omega
theorem sl_iL {x b : Int32} {n : Nat} (h : vp_in x n) (hb : b.toInt + 1 = n) : x ≤ b := by
  rw [vp_in_iff] at h
  apply Int32.le_iff_toInt_le.mpr
  omega
