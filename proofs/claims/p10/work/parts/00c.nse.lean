section
variable {p : Program} {l : Launch} {e : Env} {R : Room} {s : State} {m₀ : MethodId} {args : Array Value} {below : List Frame} {meth : Method} {c : Code} {W : State} {cells slots : Nat}
def nx_T (own : String) (ic : Nat) (X : String) : List Cond := (Bundle.ownAtoms own ic X []).drop (Bundle.throwableAtoms ++ Bundle.throwableSAtoms ++ Bundle.chainSAtoms X []).length
def nx_A (own : String) (ic ix : Nat) (sx : ByteArray) (X Y : String) (r : List String) : List Cond := Bundle.throwableAtoms ++ (Bundle.throwableSAtoms ++ (Bundle.passSAtoms X Y ix sx ++ (Bundle.chainSAtoms Y r ++ nx_T own ic X)))
def nx_at (own : String) (ic ix : Nat) (sx : ByteArray) (X Y : String) (r : List String) : List Cond := (nx_A own ic ix sx X Y r).filter vx_no
theorem nx_mT {own X Y : String} {ic ix : Nat} {sx : ByteArray} {r : List String} {w : Cond} (h : w ∈ nx_T own ic X) : w ∈ nx_A own ic ix sx X Y r := List.mem_append_right _ (List.mem_append_right _ (List.mem_append_right _ (List.mem_append_right _ h)))
theorem nx_sel (X : Stand p l e R s m₀ args below meth c W [] cells slots) {cls : String} {q : ClassId} {t : MethodName} {k : MethodId} (hf : s.vm.findClass cls = some q) (hn : s.methodNamed? t = some k) (ht : t.cls ≠ "java/lang/invoke/MethodHandle" ∧ t.cls ≠ "java/lang/invoke/VarHandle") (w : (Cond.selects cls t t).before args s = true) : selectMethod e.platform s.vm q k = .method k := by
  have w : (Cond.selects cls t t).holds args s none s [] = true := w
  obtain ⟨i, j, n, f1, f2, f3, f4, -⟩ := Cond.selects_spec w
  have g1 : i = q := Option.some.inj (f1.symm.trans hf)
  have g2 : j = k := Option.some.inj (f2.symm.trans (State.methodFound?_of_named hn ht))
  have g3 : n = k := Option.some.inj (f3.symm.trans hn)
  rw [g1, g2, g3] at f4
  rw [Launch.admits_selectMethod X.admits]
  exact f4
theorem nx_chain {pl : Platform} (hpl : pl.magicAccessors = ({} : Platform).magicAccessors) {T : ThrowableC} {Z : Init0T} (hZ : s.methodNamed? (Bundle.initS Bundle.tN) = some (Z.m T.toThrowableT)) {cls Y9 : String} {r9 : List String} {ix : Nat} {sx : ByteArray} (hcls : Bundle.fit cls = true) (hY9 : Bundle.fit Y9 = true) (hr9 : ∀ n ∈ r9, Bundle.fit n = true) (x0 : decode sx 0 = .ok (.aload_n 0, 1)) (x1 : decode sx 1 = .ok (.aload_n 1, 1)) (x2 : decode sx 2 = .ok (.invokespecial ix, 3)) (x5 : decode sx 5 = .ok (.return_, 1))
    (h1 : ∀ w ∈ Bundle.passSAtoms cls Y9 ix sx, w.before args s = true) (h2 : ∀ w ∈ Bundle.chainSAtoms Y9 r9, w.before args s = true) :
    ∃ (P : PassC) (Ps : List PassC), Ps.length = r9.length + 1 ∧ (∀ Q, Q ∈ P :: Ps → Q.LinksS pl s) ∧ s.methodNamed? (Bundle.initS cls) = some P.m ∧ PassesOn (Z.m T.toThrowableT) ((P :: Ps).map (·.toPassT)) := by
  obtain ⟨P, a1, a2, a3⟩ := PassC.ofS_atoms (args := args) (s := s) hpl (X := cls) (Y := Y9) (Bundle.fit_spec hcls).1 (Bundle.fit_spec hY9).2 x0 x1 x2 x5 h1
  obtain ⟨Q, Qs, b1, b2, b3, b4, b5, b6⟩ := Bundle.chainS (args := args) hpl hZ r9 Y9 hY9 hr9 h2
  refine ⟨P, Q :: Qs, by rw [List.length_cons, b1], fun N hN => ?_, a2, Option.some.inj (a3.symm.trans b4), b5, b6⟩
  rcases List.mem_cons.mp hN with rfl | hN
  · exact a1
  rcases List.mem_cons.mp hN with rfl | hN
  · exact b2
  · exact b3 N hN
theorem nx_base {L : List Loc} {x y : Loc} {a : Nat} {i1 i2 i3 i4 i5 : Nat} (hL : L = [⟨a, i1⟩, ⟨a, i2⟩, ⟨a, i3⟩, ⟨a, i4⟩, ⟨a, i5⟩]) (h : y ∈ L) : y.base = a := by
  subst hL
  simp only [List.mem_cons, List.not_mem_nil, or_false] at h
  rcases h with h | h | h | h | h <;> rw [h]
set_option maxHeartbeats 1000000 in
theorem nx_ctor (X : Stand p l e R s m₀ args below meth c W [] cells slots) (hexec : p.tables.exec = Jvm.exec) (htr : e.platform.stackTraces = false) (hlocks : meth.locks = false) {own cls Y9 : String} {r9 : List String} {ic ix : Nat} {sx : ByteArray}
    (hown : s.vm.findClass own = some m₀.cls) (hcls : Bundle.fit cls = true) (hY9 : Bundle.fit Y9 = true) (hr9 : ∀ n ∈ r9, Bundle.fit n = true) (x0 : decode sx 0 = .ok (.aload_n 0, 1)) (x1 : decode sx 1 = .ok (.aload_n 1, 1)) (x2 : decode sx 2 = .ok (.invokespecial ix, 3)) (x5 : decode sx 5 = .ok (.return_, 1))
    (h : ∀ w ∈ nx_A own ic ix sx cls Y9 r9, w.before args s = true)
    {a sa : Nat} {q : ClassId} {k : Class} (hq : s.vm.findClass cls = some q) (hk : s.vm.classes[q]? = some k) (ha : W.heap[a]? = some (freshCell q k)) (hnew : s.heap.size ≤ a)
    {pc : Nat} {ls : Array Slot} {rest : List Value} (hsize : ls.size = c.maxLocals) (hd6 : decode c.code pc = .ok (.invokespecial ic, 3)) (hd9 : decode c.code (pc + 3) = .ok (.athrow, 1)) (hout : ∀ x ∈ c.exceptionTable.toList, covers x (pc + 3) = false)
    (hRf : r9.length + 4 < R.frames) (hRl : (rest.map fun v => v.category).sum + (13 * (r9.length + 2) + 43) ≤ R.locals) :
    ∃ U : State, Steps p.tables e below (W.setTop { method := m₀, pc := pc, locals := ls, stack := .ref sa :: .ref a :: .ref a :: rest, locked := none }) U ∧ U.status = .running ∧ Ended U below (.threw a) ∧ s.WarmedH U.vm ∧ s.sameButNew ({ U with vm := s.vm } : State) [] cells slots ∧
      ∃ ce, U.heap[a]? = some ce ∧ ce.vm = .none ∧ s.vm.findClass cls = some ce.cls := by
  have hP := X.admits.platform
  have hpl : e.platform.magicAccessors = ({} : Platform).magicAccessors := by rw [hP]
  obtain ⟨T, Z0, L, -, Y⟩ := ThrowableC.of_atoms (args := args) (pl := e.platform) (by rw [hP]) (by rw [hP]) hpl (fun w hw => h w (List.mem_append_left _ hw))
  obtain ⟨Z, M, LZ, LM, hZ⟩ := Init0T.ofS_atoms (args := args) hpl L Y (fun w hw => h w (List.mem_append_right _ (List.mem_append_left _ hw)))
  have h1 : ∀ w ∈ Bundle.passSAtoms cls Y9 ix sx, w.before args s = true := fun w hw => h w (List.mem_append_right _ (List.mem_append_right _ (List.mem_append_left _ hw)))
  obtain ⟨P, Ps, hlen, hL, hPm, hlink⟩ := nx_chain (args := args) hpl hZ hcls hY9 hr9 x0 x1 x2 x5 h1 (fun w hw => h w (List.mem_append_right _ (List.mem_append_right _ (List.mem_append_right _ (List.mem_append_left _ hw)))))
  have hT : ∀ w, w ∈ nx_T own ic cls → w.holds args s none s [] = true := fun w hw => h w (nx_mT hw)
  unfold nx_T Bundle.ownAtoms at hT
  rw [List.drop_left] at hT
  have hPq : P.m.cls = q := Option.some.inj ((findClass_of_methodNamed hPm).symm.trans hq)
  obtain ⟨q2, k2, e1, e2, hord, -⟩ := Cond.instantiable_spec (hT (.instantiable cls 6) (by simp))
  have e3 : q2 = q := Option.some.inj (e1.symm.trans hq)
  rw [e3] at e2
  have e4 : k2 = k := Option.some.inj (e2.symm.trans hk)
  rw [e4] at hord
  have s0 := nx_sel X hq Y.fill0 (by decide) (hT (.selects cls Bundle.tFill0 Bundle.tFill0) (by simp))
  have s1 := nx_sel X hq Y.fill (by decide) (hT (.selects cls Bundle.tFill Bundle.tFill) (by simp))
  obtain ⟨z0, hz0, hzs⟩ := Y.statics
  obtain ⟨u0, hu0⟩ := Cond.staticRefV Y.unassigned L.unassignedStatic L.statics hz0 hzs (hT (.isRef (.static Bundle.tN "UNASSIGNED_STACK" Bundle.steD)) (by simp))
  obtain ⟨u1, hu1⟩ := Cond.staticRefV Y.sentinel L.sentinelStatic L.statics hz0 hzs (hT (.isRef (.static Bundle.tN "SUPPRESSED_SENTINEL" Bundle.listD)) (by simp))
  obtain ⟨z, hz, hzv, -, hzk⟩ := X.same.2.2.2.2.2 T.aS z0 hz0
  have hzu : z.vm ≠ .unknown := fun hu => by
    rw [hzv] at hu
    rw [show z0.vm = .unknown from hu] at hzs
    cases hzs
  have hza : T.aS ≠ a := Nat.ne_of_lt (Nat.lt_of_lt_of_le (Array.getElem?_eq_some_iff.mp hz0).1 hnew)
  obtain ⟨i9, hmf⟩ := Y.msg
  obtain ⟨tc, dc, pc1, pc2⟩ := Cond.laysAt hq hk Y.cause (hT (.lays cls Bundle.tN "cause" "Ljava/lang/Throwable;") (by simp))
  obtain ⟨ts, ds, ps1, ps2⟩ := Cond.laysAt hq hk Y.stack (hT (.lays cls Bundle.tN "stackTrace" Bundle.steD) (by simp))
  obtain ⟨tp, dp, pp1, pp2⟩ := Cond.laysAt hq hk Y.supp (hT (.lays cls Bundle.tN "suppressedExceptions" Bundle.listD) (by simp))
  obtain ⟨tm, -⟩ := Cond.laysAt hq hk hmf (hT (.lays cls Bundle.tN "detailMessage" "Ljava/lang/String;") (by simp))
  obtain ⟨v1, v2, v3, v4, v5, v6, v7, -, v8, v9, v10⟩ := Cond.ownField (t := .object "java/lang/Object") Y.found L.cls (by decide +kernel) (hT (.fieldLink Bundle.tN 198 Bundle.tN "backtrace" "Ljava/lang/Object;") (by simp)) (hT (.lays Bundle.tN Bundle.tN "backtrace" "Ljava/lang/Object;") (by simp)) e.platform hpl
  obtain ⟨tb, db, pb1, pb2⟩ := Cond.laysAt hq hk v10 (hT (.lays cls Bundle.tN "backtrace" "Ljava/lang/Object;") (by simp))
  have w1 := Cond.laysApart pb1 pc1 pb2 pc2 (by rw [v8, Y.causeName]; decide)
  have w2 := Cond.laysApart pb1 ps1 pb2 ps2 (by rw [v8, Y.stackName]; decide)
  have w3 := Cond.laysApart pb1 pp1 pb2 pp2 (by rw [v8, Y.suppName]; decide)
  have hdef : (freshCell q k).slots[v3.slot]? = some (defaultValue v3.type) := fresh_default tb
  rw [v9] at hdef
  have hskip : SkipFacts T e.platform s (fun u => u) u0 ((preparedCellV T.toThrowableT (freshCell q k) a u0 u1).withEntry W.cur) := by
    refine ⟨{ ci198 := v1, i198 := v2, fBack := v3 }, ⟨v4, v5, v6, v7⟩, ?_, fun _ _ => rfl⟩
    simpa [preparedCellV, Cell.setSlot, Cell.withEntry, Array.getElem?_setIfInBounds, w1, w2, w3, w1.symm, w2.symm, w3.symm, defaultValue] using hdef
  obtain ⟨g, hg⟩ : ∃ g : JFrame, g = { method := m₀, pc := pc, locals := ls, stack := .ref sa :: .ref a :: .ref a :: rest, locked := none } := ⟨_, rfl⟩
  rw [← hg]
  have g1 : g.method = m₀ := by rw [hg]
  have g2 : g.pc = pc := by rw [hg]
  obtain ⟨n1, n2, n3, n4, vm1, n5, -, -, -, -, -, -, -, hwarm, go1⟩ := Steps.initColdS (tb := p.tables) (e := e) (below := below) (s := s) (U := W) X.here hexec X.warmed hpl hown (t := Bundle.initS cls) rfl rfl (Bundle.fit_spec hcls).2 (hT (.methodLink own ic (Bundle.initS cls)) (by simp)) (h1 (.instanceMethod (Bundle.initS cls)) (by simp [Bundle.passSAtoms])) (bytes := sx) (maxL := 2) (h1 (.code (Bundle.initS cls) sx 2 none) (by simp [Bundle.passSAtoms])) (f := g) g1 (a := a) (msg := .ref sa) (rest := .ref a :: rest) (by rw [hg]) (by rw [g2]; exact hd6)
  have n6 : n1 = P.m := Option.some.inj (n5.symm.trans hPm)
  have X1 := X.noted hwarm
  have hmr : 2 * g.monitorRoom = 0 := by rw [hg]; rfl
  obtain ⟨vm2, X2, go2⟩ := X1.ctorMessageOffV hexec (g := { g with stack := .ref a :: rest }) g1 (by rw [hg]; exact hsize) T L Z LZ M LM (P :: Ps) hL hlink (u0 := u0) (sen := u1) (self := a) (msg := .ref sa) rfl (cell := freshCell q k) (cellS := z)
    ha (fun _ => by simp) (by simp) rfl rfl s0 s1 hz hza hzu (by rw [hzk _ (fun hm => nomatch hm)]; exact hu0) (by rw [hzk _ (fun hm => nomatch hm)]; exact hu1)
    (Takes.of_laid hk hord tc (by rw [Y.causeType]; rfl)) (Takes.of_laid hk hord ts (by rw [Y.stackType]; exact fits_refV_array _ u0)) (Takes.of_laid hk hord tp (by rw [Y.suppType]; exact fits_refV_object _ u1)) (Takes.of_laid hk hord tm (by rw [Y.msgType]; exact fits_refV_object _ ⟨.ref sa, rfl⟩))
    Y.objLocals hskip htr [] (ig := .invokespecial ic) (len := 3) (by rw [← g2] at hd6; exact hd6) (by simp only [List.length_cons, hlen]; omega)
    (by
      have hc9 : ((Value.ref a :: rest).map fun v => v.category).sum = 1 + (rest.map fun v => v.category).sum := by rw [List.map_cons, List.sum_cons]; rfl
      show 2 * g.monitorRoom + ((Value.ref a :: rest).map fun v => v.category).sum + (13 * (P :: Ps).length + 42) ≤ R.locals
      rw [hmr, hc9, List.length_cons, hlen]
      omega)
  obtain ⟨k1, k2, k3, k4, k5⟩ := X2.athrowLeaves hexec (g := { g with stack := .ref a :: rest, pc := g.pc + 3 }) g1 (by rw [hg]) (by rw [hg]) (by rw [g2]; exact hout) (a := a) (rest := rest) rfl (by rw [g2]; exact hd9)
  refine ⟨_, go1 _ (fun acts => ?_), k2, k3, k4, k5.weaken (fun y hy hlt => ?_) (Nat.le_refl _) (Nat.le_refl _), _, heapAt_setCell_self (s := (W.setVm vm1).setVm vm2) (plainBareV T.toThrowableT (freshCell q k) a u0 u1 (.ref sa)) (Array.getElem?_eq_some_iff.mp ha).1, rfl, hq⟩
  · rw [doInvoke_state, n6]
    exact go2 _ k1
  · exfalso
    rw [List.nil_append] at hy
    rw [nx_base (x := y) rfl hy] at hlt
    exact Nat.not_lt.mpr hnew hlt
end
section
variable {p : Program} {l : Launch} {e : Env} {R : Room} {s : State} {m : MethodId} {args : Array Value} {below : List Frame} {meth : Method} {c : Code} {H : Heap} {locs : List Loc} {cells slots : Nat} {free : Addr → Prop} {ls : Array Slot} {rest : List Value} {Qc : Array Value → State → Outcome → State → Prop} {XC : String → State → State → Prop}
set_option maxHeartbeats 1000000 in
theorem nx_throwS {cc : ByteArray} {pc : Nat} (hexec : p.tables.exec = Jvm.exec) (hb : c.code = cc) (hl : l.stackTraces = false) {own cls text : String} {Y9 : String} {r9 : List String} {ik is ic ix mc ms sa : Nat} {sx : ByteArray} {A : Nat → Prop}
    (hown : s.vm.findClass own = some m.cls) (hcls : Bundle.fit cls = true) (hY9 : Bundle.fit Y9 = true) (hr9 : ∀ n ∈ r9, Bundle.fit n = true) (x0 : decode sx 0 = .ok (.aload_n 0, 1)) (x1 : decode sx 1 = .ok (.aload_n 1, 1)) (x2 : decode sx 2 = .ok (.invokespecial ix, 3)) (x5 : decode sx 5 = .ok (.return_, 1))
    (hk : (Cond.classLink own ik cls).before args s = true) (hini : (Cond.initialized cls).before args s = true) (hstr : vk_R own is text sa s) (hat : ∀ w ∈ nx_at own ic ix sx cls Y9 r9, w.before args s = true)
    (hgood : ∀ w ∈ Cond.classLink own ik cls :: Cond.initialized cls :: nx_at own ic ix sx cls Y9 r9, vx_ot w = true)
    (hU : vx_Zq Bundle.tN "UNASSIGNED_STACK" Bundle.steD A s s.heap) (hN : vx_Zq Bundle.tN "SUPPRESSED_SENTINEL" Bundle.listD A s s.heap) (hS : va_S A s.heap H locs) (hsize : ls.size = c.maxLocals)
    (d0 : decode cc pc = .ok (.new ik, 3)) (d3 : decode cc (pc + 3) = .ok (.dup, 1)) (d4 : decode cc (pc + 4) = .ok (.ldc is, 2)) (d6 : decode cc (pc + 6) = .ok (.invokespecial ic, 3)) (d9 : decode cc (pc + 9) = .ok (.athrow, 1))
    (hout : ∀ x ∈ c.exceptionTable.toList, covers x (pc + 9) = false)
    (hRframes : (r9.length + 1) + 3 < R.frames) (hRlocals : (rest.map fun v => v.category).sum + (13 * ((r9.length + 1) + 1) + 43) ≤ R.locals) (hRcells : cells + 1 ≤ R.cells) (hRslots : slots + 6 ≤ R.slots) (hlocks : meth.locks = false)
    (hx : ∀ t : State, s.vm.Alike t.vm → H.size ≤ t.heap.size → (∀ q : Nat, q < H.size → t.heap[q]? = H[q]?) → XC cls s t)
    (hf : ∀ z ∈ locs, free z.base) (hc : cells + 1 ≤ mc) (hs : slots + 6 ≤ ms) :
    W p l e R s m args below meth c H locs cells slots (vx_MQ below Qc XC args s mc ms free) (F0 m pc ls rest) := by
  intro T hT X
  have htr : e.platform.stackTraces = false := (show e.platform.stackTraces = l.stackTraces by rw [X.admits.platform]).trans hl
  have Y := vx_rebase X (R' := { frames := R.frames, locals := R.locals, cells := 1, slots := 6 }) (Nat.le_refl _) (Nat.le_refl _) hRcells hRslots
  obtain ⟨s', hA⟩ : ∃ z, z = (T.setVm s.vm).setFrames (.invoking m args :: below) := ⟨_, rfl⟩
  rw [← hA] at Y
  have hvm : s'.vm = s.vm := by rw [hA]; rfl
  have hhp : s'.heap = H := by rw [hA]; exact hT
  have hW0 : s.WarmedH s'.vm := by rw [hvm]; exact State.WarmedH.refl s
  have hat' : ∀ w ∈ nx_at own ic ix sx cls Y9 r9, w.before args s' = true := fun w hw => vx_ot_at hW0 hvm.symm (hgood w (List.mem_cons_of_mem _ (List.mem_cons_of_mem _ hw))) (hat w hw)
  have hk' : (Cond.classLink own ik cls).before args s' = true := vx_ot_at hW0 hvm.symm (hgood _ List.mem_cons_self) hk
  have hini' : (Cond.initialized cls).before args s' = true := vx_ot_at hW0 hvm.symm (hgood _ (List.mem_cons_of_mem _ List.mem_cons_self)) hini
  have hU' : vx_Zq Bundle.tN "UNASSIGNED_STACK" Bundle.steD A s' s'.heap := by rw [hhp]; exact vx_Zq.moved hW0.alike (hU.kept hS.2.1)
  have hN' : vx_Zq Bundle.tN "SUPPRESSED_SENTINEL" Bundle.listD A s' s'.heap := by rw [hhp]; exact vx_Zq.moved hW0.alike (hN.kept hS.2.1)
  have h : ∀ w ∈ nx_A own ic ix sx cls Y9 r9, w.before args s' = true := vx_own hat' (vx_isRefq hU'.1) (vx_isRefq hN'.1) hU'.2.word hN'.2.word
  have hown' : s'.vm.findClass own = some m.cls := by rw [hvm]; exact hown
  have hins : (Cond.instantiable cls 6).before args s' = true := h _ (nx_mT (by unfold nx_T Bundle.ownAtoms; rw [List.drop_left]; simp))
  obtain ⟨vm₁, cX, kX, hfX, hkX, -, -, X₁, st1⟩ := Y.newCold hexec (own := own) (C := cls) (index := ik) (n := 6) hown' hk' hins hini'
    (g := F0 m pc ls rest) rfl (by rw [hb]; exact d0) (Nat.le_refl _) (Nat.le_refl _)
  generalize hT1 : (T.setVm vm₁).pushCell { cls := cX, slots := kX.instanceTypes.map defaultValue, vm := .none } = T1 at X₁ st1
  have hcat : (Value.ref T.heap.size).category = 1 := rfl
  have hcellA : T1.heap[T.heap.size]? = some (freshCell cX kX) := by rw [← hT1]; exact State.heap_pushCell_size _ _
  have d3' : decode c.code (pc + 3) = .ok (.dup, 1) := by rw [hb]; exact d3
  have d4' : decode c.code (pc + 4) = .ok (.ldc is, 2) := by rw [hb]; exact d4
  have hstr' : vk_R own is text sa s' := vk_R.warm hW0 hstr
  obtain ⟨U, hsteps, hrun, hend, hW, hsame, ce, hce, hO, hO2⟩ := nx_ctor X₁ hexec htr hlocks (own := own) (cls := cls) (Y9 := Y9) (r9 := r9) (ic := ic) (ix := ix) (sx := sx) hown' hcls hY9 hr9 x0 x1 x2 x5 h (sa := sa) hfX hkX hcellA (by rw [hhp, hT]; exact Nat.le_refl _) (pc := pc + 6) (ls := ls) (rest := rest) hsize (by rw [hb]; exact d6) (by rw [hb]; exact d9) hout (by show r9.length + 4 < R.frames; omega) (by show (rest.map fun v => v.category).sum + (13 * (r9.length + 2) + 43) ≤ R.locals; omega)
  obtain ⟨f1, f2⟩ := vx_frame hsame
  rw [hhp] at f1 f2
  have hWs : s.WarmedH U.vm := State.WarmedH.trans hW0 hW
  have hcl : s.vm.findClass cls = some ce.cls := by
    have h9 := hO2
    rw [hvm] at h9
    exact h9
  have hall : s.sameButNew ({ U with vm := s.vm } : State) locs mc ms := by
    subst hA
    obtain ⟨e1, e2⟩ := hsame
    rw [State.setFrames_setFrames] at e1
    have h2 : (T.setVm s.vm).sameButNew ({ U with vm := s.vm } : State) [] (0 + 1) (0 + 6) := ⟨e1, e2⟩
    have h3 := X.same.trans h2
    rw [List.append_nil] at h3
    exact h3.mono hc hs
  refine ⟨U, ?_, .threw T.heap.size, hrun, hend, Or.inr ⟨T.heap.size, rfl, cls, ce, locs, hx U hWs.alike f1 (fun q hq => f2 q hq (fun z hz => nomatch hz)), hce, hO, hcl, hWs, hall, hf⟩⟩
  refine st1 _ ?_
  show Steps p.tables e below (T1.setTop { method := m, pc := pc + 3, locals := ls, stack := .ref T.heap.size :: rest, locked := none }) _
  jvm_step X₁.here [X₁.here.top, hexec, d3', Value.category]
  exact X₁.ldcString hexec (own := own) (text := text) (index := is) (a := sa) hown' hstr'.1 hstr'.2
    (g := { method := m, pc := pc + 4, locals := ls, stack := .ref T.heap.size :: .ref T.heap.size :: rest, locked := none }) rfl d4' _ hsteps
end
