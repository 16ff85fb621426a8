abbrev SC : Type := (Nat → Int32) × (Nat → Nat → Int32)
def uF (F : Nat → Int32) (k : Nat) (v : Int32) : Nat → Int32 := fun j => if j = k then v else F j
def uA (A : Nat → Nat → Int32) (k : Nat) (f : Nat → Int32) : Nat → Nat → Int32 := fun j => if j = k then f else A j
def exN (u : Nat) : String := match u with
  | 1 => "java/util/NoSuchElementException"
  | 2 => "java/lang/IllegalArgumentException"
  | 3 => "java/lang/IllegalStateException"
  | _ => "java/lang/UnsupportedOperationException"
def XS (A : Nat → Prop) (U : State) (H : Heap) : Prop :=
  vx_Zq Bundle.tN "UNASSIGNED_STACK" Bundle.steD A U H ∧ vx_Zq Bundle.tN "SUPPRESSED_SENTINEL" Bundle.listD A U H ∧ (∀ q ∈ xCasts, va_Nw (.castable q.1 q.2) U) ∧ (∀ x ∈ xDecls, va_Nw (.declares x) U) ∧ (∀ q ∈ xNocs, va_Nc q.1 q.2 U) ∧ ∀ q ∈ xStrs, ∃ a : Nat, vk_R q.1 q.2.1 q.2.2 a U
theorem XS.blind {A : Nat → Prop} {U : State} {g : JFrame} {mk : MethodId} {a : Array Value} (h : XS A U U.heap) : XS A (U.calling g mk a) (U.calling g mk a).heap := by
  obtain ⟨h1, h2, h3, h4, h5, h6⟩ := h
  refine ⟨vx_Zq.moved (u := U) (U := U.calling g mk a) (Vm.Alike.refl U.vm) h1, vx_Zq.moved (u := U) (U := U.calling g mk a) (Vm.Alike.refl U.vm) h2, fun q hq => va_Nw.same rfl rfl (h3 q hq), fun x hx => va_Nw.same rfl rfl (h4 x hx), fun q hq => va_Nc.moved (u := U) (U := U.calling g mk a) (Vm.Alike.refl U.vm) (h5 q hq), fun q hq => ?_⟩
  obtain ⟨b, hb⟩ := h6 q hq
  exact ⟨b, vk_R.same rfl hb⟩
theorem XS.pass {A B : Nat → Prop} {s U : State} {H : Heap} {locs : List Loc} (h : XS A s s.heap) (hS : va_S A s.heap H locs) (hB : ∀ q, B q → A q) (hU : U.heap = H) (hW : s.WarmedH U.vm) : XS B U U.heap := by
  obtain ⟨h1, h2, h3, h4, h5, h6⟩ := h
  rw [hU]
  refine ⟨(vx_Zq.moved hW.alike (h1.kept hS.2.1)).narrow hB, (vx_Zq.moved hW.alike (h2.kept hS.2.1)).narrow hB, fun q hq => va_Nw.warmC hW (h3 q hq), fun x hx => va_Nw.warmD hW (h4 x hx), fun q hq => va_Nc.moved hW.alike (h5 q hq), fun q hq => ?_⟩
  obtain ⟨b, hb⟩ := h6 q hq
  exact ⟨b, vk_R.warm hW hb⟩
def RO (D : va_G) (w : va_W) (tys : List (ClassId × FieldType)) (U : State) : Prop := va_P D classes w U.heap ∧ va_K D classes tys U
def GP (D : va_G) (w : va_W) (tys : List (ClassId × FieldType)) (sz : Nat) (U : State) : Prop := U.heap.size = sz ∧ va_P D classes w U.heap ∧ va_K D classes tys U ∧ XS (fun q => sz ≤ q) U U.heap
def SP (D : va_G) (w : va_W) (tys : List (ClassId × FieldType)) (sz : Nat) (U : State) : Prop := U.heap.size = sz ∧ va_P D classes w U.heap ∧ va_K D classes tys U ∧ va_D (fun _ => True) w
def XP (D : va_G) (w : va_W) (tys : List (ClassId × FieldType)) (sz : Nat) (U : State) : Prop := SP D w tys sz U ∧ XS (va_A w sz) U U.heap
abbrev aW (D : va_G) (tys : List (ClassId × FieldType)) (A : Nat → Prop) (w : va_W) (t : State) : Prop := va_P D classes w t.heap ∧ va_K D classes tys t ∧ va_D A w
theorem RO.blind {D : va_G} {w : va_W} {tys : List (ClassId × FieldType)} (av : List Value) : FrameBlind (va_Pc av (RO D w tys)) := by
  intro a U g mk q
  obtain ⟨q0, qP, qK⟩ := q
  exact ⟨q0, qP, va_K.moved (u := U) (U := U.calling g mk a) (Vm.Alike.refl U.vm) qK⟩
theorem GP.blind {D : va_G} {w : va_W} {tys : List (ClassId × FieldType)} {sz : Nat} (av : List Value) : FrameBlind (va_Pc av (GP D w tys sz)) := by
  intro a U g mk q
  obtain ⟨q0, q1, qP, qK, qX⟩ := q
  exact ⟨q0, q1, qP, va_K.moved (u := U) (U := U.calling g mk a) (Vm.Alike.refl U.vm) qK, qX.blind⟩
theorem SP.blind {D : va_G} {w : va_W} {tys : List (ClassId × FieldType)} {sz : Nat} (av : List Value) : FrameBlind (va_Pc av (SP D w tys sz)) := by
  intro a U g mk q
  obtain ⟨q0, q1, qP, qK, qD⟩ := q
  exact ⟨q0, q1, qP, va_K.moved (u := U) (U := U.calling g mk a) (Vm.Alike.refl U.vm) qK, qD⟩
theorem XP.blind {D : va_G} {w : va_W} {tys : List (ClassId × FieldType)} {sz : Nat} (av : List Value) : FrameBlind (va_Pc av (XP D w tys sz)) := by
  intro a U g mk q
  obtain ⟨q0, ⟨q1, qP, qK, qD⟩, qX⟩ := q
  exact ⟨q0, ⟨q1, qP, va_K.moved (u := U) (U := U.calling g mk a) (Vm.Alike.refl U.vm) qK, qD⟩, qX.blind⟩
theorem gIn {own C : String} {idx : Nat} {y : MethodName} {cy : Cond} (h1 : Cond.methodLink own idx y ∈ WALL) (h2 : Cond.instanceMethod y ∈ WALL) (h3 : Cond.selects C y y ∈ WALL) (h4 : Cond.initialized C ∈ WALL) (h5 : cy ∈ WALL) : GoodIn WALL (wsV own idx C y (cy :: WALL)) := by
  intro w hw
  have h : w ∈ WALL := by
    simp only [wsV, List.cons_append, List.nil_append, List.mem_cons] at hw
    rcases hw with rfl | rfl | rfl | rfl | rfl | h <;> assumption
  exact ⟨h, (WALL_good w h).2⟩
theorem gInS {own : String} {idx : Nat} {y : MethodName} {cy : Cond} (h1 : Cond.methodLink own idx y ∈ WALL) (h2 : Cond.static y ∈ WALL) (h4 : Cond.initialized y.cls ∈ WALL) (h5 : cy ∈ WALL) : GoodIn WALL (va_wsS own idx y (cy :: WALL)) := by
  intro w hw
  have h : w ∈ WALL := by
    simp only [va_wsS, List.cons_append, List.nil_append, List.mem_cons] at hw
    rcases hw with rfl | rfl | rfl | rfl | h <;> assumption
  exact ⟨h, (WALL_good w h).2⟩
section
variable {p : Program} {l : Launch} {e : Env} {R : Room} {s : State} {m : MethodId} {args : Array Value} {below : List Frame} {meth : Method} {c : Code} {H : Heap} {locs : List Loc} {cells slots : Nat} {Q : State → Prop}
  {y : MethodName} {bytes cc : ByteArray} {maxL nL n index mc ms pc : Nat} {ret : Option FieldType} {ws Ts : List Cond} {rm : Room} {own C : String} {b : Addr} {As rest st0 : List Value} {ls : Array Slot} {D : va_G} {w : va_W} {tys : List (ClassId × FieldType)}
theorem rdV {val : Int32} (S : CallFix p m c cc nL s args Ts own) (hM : Met l y ws rm (va_Pc (.ref b :: As) (RO D w tys)) (vp_Si (fun v => v = val)) 0 0 (fun _ => False)) (cw : CallW R s args own C index y bytes maxL ret ws rm 0 0 n) (hK : va_K D classes tys s) (hP : va_P D classes w H) (hrv : ∃ cellB : Cell, H[b]? = some cellB ∧ cellB.vm.isStatics = false ∧ s.vm.findClass C = some cellB.cls) (hn : As.length = n) (hsz : ls.size = nL) (hst : st0 = As.reverse ++ .ref b :: rest) (hW : (rest.map fun v => v.category).sum ≤ 8) (hdg : decode cc pc = .ok (.invokevirtual index, 3)) (hf : cells ≤ R.cells ∧ slots ≤ R.slots) (kk : W p l e R s m args below meth c H locs cells slots Q (F0 m (pc + 3) ls (.int val :: rest))) : W p l e R s m args below meth c H locs cells slots Q (F0 m pc ls st0) :=
  vp_callSi (W.runV S hM cw ⟨RO.blind _, hrv, fun U hU hW9 => ⟨rfl, by rw [hU]; exact hP, va_K.moved hW9.alike hK⟩⟩ rfl hn hsz hst (lv_room hW) hdg hf) (fun r hr => by have hr : r = val := hr; rw [hr]; exact kk)
theorem rdS {val : Int32} (S : CallFix p m c cc nL s args Ts own) (hM : Met l y ws rm (va_Pc As (fun _ => True)) (vp_Si (fun v => v = val)) 0 0 (fun _ => False)) (cw : CallB R s args own index y bytes maxL ret ws rm 0 0 n ∧ (Cond.static y).before args s = true) (hn : As.length = n) (hsz : ls.size = nL) (hst : st0 = As.reverse ++ rest) (hW : (rest.map fun v => v.category).sum ≤ 8) (hdg : decode cc pc = .ok (.invokestatic index, 3)) (hf : cells ≤ R.cells ∧ slots ≤ R.slots) (kk : W p l e R s m args below meth c H locs cells slots Q (F0 m (pc + 3) ls (.int val :: rest))) : W p l e R s m args below meth c H locs cells slots Q (F0 m pc ls st0) :=
  vp_callSi (W.runS S hM cw ⟨fun a U g mk q => ⟨q.1, trivial⟩, fun U hU hW9 => ⟨rfl, trivial⟩⟩ rfl hn hsz hst (lv_room hW) hdg hf) (fun r hr => by have hr : r = val := hr; rw [hr]; exact kk)
theorem frA {A : Nat → Prop} (hD : va_D A w) (hS : va_S A s.heap H locs) (hA : ∀ q : Nat, s.heap.size ≤ q → A q) : ∀ q, va_A w H.size q → A q := by
  rintro q (⟨k, x, h⟩ | h)
  · exact hD.2 k _ h
  · exact hA q (Nat.le_trans hS.1 h)
theorem rdVv (S : CallFix p m c cc nL s args Ts own) (hM : Met l y ws rm (va_Pc (.ref b :: As) (RO D w tys)) (va_Sv (fun _ => True)) 0 0 (fun _ => False)) (cw : CallW R s args own C index y bytes maxL ret ws rm 0 0 n) (hK : va_K D classes tys s) (hP : va_P D classes w H) (hrv : ∃ cellB : Cell, H[b]? = some cellB ∧ cellB.vm.isStatics = false ∧ s.vm.findClass C = some cellB.cls) (hn : As.length = n) (hsz : ls.size = nL) (hst : st0 = As.reverse ++ .ref b :: rest) (hW : (rest.map fun v => v.category).sum ≤ 8) (hdg : decode cc pc = .ok (.invokevirtual index, 3)) (hf : cells ≤ R.cells ∧ slots ≤ R.slots) (kk : W p l e R s m args below meth c H locs cells slots Q (F0 m (pc + 3) ls rest)) : W p l e R s m args below meth c H locs cells slots Q (F0 m pc ls st0) :=
  va_csv (W.runV S hM cw ⟨RO.blind _, hrv, fun U hU hW9 => ⟨rfl, by rw [hU]; exact hP, va_K.moved hW9.alike hK⟩⟩ rfl hn hsz hst (lv_room hW) hdg hf) (fun _ => kk)
theorem gdV {code : Nat} {A : Nat → Prop} (S : CallFix p m c cc nL s args Ts own) (hM : vx_Met l y ws rm (va_Pc (.ref b :: As) (GP D w tys H.size)) (va_Qv (fun _ : Unit => False) (fun _ _ => True) (fun q => H.size ≤ q)) (vx_X (fun u : Nat => u = code) (fun E u _ => E = exN u) (fun q => H.size ≤ q)) mc ms (fun q => H.size ≤ q)) (cw : CallW R s args own C index y bytes maxL ret ws rm mc ms n) (hK : va_K D classes tys s) (hP : va_P D classes w H) (hXS : XS A s s.heap) (hA : ∀ q : Nat, s.heap.size ≤ q → A q) (hrv : ∃ cellB : Cell, H[b]? = some cellB ∧ cellB.vm.isStatics = false ∧ s.vm.findClass C = some cellB.cls) (hS : va_S A s.heap H locs) (hn : As.length = n) (hsz : ls.size = nL) (hst : st0 = As.reverse ++ .ref b :: rest) (hW : (rest.map fun v => v.category).sum ≤ 8) (hdg : decode cc pc = .ok (.invokevirtual index, 3)) (hf : cells + mc ≤ R.cells ∧ slots + ms ≤ R.slots)
    (kx : ∀ (H1 : Heap) (locs1 : List Loc) (q9 : Addr) (ce : Cell), va_P D classes w H1 → va_S A s.heap H1 locs1 → H1[q9]? = some ce → ce.vm = .none → s.vm.findClass (exN code) = some ce.cls → vx_W p l e R s m args below meth c H1 locs1 (cells + mc) (slots + ms) Q (F0 m pc ls rest) q9) : W p l e R s m args below meth c H locs cells slots Q (F0 m pc ls st0) := by
  have hB : ∀ q : Nat, H.size ≤ q → A q := fun q h => hA q (Nat.le_trans hS.1 h)
  refine vx_callv (vx_runV S hM cw ⟨GP.blind _, hrv, fun U hU hW9 => ⟨rfl, by rw [hU], by rw [hU]; exact hP, va_K.moved hW9.alike hK, hXS.pass hS hB hU hW9⟩⟩ rfl hn hsz hst (lv_room hW) hdg hf) hS (fun q _ h => hB q h) hB (fun q _ h => hB q h) ?_ ?_
  · intro E ce q9 u t H1 locs1 ht hvm hpx hBX hz hk hS1 hce hcv hcl
    have hu : u = code := hpx
    subst hu
    have hE : E = exN u := hBX
    rw [hE] at hcl
    exact kx H1 locs1 q9 ce (hP.kept (fun k q hq => hk q.1 (hP k q hq).lt (Nat.not_le.mpr (hP k q hq).lt))) hS1 hce hcv hcl
  · intro u t H1 locs1 ht hvm hw hB1 hz hk hS1
    exact absurd hw id
theorem stVi {A : Nat → Prop} {wf : SC → va_W} {val : Int32 × SC} (S : CallFix p m c cc nL s args Ts own) (hM : Met l y ws rm (va_Pc (.ref b :: As) (SP D w tys H.size)) (va_Qi (fun v (u : SC) => (v, u) = val) (fun (u : SC) t => aW D tys (va_A w H.size) (wf u) t) (va_A w H.size)) 0 0 (va_A w H.size)) (cw : CallW R s args own C index y bytes maxL ret ws rm 0 0 n) (hK : va_K D classes tys s) (hP : va_P D classes w H) (hD : va_D A w) (hS : va_S A s.heap H locs) (hA : ∀ q : Nat, s.heap.size ≤ q → A q) (hrv : ∃ cellB : Cell, H[b]? = some cellB ∧ cellB.vm.isStatics = false ∧ s.vm.findClass C = some cellB.cls) (hn : As.length = n) (hsz : ls.size = nL) (hst : st0 = As.reverse ++ .ref b :: rest) (hW : (rest.map fun v => v.category).sum ≤ 8) (hdg : decode cc pc = .ok (.invokevirtual index, 3)) (hf : cells ≤ R.cells ∧ slots ≤ R.slots)
    (kk : ∀ (H1 : Heap) (locs1 : List Loc), va_P D classes (wf val.2) H1 → va_D A (wf val.2) → va_S A s.heap H1 locs1 → W p l e R s m args below meth c H1 locs1 cells slots Q (F0 m (pc + 3) ls (.int val.1 :: rest))) : W p l e R s m args below meth c H locs cells slots Q (F0 m pc ls st0) := by
  have hF := frA hD hS hA
  refine va_calli (va_runV S hM cw ⟨SP.blind _, hrv, fun U hU hW9 => ⟨rfl, by rw [hU], by rw [hU]; exact hP, va_K.moved hW9.alike hK, hD.weaken (fun _ _ _ _ => trivial)⟩⟩ rfl hn hsz hst (lv_room hW) hdg hf) hS (fun q _ h => hF q h) hF ?_
  intro r u t H1 locs1 ht hvm hw hB hz hk hS1
  have hw : (r, u) = val := hw
  subst hw
  obtain ⟨hP1, hK1, hD1⟩ := hB
  rw [ht] at hP1
  exact kk H1 locs1 hP1 (hD1.weaken (fun _ _ _ h => hF _ h)) hS1
theorem stVv {A : Nat → Prop} {wf : SC → va_W} {val : Int32 × SC} (S : CallFix p m c cc nL s args Ts own) (hM : Met l y ws rm (va_Pc (.ref b :: As) (SP D w tys H.size)) (va_Qv (fun u : SC => (0, u) = val) (fun (u : SC) t => aW D tys (va_A w H.size) (wf u) t) (va_A w H.size)) 0 0 (va_A w H.size)) (cw : CallW R s args own C index y bytes maxL ret ws rm 0 0 n) (hK : va_K D classes tys s) (hP : va_P D classes w H) (hD : va_D A w) (hS : va_S A s.heap H locs) (hA : ∀ q : Nat, s.heap.size ≤ q → A q) (hrv : ∃ cellB : Cell, H[b]? = some cellB ∧ cellB.vm.isStatics = false ∧ s.vm.findClass C = some cellB.cls) (hn : As.length = n) (hsz : ls.size = nL) (hst : st0 = As.reverse ++ .ref b :: rest) (hW : (rest.map fun v => v.category).sum ≤ 8) (hdg : decode cc pc = .ok (.invokevirtual index, 3)) (hf : cells ≤ R.cells ∧ slots ≤ R.slots)
    (kk : ∀ (H1 : Heap) (locs1 : List Loc), va_P D classes (wf val.2) H1 → va_D A (wf val.2) → va_S A s.heap H1 locs1 → W p l e R s m args below meth c H1 locs1 cells slots Q (F0 m (pc + 3) ls rest)) : W p l e R s m args below meth c H locs cells slots Q (F0 m pc ls st0) := by
  have hF := frA hD hS hA
  refine va_callv (va_runV S hM cw ⟨SP.blind _, hrv, fun U hU hW9 => ⟨rfl, by rw [hU], by rw [hU]; exact hP, va_K.moved hW9.alike hK, hD.weaken (fun _ _ _ _ => trivial)⟩⟩ rfl hn hsz hst (lv_room hW) hdg hf) hS (fun q _ h => hF q h) hF ?_
  intro u t H1 locs1 ht hvm hw hB hz hk hS1
  have hw : (0, u) = val := hw
  subst hw
  obtain ⟨hP1, hK1, hD1⟩ := hB
  rw [ht] at hP1
  exact kk H1 locs1 hP1 (hD1.weaken (fun _ _ _ h => hF _ h)) hS1
def TW (own : String) (ik is ic ix : Nat) (sx : ByteArray) (cls text : String) : Prop :=
  (Bundle.fit cls = true ∧ decode sx 0 = .ok (.aload_n 0, 1) ∧ decode sx 1 = .ok (.aload_n 1, 1) ∧ decode sx 2 = .ok (.invokespecial ix, 3) ∧ decode sx 5 = .ok (.return_, 1)) ∧ Cond.classLink own ik cls ∈ WALL ∧ Cond.initialized cls ∈ WALL ∧ (∀ w ∈ (nx_at own ic ix sx cls "java/lang/RuntimeException" ["java/lang/Exception"]).filter goodWord, w ∈ WALL) ∧ (∀ w ∈ (nx_at own ic ix sx cls "java/lang/RuntimeException" ["java/lang/Exception"]).filter (fun w => !goodWord w), w ∈ xBad) ∧ (∀ w ∈ Cond.classLink own ik cls :: Cond.initialized cls :: nx_at own ic ix sx cls "java/lang/RuntimeException" ["java/lang/Exception"], vx_ot w = true) ∧ (own, is, text) ∈ xStrs
theorem xBad_ok {A : Nat → Prop} {U : State} {H : Heap} {a : Array Value} (h : XS A U H) : ∀ w ∈ xBad, w.before a U = true := by
  intro w hw
  rcases List.mem_append.mp hw with hw | hw
  · obtain ⟨q, hq, rfl⟩ := List.mem_map.mp hw
    exact va_Nw.use rfl (h.2.2.1 q hq)
  · obtain ⟨q, hq, rfl⟩ := List.mem_map.mp hw
    exact va_Nw.use rfl (h.2.2.2.1 q hq)
theorem thr {A free : Nat → Prop} {Qc : Array Value → State → Outcome → State → Prop} {XC : String → State → State → Prop} {cls text : String} {ik is ic ix : Nat} {sx : ByteArray} (hx : p.tables.exec = Jvm.exec) (hb : c.code = cc) (hl9 : l.stackTraces = false) (hown : s.vm.findClass own = some m.cls) (hW : ∀ w ∈ WALL, w.before args s = true) (hXS : XS A s s.heap) (tw : TW own ik is ic ix sx cls text) (hS : va_S A s.heap H locs) (hsize : ls.size = c.maxLocals)
    (d0 : decode cc pc = .ok (.new ik, 3)) (d3 : decode cc (pc + 3) = .ok (.dup, 1)) (d4 : decode cc (pc + 4) = .ok (.ldc is, 2)) (d6 : decode cc (pc + 6) = .ok (.invokespecial ic, 3)) (d9 : decode cc (pc + 9) = .ok (.athrow, 1)) (hEx : ∀ x ∈ c.exceptionTable.toList, False)
    (hRf : (["java/lang/Exception"].length + 1) + 3 < R.frames) (hRl : (rest.map fun v => v.category).sum + (13 * ((["java/lang/Exception"].length + 1) + 1) + 43) ≤ R.locals) (hRc : cells + 1 ≤ R.cells) (hRs : slots + 6 ≤ R.slots) (hlocks : meth.locks = false)
    (hpost : ∀ t : State, s.vm.Alike t.vm → H.size ≤ t.heap.size → (∀ q : Nat, q < H.size → t.heap[q]? = H[q]?) → XC cls s t) (hf : ∀ z ∈ locs, free z.base) (hc : cells + 1 ≤ mc) (hs : slots + 6 ≤ ms) : W p l e R s m args below meth c H locs cells slots (vx_MQ below Qc XC args s mc ms free) (F0 m pc ls rest) := by
  obtain ⟨⟨t1, e0, e1, e2, e5⟩, t2, t3, t4, t5, t6, t7⟩ := tw
  obtain ⟨sa, hstr⟩ := hXS.2.2.2.2.2 _ t7
  exact nx_throwS (r9 := ["java/lang/Exception"]) hx hb hl9 hown t1 (by decide +kernel) (by decide +kernel) e0 e1 e2 e5 (hW _ t2) (hW _ t3) hstr (vx_hat (fun w hw => hW w (t4 w hw)) t5 (xBad_ok hXS)) t6 hXS.1 hXS.2.1 hS hsize d0 d3 d4 d6 d9 (fun x hx => (hEx x hx).elim) hRf hRl hRc hRs hlocks hpost hf hc hs
end
def LA (B i : Int32) (n : Nat) : Prop := 1 ≤ i.toInt ∧ i.toInt ≤ B.toInt + 1 ∧ B.toInt + 1 < i.toInt + n
def LB (B i : Int32) (n : Nat) : Prop := 0 ≤ i.toInt ∧ i.toInt ≤ B.toInt ∧ B.toInt < i.toInt + n
theorem add1 {i : Int32} (h0 : -1000 ≤ i.toInt) (h1 : i.toInt ≤ 1000000) : (i + 1).toInt = i.toInt + 1 := by
  rw [Int32.toInt_add, show (1 : Int32).toInt = 1 from rfl, Int.bmod_eq_of_le] <;> omega
theorem LA.z {B i : Int32} (h : LA B i 0) : False := by obtain ⟨h1, h2, h3⟩ := h; omega
theorem LB.z {B i : Int32} (h : LB B i 0) : False := by obtain ⟨h1, h2, h3⟩ := h; omega
theorem LA.i {B : Int32} (h0 : 0 ≤ B.toInt) (h1 : B.toInt ≤ 60) : LA B 1 64 := by
  have : (1 : Int32).toInt = 1 := rfl
  unfold LA; omega
theorem LB.i {B : Int32} (h0 : 0 ≤ B.toInt) (h1 : B.toInt ≤ 60) : LB B 0 64 := by
  have : (0 : Int32).toInt = 0 := rfl
  unfold LB; omega
theorem LA.s {B i : Int32} {n : Nat} (h : LA B i (n + 1)) (c : ¬ B < i) (hB : B.toInt ≤ 60) : LA B (i + 1) n := by
  obtain ⟨h1, h2, h3⟩ := h
  rw [Int32.lt_iff_toInt_lt] at c
  have := add1 (i := i) (by omega) (by omega)
  unfold LA; omega
theorem LB.s {B i : Int32} {n : Nat} (h : LB B i (n + 1)) (c : ¬ B ≤ i) (hB : B.toInt ≤ 60) : LB B (i + 1) n := by
  obtain ⟨h1, h2, h3⟩ := h
  rw [Int32.le_iff_toInt_le] at c
  have := add1 (i := i) (by omega) (by omega)
  unfold LB; omega
theorem LA.j {B i : Int32} {n : Nat} (h : LA B i (n + 1)) (c : ¬ B < i) (hB : B.toInt ≤ 60) : LA B (i + 1) 64 := by
  obtain ⟨h1, h2, h3⟩ := h
  rw [Int32.lt_iff_toInt_lt] at c
  have := add1 (i := i) (by omega) (by omega)
  unfold LA; omega
theorem LA.ix {B i : Int32} {n : Nat} (h : LA B i n) (c : ¬ B < i) (hB : B.toInt ≤ 60) : vp_in i 61 := by
  obtain ⟨h1, h2, h3⟩ := h
  rw [Int32.lt_iff_toInt_lt] at c
  rw [vp_in_iff]; omega
theorem LB.ix {B i : Int32} {n : Nat} (h : LB B i n) (c : ¬ B ≤ i) (hB : B.toInt ≤ 6) : vp_in i 6 := by
  obtain ⟨h1, h2, h3⟩ := h
  rw [Int32.le_iff_toInt_le] at c
  rw [vp_in_iff]; omega
theorem i32_ext {x y : Int32} (h : x.toInt = y.toInt) : x = y := Int32.toInt_inj.mp h
theorem tsw7 {x : Int32} (h0 : ¬ x = 0) (h1 : ¬ x = 1) (h2 : ¬ x = 2) (h3 : ¬ x = 3) (h4 : ¬ x = 4) (h5 : ¬ x = 5) (h6 : ¬ x = 6) : x.toInt < 0 ∨ 6 < x.toInt := by
  rcases Int.lt_or_le x.toInt 0 with h | h
  · exact Or.inl h
  rcases Int.lt_or_le 6 x.toInt with g | g
  · exact Or.inr g
  exfalso
  rcases (show x.toInt = 0 ∨ x.toInt = 1 ∨ x.toInt = 2 ∨ x.toInt = 3 ∨ x.toInt = 4 ∨ x.toInt = 5 ∨ x.toInt = 6 by omega) with q | q | q | q | q | q | q
  · exact h0 (i32_ext q)
  · exact h1 (i32_ext q)
  · exact h2 (i32_ext q)
  · exact h3 (i32_ext q)
  · exact h4 (i32_ext q)
  · exact h5 (i32_ext q)
  · exact h6 (i32_ext q)
theorem tsw6 {x : Int32} (h0 : ¬ x = 0) (h1 : ¬ x = 1) (h2 : ¬ x = 2) (h3 : ¬ x = 3) (h4 : ¬ x = 4) (h5 : ¬ x = 5) : x.toInt < 0 ∨ 5 < x.toInt := by
  rcases Int.lt_or_le x.toInt 0 with h | h
  · exact Or.inl h
  rcases Int.lt_or_le 5 x.toInt with g | g
  · exact Or.inr g
  exfalso
  rcases (show x.toInt = 0 ∨ x.toInt = 1 ∨ x.toInt = 2 ∨ x.toInt = 3 ∨ x.toInt = 4 ∨ x.toInt = 5 by omega) with q | q | q | q | q | q
  · exact h0 (i32_ext q)
  · exact h1 (i32_ext q)
  · exact h2 (i32_ext q)
  · exact h3 (i32_ext q)
  · exact h4 (i32_ext q)
  · exact h5 (i32_ext q)
theorem nar01 {v : Int32} (h : v = 0 ∨ v = 1) : narrow .boolean (.int v) = .int v := by
  rcases h with rfl | rfl <;> rfl
