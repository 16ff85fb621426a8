section
def lw_okq (q : MethodName × Nat) : Prop := (q.1.cls ≠ "java/lang/invoke/MethodHandle" ∧ q.1.cls ≠ "java/lang/invoke/VarHandle") ∧ Cond.instantiable q.1.cls q.2 ∈ tables_1 ∧ Cond.privateMethod q.1 ∈ tables_1 ∧ Cond.instanceMethod q.1 ∈ tables_1
theorem lw_p0 : lw_okq (⟨"java/lang/Throwable", "fillInStackTrace", "(I)Ljava/lang/Throwable;"⟩, 6) := ⟨⟨by decide +kernel, by decide +kernel⟩, List.mem_of_getElem? (i := 188) (by decide +kernel), List.mem_of_getElem? (i := 186) (by decide +kernel), List.mem_of_getElem? (i := 187) (by decide +kernel)⟩
theorem lw_p1 : lw_okq (⟨"ReserveSteps", "needPiece", "(I)V"⟩, 6) := ⟨⟨by decide +kernel, by decide +kernel⟩, List.mem_of_getElem? (i := 15) (by decide +kernel), List.mem_of_getElem? (i := 227) (by decide +kernel), List.mem_of_getElem? (i := 228) (by decide +kernel)⟩
theorem lw_p2 : lw_okq (⟨"ReserveSteps", "needRobot", "(I)V"⟩, 6) := ⟨⟨by decide +kernel, by decide +kernel⟩, List.mem_of_getElem? (i := 15) (by decide +kernel), List.mem_of_getElem? (i := 309) (by decide +kernel), List.mem_of_getElem? (i := 310) (by decide +kernel)⟩
theorem lw_p3 : lw_okq (⟨"ReserveSteps", "needSpan", "(II)V"⟩, 6) := ⟨⟨by decide +kernel, by decide +kernel⟩, List.mem_of_getElem? (i := 15) (by decide +kernel), List.mem_of_getElem? (i := 314) (by decide +kernel), List.mem_of_getElem? (i := 315) (by decide +kernel)⟩
theorem lw_p4 : lw_okq (⟨"ReserveSteps", "needPriority", "(I)V"⟩, 6) := ⟨⟨by decide +kernel, by decide +kernel⟩, List.mem_of_getElem? (i := 15) (by decide +kernel), List.mem_of_getElem? (i := 319) (by decide +kernel), List.mem_of_getElem? (i := 320) (by decide +kernel)⟩
theorem lw_p5 : lw_okq (⟨"ReserveSteps", "needActive", "(I)V"⟩, 6) := ⟨⟨by decide +kernel, by decide +kernel⟩, List.mem_of_getElem? (i := 15) (by decide +kernel), List.mem_of_getElem? (i := 324) (by decide +kernel), List.mem_of_getElem? (i := 325) (by decide +kernel)⟩
theorem lw_p6 : lw_okq (⟨"ReserveSteps", "firstBar", "(IIIII)I"⟩, 6) := ⟨⟨by decide +kernel, by decide +kernel⟩, List.mem_of_getElem? (i := 15) (by decide +kernel), List.mem_of_getElem? (i := 339) (by decide +kernel), List.mem_of_getElem? (i := 340) (by decide +kernel)⟩
theorem lw_p7 : lw_okq (⟨"ReserveSteps", "needGrant", "(I)V"⟩, 6) := ⟨⟨by decide +kernel, by decide +kernel⟩, List.mem_of_getElem? (i := 15) (by decide +kernel), List.mem_of_getElem? (i := 371) (by decide +kernel), List.mem_of_getElem? (i := 372) (by decide +kernel)⟩
theorem lw_p8 : lw_okq (⟨"ReserveSteps", "areLinked", "(II)Z"⟩, 6) := ⟨⟨by decide +kernel, by decide +kernel⟩, List.mem_of_getElem? (i := 15) (by decide +kernel), List.mem_of_getElem? (i := 401) (by decide +kernel), List.mem_of_getElem? (i := 402) (by decide +kernel)⟩
theorem lw_p9 : lw_okq (⟨"ReserveStepsModel", "isPiece", "(I)Z"⟩, 19) := ⟨⟨by decide +kernel, by decide +kernel⟩, List.mem_of_getElem? (i := 520) (by decide +kernel), List.mem_of_getElem? (i := 596) (by decide +kernel), List.mem_of_getElem? (i := 597) (by decide +kernel)⟩
theorem lw_p10 : lw_okq (⟨"ReserveStepsModel", "standing", "(I)I"⟩, 19) := ⟨⟨by decide +kernel, by decide +kernel⟩, List.mem_of_getElem? (i := 520) (by decide +kernel), List.mem_of_getElem? (i := 607) (by decide +kernel), List.mem_of_getElem? (i := 608) (by decide +kernel)⟩
theorem lw_p11 : lw_okq (⟨"ReserveStepsModel", "isRobot", "(I)Z"⟩, 19) := ⟨⟨by decide +kernel, by decide +kernel⟩, List.mem_of_getElem? (i := 520) (by decide +kernel), List.mem_of_getElem? (i := 615) (by decide +kernel), List.mem_of_getElem? (i := 616) (by decide +kernel)⟩
theorem lw_p12 : lw_okq (⟨"ReserveStepsModel", "isSilent", "(I)Z"⟩, 19) := ⟨⟨by decide +kernel, by decide +kernel⟩, List.mem_of_getElem? (i := 520) (by decide +kernel), List.mem_of_getElem? (i := 619) (by decide +kernel), List.mem_of_getElem? (i := 620) (by decide +kernel)⟩
theorem lw_p13 : lw_okq (⟨"ReserveStepsModel", "isTaken", "(II)Z"⟩, 19) := ⟨⟨by decide +kernel, by decide +kernel⟩, List.mem_of_getElem? (i := 520) (by decide +kernel), List.mem_of_getElem? (i := 623) (by decide +kernel), List.mem_of_getElem? (i := 624) (by decide +kernel)⟩
theorem lw_p14 : lw_okq (⟨"ReserveStepsModel", "isRival", "(II)Z"⟩, 19) := ⟨⟨by decide +kernel, by decide +kernel⟩, List.mem_of_getElem? (i := 520) (by decide +kernel), List.mem_of_getElem? (i := 627) (by decide +kernel), List.mem_of_getElem? (i := 628) (by decide +kernel)⟩
theorem lw_p15 : lw_okq (⟨"ReserveStepsModel", "meet", "(II)Z"⟩, 19) := ⟨⟨by decide +kernel, by decide +kernel⟩, List.mem_of_getElem? (i := 520) (by decide +kernel), List.mem_of_getElem? (i := 631) (by decide +kernel), List.mem_of_getElem? (i := 632) (by decide +kernel)⟩
def lw_privs_1 : List (MethodName × Nat) := [(⟨"java/lang/Throwable", "fillInStackTrace", "(I)Ljava/lang/Throwable;"⟩, 6), (⟨"ReserveSteps", "needPiece", "(I)V"⟩, 6), (⟨"ReserveSteps", "needRobot", "(I)V"⟩, 6), (⟨"ReserveSteps", "needSpan", "(II)V"⟩, 6), (⟨"ReserveSteps", "needPriority", "(I)V"⟩, 6), (⟨"ReserveSteps", "needActive", "(I)V"⟩, 6), (⟨"ReserveSteps", "firstBar", "(IIIII)I"⟩, 6), (⟨"ReserveSteps", "needGrant", "(I)V"⟩, 6), (⟨"ReserveSteps", "areLinked", "(II)Z"⟩, 6), (⟨"ReserveStepsModel", "isPiece", "(I)Z"⟩, 19), (⟨"ReserveStepsModel", "standing", "(I)I"⟩, 19), (⟨"ReserveStepsModel", "isRobot", "(I)Z"⟩, 19), (⟨"ReserveStepsModel", "isSilent", "(I)Z"⟩, 19), (⟨"ReserveStepsModel", "isTaken", "(II)Z"⟩, 19), (⟨"ReserveStepsModel", "isRival", "(II)Z"⟩, 19), (⟨"ReserveStepsModel", "meet", "(II)Z"⟩, 19)]
theorem lw_r1 : ∀ q ∈ lw_privs_1, lw_okq q := List.forall_mem_cons.mpr ⟨lw_p0, List.forall_mem_cons.mpr ⟨lw_p1, List.forall_mem_cons.mpr ⟨lw_p2, List.forall_mem_cons.mpr ⟨lw_p3, List.forall_mem_cons.mpr ⟨lw_p4, List.forall_mem_cons.mpr ⟨lw_p5, List.forall_mem_cons.mpr ⟨lw_p6, List.forall_mem_cons.mpr ⟨lw_p7, List.forall_mem_cons.mpr ⟨lw_p8, List.forall_mem_cons.mpr ⟨lw_p9, List.forall_mem_cons.mpr ⟨lw_p10, List.forall_mem_cons.mpr ⟨lw_p11, List.forall_mem_cons.mpr ⟨lw_p12, List.forall_mem_cons.mpr ⟨lw_p13, List.forall_mem_cons.mpr ⟨lw_p14, List.forall_mem_cons.mpr ⟨lw_p15, fun _ h => absurd h List.not_mem_nil⟩⟩⟩⟩⟩⟩⟩⟩⟩⟩⟩⟩⟩⟩⟩⟩
theorem lw_p16 : lw_okq (⟨"ReserveStepsModel", "isGrant", "(I)Z"⟩, 19) := ⟨⟨by decide +kernel, by decide +kernel⟩, List.mem_of_getElem? (i := 520) (by decide +kernel), List.mem_of_getElem? (i := 639) (by decide +kernel), List.mem_of_getElem? (i := 640) (by decide +kernel)⟩
theorem lw_p17 : lw_okq (⟨"ReserveStepsModel", "liveOf", "(I)I"⟩, 19) := ⟨⟨by decide +kernel, by decide +kernel⟩, List.mem_of_getElem? (i := 520) (by decide +kernel), List.mem_of_getElem? (i := 643) (by decide +kernel), List.mem_of_getElem? (i := 644) (by decide +kernel)⟩
theorem lw_p18 : lw_okq (⟨"ReserveStepsModel", "bestOf", "(II)I"⟩, 19) := ⟨⟨by decide +kernel, by decide +kernel⟩, List.mem_of_getElem? (i := 520) (by decide +kernel), List.mem_of_getElem? (i := 667) (by decide +kernel), List.mem_of_getElem? (i := 668) (by decide +kernel)⟩
def lw_privs_2 : List (MethodName × Nat) := [(⟨"ReserveStepsModel", "isGrant", "(I)Z"⟩, 19), (⟨"ReserveStepsModel", "liveOf", "(I)I"⟩, 19), (⟨"ReserveStepsModel", "bestOf", "(II)I"⟩, 19)]
theorem lw_r2 : ∀ q ∈ lw_privs_2, lw_okq q := List.forall_mem_cons.mpr ⟨lw_p16, List.forall_mem_cons.mpr ⟨lw_p17, List.forall_mem_cons.mpr ⟨lw_p18, fun _ h => absurd h List.not_mem_nil⟩⟩⟩
def lw_privs : List (MethodName × Nat) := lw_privs_1 ++ (lw_privs_2)
def lw_tbl : List Cond := k2_sels lw_privs ++ tables_1
theorem lw_privs_ok : ∀ q ∈ lw_privs, lw_okq q := by
  show ∀ q ∈ lw_privs_1 ++ (lw_privs_2), lw_okq q
  exact List.forall_mem_append.mpr ⟨lw_r1, lw_r2⟩
def R_law : String := "ReserveStepsLaw"
def lw_P (b : Addr) (xs : List Int32) (args : Array Value) (s : State) : Prop := args = #[.ref b] ∧ s.IntsAt b xs ∧ xs.length ≤ 3072 ∧ (Jvm.Cond.and given_1 narrow_1).before args s = true
def lw_Q (_ : Array Value) (s : State) (o : Outcome) (t : State) : Prop := o = .returned (some (.int 1)) ∧ Framed s o t [] 1078 9466
def lw_Z (below : List Frame) (a : Array Value) (s : State) : State → Prop := fun t => ∃ o, t.status = .running ∧ Ended t below o ∧ lw_Q a s o t
theorem lw_ret {p : Program} {l : Launch} {e : Env} {s : State} {m : MethodId} {below : List Frame} {meth : Method} {c : Code} {b : Nat} (hx : p.tables.exec = Jvm.exec) (hb : c.code = code) (hr : meth.sig.returnType = ret) (hlocks : meth.locks = false) {pc : Nat} {H : Heap} {ls : Array Slot} (hdg : decode code pc = .ok (.ireturn, 1)) : W p l e room_1 s m #[Value.ref b] below meth c H [] 1078 9466 (lw_Z below #[Value.ref b] s) (F0 m pc ls [.int 1]) := by
  intro T hT X
  obtain ⟨fs, hret, hrun, hended, hW, hframe⟩ := X.leave (v := some (.int 1)) (hlocks := hlocks) (fun h => by rw [hr] at h; cases h)
  have hmeth' : T.vm.method? m = some meth := X.method'
  refine ⟨T.setFrames fs, ?_, .returned (some (.int 1)), hrun, hended, rfl, ⟨_, rfl⟩, hW, hframe⟩
  jvm_step X.here [X.here.top, hx, hb, hdg, hmeth', hr, ret, narrow_b1]
  (try refine ⟨rfl, ?_⟩); (try refine ⟨rfl, ?_⟩)
  first | (intro acts; rw [hret _ acts rfl rfl rfl]) | rw [hret _ _ rfl rfl rfl]
  exact Steps.refl _
def lw_At (p : Program) (s : State) (m : MethodId) (meth : Method) (c : Code) (b L : Nat) (xs : Nat → Int32) : Prop :=
  p.tables.exec = Jvm.exec ∧ c.code = code ∧ meth.sig.returnType = ret ∧ c.maxLocals = 7 ∧ s.vm.findClass R_law = some m.cls ∧ (∀ w ∈ lw_tbl, w.before #[Value.ref b] s = true) ∧ va_X b L xs s s.heap ∧ b < s.heap.size ∧ meth.locks = false ∧ (Jvm.Cond.and given_1 narrow_1).before #[Value.ref b] s = true
end
section
theorem goodIn_r {big : List Cond} (ws : List Cond) (ps : List Nat) (hp : ws = ps.filterMap (fun i => big[i]?)) (h : ws.all goodWord = true) : GoodIn big ws := by
  intro w hw
  have h1 := List.all_eq_true.mp h w hw
  rw [hp] at hw
  obtain ⟨i, -, hi⟩ := List.mem_filterMap.mp hw
  have hm : w ∈ big := by first | exact List.mem_of_getElem? hi | exact List.getElem?_mem hi
  exact ⟨hm, good_of_word h1⟩
theorem goodIn_app {big a b : List Cond} (ha : GoodIn big a) (hb : GoodIn big b) : GoodIn big (a ++ b) := fun w h => (List.mem_append.mp h).elim (ha w) (hb w)
theorem goodIn_ca {big a b : List Cond} {c : Cond} (ha : GoodIn big (c :: a)) (hb : GoodIn big b) : GoodIn big (c :: (a ++ b)) := fun w h => (List.mem_cons.mp h).elim (fun e => ha w (List.mem_cons.mpr (Or.inl e))) (fun h => (List.mem_append.mp h).elim (fun h => ha w (List.mem_cons.mpr (Or.inr h))) (hb w))
theorem goodIn_sub {big ws : List Cond} (hm : ∀ w ∈ ws, w ∈ big) (h : ws.all goodWord = true) : GoodIn big ws := fun w hw => ⟨hm w hw, good_of_word (List.all_eq_true.mp h w hw)⟩
section VXA
def vx_T (XC : String → State → State → Prop) (st : State) (q : Addr) (t : State) (mc ms : Nat) (free : Addr → Prop) : Prop :=
  ∃ (E : String) (ce : Cell) (L : List Loc), XC E st t ∧ t.heap[q]? = some ce ∧ ce.vm = .none ∧ st.vm.findClass E = some ce.cls ∧ st.WarmedH t.vm ∧ st.sameButNew ({ t with vm := st.vm } : State) L mc ms ∧ ∀ z ∈ L, free z.base
def vx_Q (Qc : Array Value → State → Outcome → State → Prop) (XC : String → State → State → Prop) (mc ms : Nat) (free : Addr → Prop) : Array Value → State → Outcome → State → Prop := fun a st o t =>
  (Qc a st o t ∧ ∃ L, FrameEnd st o t L mc ms ∧ ∀ q ∈ L, free q.base) ∨ ∃ q, o = .threw q ∧ vx_T XC st q t mc ms free
def vx_Met (l : Launch) (y : MethodName) (ws : List Cond) (rm : Room) (Pc : Array Value → State → Prop) (Qc : Array Value → State → Outcome → State → Prop) (XC : String → State → State → Prop) (mc ms : Nat) (free : Addr → Prop) : Prop :=
  MetFree l y (headSpec ws rm) Pc (fun _ _ _ _ _ => True) (vx_Q Qc XC mc ms free)
def vx_Post (XC : String → State → State → Prop) (mc ms : Nat) (free : Addr → Prop) : Pt → Array Value → Addr → Pt → Prop := fun A a q B =>
  ∃ (g : JFrame) (mk : MethodId) (t : State) (L : List Loc) (E : String) (ce : Cell), B.U.heap = t.heap ∧ B.U.vm = t.vm ∧ XC E (A.U.calling g mk a) t ∧ t.heap[q]? = some ce ∧ ce.vm = .none ∧ A.U.vm.findClass E = some ce.cls ∧ B.locs = A.locs ++ L ∧ (∀ z ∈ L, free z.base) ∧ B.cells = A.cells + mc ∧ B.slots = A.slots + ms
def vx_Back (l : Launch) (R : Room) (p : Program) (e : Env) (below : List Frame) (s : State) (sargs : Array Value) (y : MethodName) (len W9 : Nat)
    (Pre : Pt → Array Value → Prop) (Post : Pt → Array Value → Option Value → Pt → Prop) (PostX : Pt → Array Value → Addr → Pt → Prop) : Prop :=
  ∀ (m : MethodId) (meth : Method) (c : Code) (A : Pt) (g : JFrame) (ig : Instr) (mk : MethodId) (a : Array Value),
    Stand p l e R s m sargs below meth c A.U A.locs A.cells A.slots → g.method = m → g.locals.size = c.maxLocals → decode c.code g.pc = .ok (ig, len) →
    2 * g.monitorRoom + (g.stack.map fun v => v.category).sum ≤ W9 → A.U.methodNamed? y = some mk → Pre A a →
    (∃ (v : Option Value) (B : Pt), Stand p l e R s m sargs below meth c B.U B.locs B.cells B.slots ∧ Post A a v B ∧
      Steps p.tables e below (doInvoke e (A.U.setTop g) [] mk a).1 (B.U.setTop { g with pc := g.pc + len, stack := v.toList ++ g.stack })) ∨
    (∃ (q : Addr) (B : Pt), Stand p l e R s m sargs below meth c B.U B.locs B.cells B.slots ∧ PostX A a q B ∧
      Steps p.tables e below (doInvoke e (A.U.setTop g) [] mk a).1 ((B.U.setTop g).pushFrame (.throwing q)))
section Payer
variable {l : Launch} {R : Room} {p : Program} {e : Env} {below : List Frame} {s : State} {sargs : Array Value} {y : MethodName} {len W9 : Nat}
theorem vx_back {ws : List Cond} {rm : Room} {Pc : Array Value → State → Prop} {Qc : Array Value → State → Outcome → State → Prop} {XC : String → State → State → Prop} {mc ms : Nat} {free : Addr → Prop} {bytes : ByteArray} {maxL : Nat} {ret : Option FieldType}
    (hM : vx_Met l y ws rm Pc Qc XC mc ms free) (hblind : FrameBlind Pc) (hrc : rm.cells = mc) (hrs : rm.slots = ms)
    (hframes : rm.frames + 1 ≤ R.frames) (hlocals : W9 + (maxL + 11) + rm.locals ≤ R.locals)
    (hws : ∀ w ∈ ws, ∀ a' U, s.WarmedH U.vm → w.before a' U = true) (hcode : Cond.code y bytes maxL ret ∈ ws) (hinit : ∀ a' U, s.WarmedH U.vm → (Cond.initialized y.cls).before a' U = true) :
    vx_Back l R p e below s sargs y len W9 (PreOf R mc ms Pc) (PostOf Qc mc ms free) (vx_Post XC mc ms free) := by
  intro m meth c A g ig mk a X hg hsize hdg hW hn hp
  have h1 : (headSpec ws rm).pre.before a A.U = true := atoms_intro fun w hw => hws w hw _ _ X.warmed
  have h2 : (Cond.code y bytes maxL ret).before a A.U = true := hws _ hcode _ _ X.warmed
  have h3 : (Cond.initialized y.cls).before a A.U = true := hinit _ _ X.warmed
  have h4 : A.cells + (headSpec ws rm).room.cells ≤ R.cells := by rw [show (headSpec ws rm).room.cells = mc from hrc]; exact hp.1
  have h5 : A.slots + (headSpec ws rm).room.slots ≤ R.slots := by rw [show (headSpec ws rm).room.slots = ms from hrs]; exact hp.2.1
  have hPc : Pc a (A.U.calling g mk a) := hblind _ _ _ _ hp.2.2
  obtain ⟨U, Ls, c0, s0⟩ := A
  dsimp only [Pt.U, Pt.locs, Pt.cells, Pt.slots] at h1 h2 h3 h4 h5 X hn hPc ⊢
  obtain ⟨methY, cY, hmY, hcY, -, hlY, -, -, -, -⟩ := Cond.code_spec hn h2
  obtain ⟨kY, hkY, -⟩ := className_of_methodNamed hn
  have hinitY : kY.init = .initialized := Cond.initialized_spec (findClass_of_methodNamed hn) hkY h3
  have h : At U g.method c below := by rw [hg]; exact X.here
  have hlocals9 : W9 + (maxL + 11) + (headSpec ws rm).room.locals ≤ R.locals := hlocals
  have happ : (headSpec ws rm).appliesLoose y e.platform (U.calling g mk a) = true :=
    Spec.appliesLoose_calling (g := g) h hdg hn hkY hinitY
      (X.room_calling (g := g) (R' := (headSpec ws rm).room) hsize hmY hcY hframes (by rw [hlY]; omega) h4 h5) h1
  obtain ⟨mid, hmid⟩ := h.above
  have hfr : (U.setTop g).frames = (.java g :: mid) ++ below := by rw [State.frames_setTop' g h.top, hmid]; rfl
  obtain ⟨o, s₂, hsteps, -, hend, hq⟩ := Steps.callFree hM p X.admits X.cas X.clock (acts := []) hfr happ hPc trivial
  have hq' : vx_Q Qc XC mc ms free a (U.calling g mk a) o s₂ := hq
  rw [State.frames_setTop' g h.top] at hend
  obtain ⟨g₀, hg0⟩ := Option.isSome_iff_exists.mp h.top
  obtain ⟨r, hr⟩ := State.topJava?_eq_some.mp hg0
  have hr' : (({ U with heap := s₂.heap, slotsUsed := s₂.slotsUsed } : State).setVm s₂.vm).frames = .java g₀ :: r := hr
  rcases hq' with ⟨hqc, L, hfe, hL⟩ | ⟨q, rfl, E, ce, L, hx, hce, hcv, hcl, hW₂, hsm, hL⟩
  · obtain ⟨⟨v, rfl⟩, hW₂, e2, q2, q3, q4, q5, q6⟩ := id hfe
    have e3 : s₂ = ({ (U.calling g mk a).setFrames s₂.frames with heap := s₂.heap, slotsUsed := s₂.slotsUsed } : State).setVm s₂.vm := by
      have : s₂ = ({ s₂ with vm := (U.calling g mk a).vm } : State).setVm s₂.vm := rfl
      rw [e2] at this
      exact this
    obtain ⟨c₂, i₂, len₂, hc₂, hd₂, hf₂⟩ := hend
    have hW' : U.WarmedH s₂.vm := hW₂
    have hcc : c₂ = c := by
      have h1 : s₂.code? g.method = U.code? g.method := by
        rw [State.code?_eq, State.code?_eq, hW'.alike.method?]
      exact Option.some.inj (hc₂.symm.trans (h1.trans h.code))
    subst hcc
    have hlen : len₂ = len := by rw [hdg] at hd₂; cases hd₂; rfl
    subst hlen
    have hs₂ : s₂ = (({ U with heap := s₂.heap, slotsUsed := s₂.slotsUsed } : State).setVm s₂.vm).setTop { g with pc := g.pc + len₂, stack := v.toList ++ g.stack } := by
      refine e3.trans ?_
      rw [hf₂, State.calling_eq h.top, State.setFrames_setFrames, State.setTop_of_frames _ hr', hr]
      rfl
    have hsame : U.sameButNew ({ U with heap := s₂.heap, slotsUsed := s₂.slotsUsed } : State) L mc ms := by
      refine ⟨?_, q2, q3, q4, q5, q6⟩
      obtain ⟨t, ht, -⟩ := State.frames_cons hr
      show ({ U with heap := s₂.heap, slotsUsed := s₂.slotsUsed } : State) = { U.setFrames U.frames with heap := s₂.heap, slotsUsed := s₂.slotsUsed }
      rw [State.setFrames_self ht]
    subst hg
    refine Or.inl ⟨v, ⟨(({ U with heap := s₂.heap, slotsUsed := s₂.slotsUsed } : State).setVm s₂.vm), Ls ++ L, c0 + mc, s0 + ms⟩,
      ⟨X.admits, X.cas, X.clock, X.frames, X.room, X.hears, X.method, X.code, (X.here.setHeapUsed s₂.heap s₂.slotsUsed).setVm hW'.alike, X.tail, State.WarmedH.trans X.warmed hW', X.limits, X.bytes, X.same.trans (hsame.setVm s.vm)⟩,
      ⟨g, mk, s₂, L, rfl, rfl, hqc, rfl, hL, rfl, rfl⟩, ?_⟩
    show Steps p.tables e below _ ((({ U with heap := s₂.heap, slotsUsed := s₂.slotsUsed } : State).setVm s₂.vm).setTop { g with pc := g.pc + len₂, stack := v.toList ++ g.stack })
    rw [← hs₂]
    exact hsteps
  · obtain ⟨e2, q2, q3, q4, q5, q6⟩ := id hsm
    have e3 : s₂ = ({ (U.calling g mk a).setFrames s₂.frames with heap := s₂.heap, slotsUsed := s₂.slotsUsed } : State).setVm s₂.vm := by
      have : s₂ = ({ s₂ with vm := (U.calling g mk a).vm } : State).setVm s₂.vm := rfl
      rw [e2] at this
      exact this
    have hf₂ : s₂.frames = .throwing q :: .java g :: U.frames.tail := hend
    have hW' : U.WarmedH s₂.vm := hW₂
    have hs₂ : s₂ = ((({ U with heap := s₂.heap, slotsUsed := s₂.slotsUsed } : State).setVm s₂.vm).setTop g).pushFrame (.throwing q) := by
      refine e3.trans ?_
      rw [hf₂, State.calling_eq h.top, State.setFrames_setFrames, State.pushFrame, State.frames_setTop _ hr', State.setTop_of_frames _ hr', State.setFrames_setFrames, hr]
      rfl
    have hsame : U.sameButNew ({ U with heap := s₂.heap, slotsUsed := s₂.slotsUsed } : State) L mc ms := by
      refine ⟨?_, q2, q3, q4, q5, q6⟩
      obtain ⟨t, ht, -⟩ := State.frames_cons hr
      show ({ U with heap := s₂.heap, slotsUsed := s₂.slotsUsed } : State) = { U.setFrames U.frames with heap := s₂.heap, slotsUsed := s₂.slotsUsed }
      rw [State.setFrames_self ht]
    subst hg
    refine Or.inr ⟨q, ⟨(({ U with heap := s₂.heap, slotsUsed := s₂.slotsUsed } : State).setVm s₂.vm), Ls ++ L, c0 + mc, s0 + ms⟩,
      ⟨X.admits, X.cas, X.clock, X.frames, X.room, X.hears, X.method, X.code, (X.here.setHeapUsed s₂.heap s₂.slotsUsed).setVm hW'.alike, X.tail, State.WarmedH.trans X.warmed hW', X.limits, X.bytes, X.same.trans (hsame.setVm s.vm)⟩,
      ⟨g, mk, s₂, L, E, ce, rfl, rfl, hx, hce, hcv, hcl, rfl, hL, rfl, rfl⟩, ?_⟩
    show Steps p.tables e below _ (((({ U with heap := s₂.heap, slotsUsed := s₂.slotsUsed } : State).setVm s₂.vm).setTop g).pushFrame (.throwing q))
    rw [← hs₂]
    exact hsteps
end Payer
section Calls
variable {p : Program} {l : Launch} {e : Env} {R : Room} {s : State} {m : MethodId} {args : Array Value} {below : List Frame} {meth : Method} {c : Code} {T : State} {locs : List Loc} {cells slots : Nat}
theorem vx_callV (X : Stand p l e R s m args below meth c T locs cells slots) (hexec : p.tables.exec = Jvm.exec) {own C : String} {index : Nat} {y : MethodName} {bytes : ByteArray} {maxL : Nat} {ret : Option FieldType}
    (hown : s.vm.findClass own = some m.cls) (hlink : (Cond.methodLink own index y).before args s = true) (hinst : (Cond.instanceMethod y).before args s = true) (hsel : (Cond.selects C y y).before args s = true)
    (hcode : (Cond.code y bytes maxL ret).before args s = true) (hy : y.cls ≠ "java/lang/invoke/MethodHandle" ∧ y.cls ≠ "java/lang/invoke/VarHandle")
    {W9 : Nat} {Pre : Pt → Array Value → Prop} {Post : Pt → Array Value → Option Value → Pt → Prop} {PostX : Pt → Array Value → Addr → Pt → Prop} (hK : vx_Back l R p e below s args y 3 W9 Pre Post PostX)
    {b : Addr} {cellB : Cell} (hcell : T.heap[b]? = some cellB) (hobj : cellB.vm.isStatics = false) (hcls : s.vm.findClass C = some cellB.cls)
    {g : JFrame} (hg : g.method = m) (hsize : g.locals.size = c.maxLocals) {argsL rest : List Value} (hlen : ∀ sig, parseMethodDescriptor y.desc = some sig → argsL.length = sig.parameters.length)
    (hstack : g.stack = argsL.reverse ++ .ref b :: rest) (hW : 2 * g.monitorRoom + (rest.map fun v => v.category).sum ≤ W9) (hdg : decode c.code g.pc = .ok (.invokevirtual index, 3))
    (hpre : ∀ vm₁, s.WarmedH vm₁ → Pre ⟨T.setVm vm₁, locs, cells, slots⟩ (Value.ref b :: argsL).toArray) :
    (∃ (v : Option Value) (vm₁ : Vm) (B : Pt), s.WarmedH vm₁ ∧ Stand p l e R s m args below meth c B.U B.locs B.cells B.slots ∧ Post ⟨T.setVm vm₁, locs, cells, slots⟩ (Value.ref b :: argsL).toArray v B ∧
      ∀ target, Steps p.tables e below (B.U.setTop { g with pc := g.pc + 3, stack := v.toList ++ rest }) target → Steps p.tables e below (T.setTop g) target) ∨
    (∃ (q : Addr) (vm₁ : Vm) (B : Pt), s.WarmedH vm₁ ∧ Stand p l e R s m args below meth c B.U B.locs B.cells B.slots ∧ PostX ⟨T.setVm vm₁, locs, cells, slots⟩ (Value.ref b :: argsL).toArray q B ∧
      Steps p.tables e below (T.setTop g) ((B.U.setTop { g with stack := rest }).pushFrame (.throwing q))) := by
  obtain ⟨mk, methM, hnamed, hmethM, hstM, habM⟩ := Cond.instanceMethod_spec hinst
  obtain ⟨methM', cM, hmethM', -, -, -, -, -, -, hsigM⟩ := Cond.code_spec hnamed hcode
  cases hmethM.symm.trans hmethM'
  obtain ⟨c2, r2, m2, q1, q2, q3, q4, kP, hkP, hkPi⟩ := Cond.selects_spec hsel
  cases hcls.symm.trans q1
  cases (State.methodFound?_of_named hnamed hy).symm.trans q2
  cases hnamed.symm.trans q3
  have hselP : selectMethod e.platform s.vm cellB.cls mk = .method mk := by rw [Launch.admits_selectMethod X.admits]; exact q4
  obtain ⟨vm₁, X₁, hstep₁⟩ := X.invokevirtual hexec hown hlink hnamed hmethM hstM hkP hkPi hy (a := b) (cell := cellB) hcell
    (fun z h => by rw [h] at hobj; cases hobj) hselP hmethM habM hkP hkPi (g := g) hg (argsL := argsL) (rest := rest) (hlen _ hsigM) hstack hdg
  rcases hK m meth c ⟨T.setVm vm₁, locs, cells, slots⟩ { g with stack := rest } (.invokevirtual index) mk (Value.ref b :: argsL).toArray X₁ hg hsize hdg hW (X₁.named hnamed) (hpre vm₁ X₁.warmed) with ⟨v, B, X', hpost, hsteps⟩ | ⟨q, B, X', hpost, hsteps⟩
  · exact Or.inl ⟨v, vm₁, B, X₁.warmed, X', hpost, fun target h => hstep₁ _ fun acts => by rw [doInvoke_state]; exact hsteps.trans h⟩
  · exact Or.inr ⟨q, vm₁, B, X₁.warmed, X', hpost, hstep₁ _ fun acts => by rw [doInvoke_state]; exact hsteps⟩
theorem vx_callS (X : Stand p l e R s m args below meth c T locs cells slots) (hexec : p.tables.exec = Jvm.exec) {own : String} {index : Nat} {y : MethodName} {bytes : ByteArray} {maxL : Nat} {ret : Option FieldType}
    (hown : s.vm.findClass own = some m.cls) (hlink : (Cond.methodLink own index y).before args s = true) (hstat : (Cond.static y).before args s = true) (hinit : (Cond.initialized y.cls).before args s = true)
    (hcode : (Cond.code y bytes maxL ret).before args s = true) (hy : y.cls ≠ "java/lang/invoke/MethodHandle" ∧ y.cls ≠ "java/lang/invoke/VarHandle")
    {W9 : Nat} {Pre : Pt → Array Value → Prop} {Post : Pt → Array Value → Option Value → Pt → Prop} {PostX : Pt → Array Value → Addr → Pt → Prop} (hK : vx_Back l R p e below s args y 3 W9 Pre Post PostX)
    {g : JFrame} (hg : g.method = m) (hsize : g.locals.size = c.maxLocals) {argsL rest : List Value} (hlen : ∀ sig, parseMethodDescriptor y.desc = some sig → argsL.length = sig.parameters.length)
    (hstack : g.stack = argsL.reverse ++ rest) (hW : 2 * g.monitorRoom + (rest.map fun v => v.category).sum ≤ W9) (hdg : decode c.code g.pc = .ok (.invokestatic index, 3))
    (hpre : ∀ vm₁, s.WarmedH vm₁ → Pre ⟨T.setVm vm₁, locs, cells, slots⟩ argsL.toArray) :
    (∃ (v : Option Value) (vm₁ : Vm) (B : Pt), s.WarmedH vm₁ ∧ Stand p l e R s m args below meth c B.U B.locs B.cells B.slots ∧ Post ⟨T.setVm vm₁, locs, cells, slots⟩ argsL.toArray v B ∧
      ∀ target, Steps p.tables e below (B.U.setTop { g with pc := g.pc + 3, stack := v.toList ++ rest }) target → Steps p.tables e below (T.setTop g) target) ∨
    (∃ (q : Addr) (vm₁ : Vm) (B : Pt), s.WarmedH vm₁ ∧ Stand p l e R s m args below meth c B.U B.locs B.cells B.slots ∧ PostX ⟨T.setVm vm₁, locs, cells, slots⟩ argsL.toArray q B ∧
      Steps p.tables e below (T.setTop g) ((B.U.setTop { g with stack := rest }).pushFrame (.throwing q))) := by
  obtain ⟨mk, hnamed⟩ := Cond.code_named hcode
  obtain ⟨methM, cM, hmethM, -, -, -, -, -, -, hsigM⟩ := Cond.code_spec hnamed hcode
  have hstatic : methM.isStatic = true := Cond.static_spec hnamed hmethM hstat
  obtain ⟨kP, hkP, -⟩ := className_of_methodNamed hnamed
  have hinitP : kP.init = .initialized := Cond.initialized_spec (findClass_of_methodNamed hnamed) hkP hinit
  obtain ⟨vm₁, X₁, hstep₁⟩ := X.invokestatic hexec hown hlink hnamed hmethM hstatic hkP hinitP hy (g := g) hg (argsL := argsL) (rest := rest) (hlen _ hsigM) hstack hdg
  rcases hK m meth c ⟨T.setVm vm₁, locs, cells, slots⟩ { g with stack := rest } (.invokestatic index) mk argsL.toArray X₁ hg hsize hdg hW (X₁.named hnamed) (hpre vm₁ X₁.warmed) with ⟨v, B, X', hpost, hsteps⟩ | ⟨q, B, X', hpost, hsteps⟩
  · exact Or.inl ⟨v, vm₁, B, X₁.warmed, X', hpost, fun target h => hstep₁ _ fun acts => by rw [doInvoke_state]; exact hsteps.trans h⟩
  · exact Or.inr ⟨q, vm₁, B, X₁.warmed, X', hpost, hstep₁ _ fun acts => by rw [doInvoke_state]; exact hsteps⟩
end Calls
theorem vx_cls {s : State} {T : State} {vm₁ : Vm} {E : String} {k : ClassId} (hW : s.WarmedH vm₁) (h : (T.setVm vm₁).vm.findClass E = some k) : s.vm.findClass E = some k := by
  have h1 : vm₁.findClass E = some k := h
  rw [hW.alike.findClass] at h1
  exact h1
def vx_W (p : Program) (l : Launch) (e : Env) (R : Room) (s : State) (m : MethodId) (args : Array Value) (below : List Frame) (meth : Method) (c : Code) (H : Heap) (locs : List Loc) (cells slots : Nat) (Q : State → Prop) (g : JFrame) (q : Addr) : Prop :=
  ∀ T : State, T.heap = H → Stand p l e R s m args below meth c T locs cells slots → ∃ t, Steps p.tables e below ((T.setTop g).pushFrame (.throwing q)) t ∧ Q t
def vx_Run (p : Program) (l : Launch) (e : Env) (R : Room) (s : State) (m : MethodId) (args : Array Value) (below : List Frame) (meth : Method) (c : Code) (H : Heap) (locs : List Loc) (cells slots mc ms : Nat) (g : JFrame) (rest : List Value) (Qa : State → Outcome → State → Prop) (XC : String → State → State → Prop) (free : Addr → Prop) : Prop :=
  ∀ T : State, T.heap = H → Stand p l e R s m args below meth c T locs cells slots →
    (∃ (v : Option Value) (st₀ t T' : State) (L : List Loc), st₀.heap = H ∧ Stand p l e R s m args below meth c T' (locs ++ L) (cells + mc) (slots + ms) ∧ (∀ q ∈ L, free q.base) ∧ T'.heap = t.heap ∧ T'.vm = t.vm ∧ Qa st₀ (.returned v) t ∧
      Goes p e below T g T' { g with pc := g.pc + 3, stack := v.toList ++ rest }) ∨
    (∃ (q : Addr) (st₀ t T' : State) (L : List Loc) (E : String) (ce : Cell), st₀.heap = H ∧ Stand p l e R s m args below meth c T' (locs ++ L) (cells + mc) (slots + ms) ∧ (∀ z ∈ L, free z.base) ∧ T'.heap = t.heap ∧ T'.vm = t.vm ∧ XC E st₀ t ∧ t.heap[q]? = some ce ∧ ce.vm = .none ∧ s.vm.findClass E = some ce.cls ∧
      Steps p.tables e below (T.setTop g) ((T'.setTop { g with stack := rest }).pushFrame (.throwing q)))
def vx_X {S : Type} (px : S → Prop) (B : String → S → State → Prop) (A : Nat → Prop) : String → State → State → Prop := fun E st t => ∃ u : S, px u ∧ B E u t ∧ va_F A st t
section Runs
variable {p : Program} {l : Launch} {e : Env} {R : Room} {s : State} {m : MethodId} {args : Array Value} {below : List Frame} {meth : Method} {c : Code} {H : Heap} {locs : List Loc} {cells slots : Nat}
variable {y : MethodName} {bytes cc : ByteArray} {maxL nL mc ms n index : Nat} {ret : Option FieldType} {ws : List Cond} {rm : Room} {Pc : Array Value → State → Prop} {Qc : Array Value → State → Outcome → State → Prop} {XC : String → State → State → Prop} {free : Addr → Prop} {Ts : List Cond} {own C : String} {b : Addr} {As rest : List Value} {g : JFrame}
theorem vx_callBack (cb : CallB R s args own index y bytes maxL ret ws rm mc ms n) (hM : vx_Met l y ws rm Pc Qc XC mc ms free) (hbl : FrameBlind Pc) : vx_Back l R p e below s args y 3 8 (PreOf R mc ms Pc) (PostOf Qc mc ms free) (vx_Post XC mc ms free) := by
  obtain ⟨hrc, hrs, hfr, hlo, hws, hcw, -, hini, -⟩ := cb
  exact vx_back (bytes := bytes) (maxL := maxL) (ret := ret) hM hbl hrc hrs hfr hlo hws hcw (fun a' U hW => word_at hW (Or.inl (by first | rfl | simp [Cond.onTables, Cond.keeps, Cond.steady])) hini)
theorem vx_runV (S : CallFix p m c cc nL s args Ts own) (hM : vx_Met l y ws rm Pc Qc XC mc ms free) (cw : CallW R s args own C index y bytes maxL ret ws rm mc ms n) (hp : PreV s H C b Pc As)
    (hg : g.method = m) (hn : As.length = n) (hsize : g.locals.size = nL) (hstack : g.stack = As.reverse ++ .ref b :: rest) (hW : 2 * g.monitorRoom + (rest.map fun v => v.category).sum ≤ 8) (hdg : decode cc g.pc = .ok (.invokevirtual index, 3)) (hf : cells + mc ≤ R.cells ∧ slots + ms ≤ R.slots) :
    vx_Run p l e R s m args below meth c H locs cells slots mc ms g rest (Qc (Value.ref b :: As).toArray) XC free := by
  have hK : vx_Back l R p e below s args y 3 8 (PreOf R mc ms Pc) (PostOf Qc mc ms free) (vx_Post XC mc ms free) := vx_callBack cw.1 hM hp.1
  obtain ⟨⟨-, -, -, -, -, -, hcode, -, hy, hlen, hl⟩, hin, hse⟩ := cw
  obtain ⟨hx, hb, hml, ho, -⟩ := S
  obtain ⟨-, ⟨cellB, hcB, hoB, hclB⟩, hPc⟩ := hp
  intro T hT X
  rcases vx_callV X hx (C := C) (bytes := bytes) (maxL := maxL) (ret := ret) ho hl hin hse hcode hy hK (by rw [hT]; exact hcB) hoB hclB hg (hsize.trans hml.symm) (argsL := As) (rest := rest) (fun sig h => hn.trans (hlen sig h)) hstack hW (by rw [hb]; exact hdg)
    (fun vm₁ hW₁ => ⟨hf.1, hf.2, hPc (T.setVm vm₁) hT hW₁⟩) with ⟨v, vm₁, ⟨U', l2, c2, s2⟩, hW₁, X', ⟨g', mk, t, L, e1, e2, hq, h1, hL, h2, h3⟩, st⟩ | ⟨q, vm₁, ⟨U', l2, c2, s2⟩, hW₁, X', ⟨g', mk, t, L, E, ce, e1, e2, hq, hce, hcv, hcl, h1, hL, h2, h3⟩, st⟩
  · dsimp only [Pt.U, Pt.locs, Pt.cells, Pt.slots] at X' e1 e2 h1 h2 h3 st
    subst h1; subst h2; subst h3
    exact Or.inl ⟨v, (T.setVm vm₁).calling g' mk (Value.ref b :: As).toArray, t, U', L, hT, X', hL, e1, e2, hq, st⟩
  · dsimp only [Pt.U, Pt.locs, Pt.cells, Pt.slots] at X' e1 e2 h1 h2 h3 st hcl
    subst h1; subst h2; subst h3
    exact Or.inr ⟨q, (T.setVm vm₁).calling g' mk (Value.ref b :: As).toArray, t, U', L, E, ce, hT, X', hL, e1, e2, hq, hce, hcv, vx_cls hW₁ hcl, st⟩
theorem vx_runS (S : CallFix p m c cc nL s args Ts own) (hM : vx_Met l y ws rm Pc Qc XC mc ms free) (cw : CallB R s args own index y bytes maxL ret ws rm mc ms n ∧ (Cond.static y).before args s = true) (hp : PreS s H Pc As)
    (hg : g.method = m) (hn : As.length = n) (hsize : g.locals.size = nL) (hstack : g.stack = As.reverse ++ rest) (hW : 2 * g.monitorRoom + (rest.map fun v => v.category).sum ≤ 8) (hdg : decode cc g.pc = .ok (.invokestatic index, 3)) (hf : cells + mc ≤ R.cells ∧ slots + ms ≤ R.slots) :
    vx_Run p l e R s m args below meth c H locs cells slots mc ms g rest (Qc As.toArray) XC free := by
  have hK : vx_Back l R p e below s args y 3 8 (PreOf R mc ms Pc) (PostOf Qc mc ms free) (vx_Post XC mc ms free) := vx_callBack cw.1 hM hp.1
  obtain ⟨⟨-, -, -, -, -, -, hcode, hini, hy, hlen, hl⟩, hstt⟩ := cw
  obtain ⟨hx, hb, hml, ho, -⟩ := S
  intro T hT X
  rcases vx_callS X hx (bytes := bytes) (maxL := maxL) (ret := ret) ho hl hstt hini hcode hy hK hg (hsize.trans hml.symm) (argsL := As) (rest := rest) (fun sig h => hn.trans (hlen sig h)) hstack hW (by rw [hb]; exact hdg)
    (fun vm₁ hW₁ => ⟨hf.1, hf.2, hp.2 (T.setVm vm₁) hT hW₁⟩) with ⟨v, vm₁, ⟨U', l2, c2, s2⟩, hW₁, X', ⟨g', mk, t, L, e1, e2, hq, h1, hL, h2, h3⟩, st⟩ | ⟨q, vm₁, ⟨U', l2, c2, s2⟩, hW₁, X', ⟨g', mk, t, L, E, ce, e1, e2, hq, hce, hcv, hcl, h1, hL, h2, h3⟩, st⟩
  · dsimp only [Pt.U, Pt.locs, Pt.cells, Pt.slots] at X' e1 e2 h1 h2 h3 st
    subst h1; subst h2; subst h3
    exact Or.inl ⟨v, (T.setVm vm₁).calling g' mk As.toArray, t, U', L, hT, X', hL, e1, e2, hq, st⟩
  · dsimp only [Pt.U, Pt.locs, Pt.cells, Pt.slots] at X' e1 e2 h1 h2 h3 st hcl
    subst h1; subst h2; subst h3
    exact Or.inr ⟨q, (T.setVm vm₁).calling g' mk As.toArray, t, U', L, E, ce, hT, X', hL, e1, e2, hq, hce, hcv, vx_cls hW₁ hcl, st⟩
end Runs
section Rows
variable {p : Program} {l : Launch} {e : Env} {R : Room} {s : State} {m : MethodId} {args : Array Value} {below : List Frame} {meth : Method} {c : Code} {H : Heap} {locs : List Loc} {cells slots : Nat} {Q : State → Prop}
variable {mc ms : Nat} {free : Addr → Prop} {A0 A1 : Nat → Prop} {H0 : Heap} {a : Array Value} {pc : Nat} {ls : Array Slot} {st0 rest : List Value}
theorem vx_keep {st₀ t T' : State} {L : List Loc} (h0 : st₀.heap = H) (e1 : T'.heap = t.heap) (hS : va_S A0 H0 H locs) (hA : ∀ q, q < H.size → A1 q → A0 q) (hf : ∀ q, free q → A0 q) (hL : ∀ q ∈ L, free q.base) (hF : va_F A1 st₀ t) :
    H.size ≤ T'.heap.size ∧ (∀ q : Nat, q < H.size → ¬ A1 q → T'.heap[q]? = H[q]?) ∧ va_S A0 H0 T'.heap (locs ++ L) := by
  obtain ⟨hz, hk⟩ := hF
  rw [h0] at hz hk
  exact ⟨by rw [e1]; exact hz, fun q h1 h2 => by rw [e1]; exact hk q h1 h2,
    ⟨Nat.le_trans hS.1 (by rw [e1]; exact hz), fun q h1 h2 => by rw [e1, hk q (Nat.lt_of_lt_of_le h1 hS.1) (fun z => h2 (hA q (Nat.lt_of_lt_of_le h1 hS.1) z))]; exact hS.2.1 q h1 h2, fun q hq => by
      rcases List.mem_append.mp hq with h | h
      · exact hS.2.2 q h
      · exact hf _ (hL q h)⟩⟩
theorem vx_calli {S SX : Type} {post : Int32 → S → Prop} {px : SX → Prop} {B : S → State → Prop} {BX : String → SX → State → Prop} {AX : Nat → Prop} (hr : vx_Run p l e R s m args below meth c H locs cells slots mc ms (F0 m pc ls st0) rest (va_Qi post B A1 a) (vx_X px BX AX) free) (hS : va_S A0 H0 H locs) (hA : ∀ q, q < H.size → A1 q → A0 q) (hf : ∀ q, free q → A0 q) (hAX : ∀ q, q < H.size → AX q → A0 q)
    (kx : ∀ (E : String) (ce : Cell) (q9 : Addr) (u : SX) (t : State) (H1 : Heap) (locs1 : List Loc), t.heap = H1 → s.vm.Alike t.vm → px u → BX E u t → H.size ≤ H1.size → (∀ q : Nat, q < H.size → ¬ AX q → H1[q]? = H[q]?) → va_S A0 H0 H1 locs1 → H1[q9]? = some ce → ce.vm = .none → s.vm.findClass E = some ce.cls → vx_W p l e R s m args below meth c H1 locs1 (cells + mc) (slots + ms) Q (F0 m pc ls rest) q9)
    (kk : ∀ (r : Int32) (u : S) (t : State) (H1 : Heap) (locs1 : List Loc), t.heap = H1 → s.vm.Alike t.vm → post r u → B u t → H.size ≤ H1.size → (∀ q : Nat, q < H.size → ¬ A1 q → H1[q]? = H[q]?) → va_S A0 H0 H1 locs1 → W p l e R s m args below meth c H1 locs1 (cells + mc) (slots + ms) Q (F0 m (pc + 3) ls (.int r :: rest))) : W p l e R s m args below meth c H locs cells slots Q (F0 m pc ls st0) := by
  intro T hT X
  rcases hr T hT X with ⟨v, st₀, t, T', L, h0, X', hL, e1, e2, ⟨⟨r, u, hv, hp, hb⟩, hF⟩, st⟩ | ⟨q, st₀, t, T', L, E, ce, h0, X', hL, e1, e2, ⟨u, hp, hb, hF⟩, hce, hcv, hcl, st⟩
  · cases hv
    obtain ⟨k1, k2, k3⟩ := vx_keep h0 e1 hS hA hf hL hF
    obtain ⟨t2, a1, b1⟩ := kk r u t T'.heap (locs ++ L) e1.symm (by rw [← e2]; exact X'.warmed.alike) hp hb k1 k2 k3 T' rfl X'
    exact ⟨t2, st t2 a1, b1⟩
  · obtain ⟨k1, k2, k3⟩ := vx_keep h0 e1 hS hAX hf hL hF
    obtain ⟨t2, a1, b1⟩ := kx E ce q u t T'.heap (locs ++ L) e1.symm (by rw [← e2]; exact X'.warmed.alike) hp hb k1 k2 k3 (by rw [e1]; exact hce) hcv hcl T' rfl X'
    exact ⟨t2, st.trans a1, b1⟩
theorem vx_calll {S SX : Type} {post : Int64 → S → Prop} {px : SX → Prop} {B : S → State → Prop} {BX : String → SX → State → Prop} {AX : Nat → Prop} (hr : vx_Run p l e R s m args below meth c H locs cells slots mc ms (F0 m pc ls st0) rest (va_Ql post B A1 a) (vx_X px BX AX) free) (hS : va_S A0 H0 H locs) (hA : ∀ q, q < H.size → A1 q → A0 q) (hf : ∀ q, free q → A0 q) (hAX : ∀ q, q < H.size → AX q → A0 q)
    (kx : ∀ (E : String) (ce : Cell) (q9 : Addr) (u : SX) (t : State) (H1 : Heap) (locs1 : List Loc), t.heap = H1 → s.vm.Alike t.vm → px u → BX E u t → H.size ≤ H1.size → (∀ q : Nat, q < H.size → ¬ AX q → H1[q]? = H[q]?) → va_S A0 H0 H1 locs1 → H1[q9]? = some ce → ce.vm = .none → s.vm.findClass E = some ce.cls → vx_W p l e R s m args below meth c H1 locs1 (cells + mc) (slots + ms) Q (F0 m pc ls rest) q9)
    (kk : ∀ (r : Int64) (u : S) (t : State) (H1 : Heap) (locs1 : List Loc), t.heap = H1 → s.vm.Alike t.vm → post r u → B u t → H.size ≤ H1.size → (∀ q : Nat, q < H.size → ¬ A1 q → H1[q]? = H[q]?) → va_S A0 H0 H1 locs1 → W p l e R s m args below meth c H1 locs1 (cells + mc) (slots + ms) Q (F0 m (pc + 3) ls (.long r :: rest))) : W p l e R s m args below meth c H locs cells slots Q (F0 m pc ls st0) := by
  intro T hT X
  rcases hr T hT X with ⟨v, st₀, t, T', L, h0, X', hL, e1, e2, ⟨⟨r, u, hv, hp, hb⟩, hF⟩, st⟩ | ⟨q, st₀, t, T', L, E, ce, h0, X', hL, e1, e2, ⟨u, hp, hb, hF⟩, hce, hcv, hcl, st⟩
  · cases hv
    obtain ⟨k1, k2, k3⟩ := vx_keep h0 e1 hS hA hf hL hF
    obtain ⟨t2, a1, b1⟩ := kk r u t T'.heap (locs ++ L) e1.symm (by rw [← e2]; exact X'.warmed.alike) hp hb k1 k2 k3 T' rfl X'
    exact ⟨t2, st t2 a1, b1⟩
  · obtain ⟨k1, k2, k3⟩ := vx_keep h0 e1 hS hAX hf hL hF
    obtain ⟨t2, a1, b1⟩ := kx E ce q u t T'.heap (locs ++ L) e1.symm (by rw [← e2]; exact X'.warmed.alike) hp hb k1 k2 k3 (by rw [e1]; exact hce) hcv hcl T' rfl X'
    exact ⟨t2, st.trans a1, b1⟩
theorem vx_callf {S SX : Type} {post : UInt32 → S → Prop} {px : SX → Prop} {B : S → State → Prop} {BX : String → SX → State → Prop} {AX : Nat → Prop} (hr : vx_Run p l e R s m args below meth c H locs cells slots mc ms (F0 m pc ls st0) rest (va_Qf post B A1 a) (vx_X px BX AX) free) (hS : va_S A0 H0 H locs) (hA : ∀ q, q < H.size → A1 q → A0 q) (hf : ∀ q, free q → A0 q) (hAX : ∀ q, q < H.size → AX q → A0 q)
    (kx : ∀ (E : String) (ce : Cell) (q9 : Addr) (u : SX) (t : State) (H1 : Heap) (locs1 : List Loc), t.heap = H1 → s.vm.Alike t.vm → px u → BX E u t → H.size ≤ H1.size → (∀ q : Nat, q < H.size → ¬ AX q → H1[q]? = H[q]?) → va_S A0 H0 H1 locs1 → H1[q9]? = some ce → ce.vm = .none → s.vm.findClass E = some ce.cls → vx_W p l e R s m args below meth c H1 locs1 (cells + mc) (slots + ms) Q (F0 m pc ls rest) q9)
    (kk : ∀ (r : UInt32) (u : S) (t : State) (H1 : Heap) (locs1 : List Loc), t.heap = H1 → s.vm.Alike t.vm → post r u → B u t → H.size ≤ H1.size → (∀ q : Nat, q < H.size → ¬ A1 q → H1[q]? = H[q]?) → va_S A0 H0 H1 locs1 → W p l e R s m args below meth c H1 locs1 (cells + mc) (slots + ms) Q (F0 m (pc + 3) ls (.float r :: rest))) : W p l e R s m args below meth c H locs cells slots Q (F0 m pc ls st0) := by
  intro T hT X
  rcases hr T hT X with ⟨v, st₀, t, T', L, h0, X', hL, e1, e2, ⟨⟨r, u, hv, hp, hb⟩, hF⟩, st⟩ | ⟨q, st₀, t, T', L, E, ce, h0, X', hL, e1, e2, ⟨u, hp, hb, hF⟩, hce, hcv, hcl, st⟩
  · cases hv
    obtain ⟨k1, k2, k3⟩ := vx_keep h0 e1 hS hA hf hL hF
    obtain ⟨t2, a1, b1⟩ := kk r u t T'.heap (locs ++ L) e1.symm (by rw [← e2]; exact X'.warmed.alike) hp hb k1 k2 k3 T' rfl X'
    exact ⟨t2, st t2 a1, b1⟩
  · obtain ⟨k1, k2, k3⟩ := vx_keep h0 e1 hS hAX hf hL hF
    obtain ⟨t2, a1, b1⟩ := kx E ce q u t T'.heap (locs ++ L) e1.symm (by rw [← e2]; exact X'.warmed.alike) hp hb k1 k2 k3 (by rw [e1]; exact hce) hcv hcl T' rfl X'
    exact ⟨t2, st.trans a1, b1⟩
theorem vx_calld {S SX : Type} {post : UInt64 → S → Prop} {px : SX → Prop} {B : S → State → Prop} {BX : String → SX → State → Prop} {AX : Nat → Prop} (hr : vx_Run p l e R s m args below meth c H locs cells slots mc ms (F0 m pc ls st0) rest (va_Qd post B A1 a) (vx_X px BX AX) free) (hS : va_S A0 H0 H locs) (hA : ∀ q, q < H.size → A1 q → A0 q) (hf : ∀ q, free q → A0 q) (hAX : ∀ q, q < H.size → AX q → A0 q)
    (kx : ∀ (E : String) (ce : Cell) (q9 : Addr) (u : SX) (t : State) (H1 : Heap) (locs1 : List Loc), t.heap = H1 → s.vm.Alike t.vm → px u → BX E u t → H.size ≤ H1.size → (∀ q : Nat, q < H.size → ¬ AX q → H1[q]? = H[q]?) → va_S A0 H0 H1 locs1 → H1[q9]? = some ce → ce.vm = .none → s.vm.findClass E = some ce.cls → vx_W p l e R s m args below meth c H1 locs1 (cells + mc) (slots + ms) Q (F0 m pc ls rest) q9)
    (kk : ∀ (r : UInt64) (u : S) (t : State) (H1 : Heap) (locs1 : List Loc), t.heap = H1 → s.vm.Alike t.vm → post r u → B u t → H.size ≤ H1.size → (∀ q : Nat, q < H.size → ¬ A1 q → H1[q]? = H[q]?) → va_S A0 H0 H1 locs1 → W p l e R s m args below meth c H1 locs1 (cells + mc) (slots + ms) Q (F0 m (pc + 3) ls (.double r :: rest))) : W p l e R s m args below meth c H locs cells slots Q (F0 m pc ls st0) := by
  intro T hT X
  rcases hr T hT X with ⟨v, st₀, t, T', L, h0, X', hL, e1, e2, ⟨⟨r, u, hv, hp, hb⟩, hF⟩, st⟩ | ⟨q, st₀, t, T', L, E, ce, h0, X', hL, e1, e2, ⟨u, hp, hb, hF⟩, hce, hcv, hcl, st⟩
  · cases hv
    obtain ⟨k1, k2, k3⟩ := vx_keep h0 e1 hS hA hf hL hF
    obtain ⟨t2, a1, b1⟩ := kk r u t T'.heap (locs ++ L) e1.symm (by rw [← e2]; exact X'.warmed.alike) hp hb k1 k2 k3 T' rfl X'
    exact ⟨t2, st t2 a1, b1⟩
  · obtain ⟨k1, k2, k3⟩ := vx_keep h0 e1 hS hAX hf hL hF
    obtain ⟨t2, a1, b1⟩ := kx E ce q u t T'.heap (locs ++ L) e1.symm (by rw [← e2]; exact X'.warmed.alike) hp hb k1 k2 k3 (by rw [e1]; exact hce) hcv hcl T' rfl X'
    exact ⟨t2, st.trans a1, b1⟩
theorem vx_callv {S SX : Type} {post : S → Prop} {px : SX → Prop} {B : S → State → Prop} {BX : String → SX → State → Prop} {AX : Nat → Prop} (hr : vx_Run p l e R s m args below meth c H locs cells slots mc ms (F0 m pc ls st0) rest (va_Qv post B A1 a) (vx_X px BX AX) free) (hS : va_S A0 H0 H locs) (hA : ∀ q, q < H.size → A1 q → A0 q) (hf : ∀ q, free q → A0 q) (hAX : ∀ q, q < H.size → AX q → A0 q)
    (kx : ∀ (E : String) (ce : Cell) (q9 : Addr) (u : SX) (t : State) (H1 : Heap) (locs1 : List Loc), t.heap = H1 → s.vm.Alike t.vm → px u → BX E u t → H.size ≤ H1.size → (∀ q : Nat, q < H.size → ¬ AX q → H1[q]? = H[q]?) → va_S A0 H0 H1 locs1 → H1[q9]? = some ce → ce.vm = .none → s.vm.findClass E = some ce.cls → vx_W p l e R s m args below meth c H1 locs1 (cells + mc) (slots + ms) Q (F0 m pc ls rest) q9)
    (kk : ∀ (u : S) (t : State) (H1 : Heap) (locs1 : List Loc), t.heap = H1 → s.vm.Alike t.vm → post u → B u t → H.size ≤ H1.size → (∀ q : Nat, q < H.size → ¬ A1 q → H1[q]? = H[q]?) → va_S A0 H0 H1 locs1 → W p l e R s m args below meth c H1 locs1 (cells + mc) (slots + ms) Q (F0 m (pc + 3) ls (rest))) : W p l e R s m args below meth c H locs cells slots Q (F0 m pc ls st0) := by
  intro T hT X
  rcases hr T hT X with ⟨v, st₀, t, T', L, h0, X', hL, e1, e2, ⟨⟨u, hv, hp, hb⟩, hF⟩, st⟩ | ⟨q, st₀, t, T', L, E, ce, h0, X', hL, e1, e2, ⟨u, hp, hb, hF⟩, hce, hcv, hcl, st⟩
  · cases hv
    obtain ⟨k1, k2, k3⟩ := vx_keep h0 e1 hS hA hf hL hF
    obtain ⟨t2, a1, b1⟩ := kk u t T'.heap (locs ++ L) e1.symm (by rw [← e2]; exact X'.warmed.alike) hp hb k1 k2 k3 T' rfl X'
    exact ⟨t2, st t2 a1, b1⟩
  · obtain ⟨k1, k2, k3⟩ := vx_keep h0 e1 hS hAX hf hL hF
    obtain ⟨t2, a1, b1⟩ := kx E ce q u t T'.heap (locs ++ L) e1.symm (by rw [← e2]; exact X'.warmed.alike) hp hb k1 k2 k3 (by rw [e1]; exact hce) hcv hcl T' rfl X'
    exact ⟨t2, st.trans a1, b1⟩
theorem vx_catch {own name : String} {E : String} {ce : Cell} {q : Addr} (hown : s.vm.findClass own = some m.cls) (pre : List ExceptionTableEntry) (x : ExceptionTableEntry) (suf : List ExceptionTableEntry) (hsplit : c.exceptionTable.toList = pre ++ x :: suf)
    (hpass : ∀ z ∈ pre, covers z pc = false ∨ (z.catchType ≠ 0 ∧ ∃ nm : String, (Cond.classLink own z.catchType nm).before args s = true ∧ va_Nc E nm s)) (hx : covers x pc = true) (h0 : x.catchType ≠ 0)
    (hlink : (Cond.classLink own x.catchType name).before args s = true) (hcast : (Cond.castable E name).before args s = true) (hcell : H[q]? = some ce) (hv : ce.vm = .none) (hcl : s.vm.findClass E = some ce.cls)
    (kk : W p l e R s m args below meth c H locs cells slots Q (F0 m x.handlerPc ls [.ref q])) : vx_W p l e R s m args below meth c H locs cells slots Q (F0 m pc ls rest) q := by
  intro T hT X
  have hpl : e.platform.magicAccessors = ({} : Platform).magicAccessors := by rw [X.admits.platform]
  obtain ⟨c3, c4, hc3, hc4, hasg⟩ := Cond.castable_spec hcast
  cases Option.some.inj (hc3.symm.trans hcl)
  obtain ⟨c5, hc5, hcl5⟩ := Cond.classLink_spec hown hlink e.platform hpl
  cases Option.some.inj (hc4.symm.trans hc5)
  obtain ⟨vm', X', st⟩ := X.thenCaughtThrough q (g := F0 m pc ls rest) rfl (Steps.refl _) (by rw [hT]; exact hcell) (by rw [hv]; rfl) (by obtain ⟨k9, h9, -⟩ := Vm.findClass_spec hcl; exact ⟨k9, h9⟩) pre x suf hsplit
    (fun z hz => by
      rcases hpass z hz with h | ⟨hz0, nm, hl1, hn1⟩
      · exact Or.inl h
      · obtain ⟨c6, hc6, hcl6⟩ := Cond.classLink_spec hown hl1 e.platform hpl
        obtain ⟨a8, b8, h1, h2, h3⟩ := hn1
        cases Option.some.inj (h1.symm.trans hcl)
        cases Option.some.inj (h2.symm.trans hc6)
        exact Or.inr ⟨hz0, _, hcl6, h3⟩) hx (Or.inr ⟨h0, c4, hcl5, hasg⟩)
  obtain ⟨t, a1, b1⟩ := kk (T.setVm vm') hT X'
  exact ⟨t, st.trans a1, b1⟩
end Rows
section Ends
variable {p : Program} {l : Launch} {e : Env} {R : Room} {s : State} {m : MethodId} {args : Array Value} {below : List Frame} {meth : Method} {c : Code} {H : Heap} {locs : List Loc} {cells slots : Nat} {Q : State → Prop}
variable {mc ms : Nat} {free : Addr → Prop} {A0 A1 : Nat → Prop} {H0 : Heap} {a : Array Value} {ls : Array Slot} {st0 rest : List Value}
variable {Qc : Array Value → State → Outcome → State → Prop} {XC : String → State → State → Prop}
def vx_MQ (below : List Frame) (Qc : Array Value → State → Outcome → State → Prop) (XC : String → State → State → Prop) (a : Array Value) (s : State) (mc ms : Nat) (free : Addr → Prop) : State → Prop := fun t =>
  ∃ o, t.status = .running ∧ Ended t below o ∧ vx_Q Qc XC mc ms free a s o t
theorem vx_ret {g : JFrame} {mc ms : Nat} (k : W p l e R s m args below meth c H locs cells slots (MQ below Qc args s mc ms free) g) : W p l e R s m args below meth c H locs cells slots (vx_MQ below Qc XC args s mc ms free) g := by
  intro T hT X
  obtain ⟨t, a1, o, b1, b2, b3, b4⟩ := k T hT X
  exact ⟨t, a1, o, b1, b2, Or.inl ⟨b3, b4⟩⟩
theorem vx_widen {g : JFrame} {q : Addr} {k n : Nat} (h1 : cells ≤ k) (h2 : slots ≤ n) (kk : vx_W p l e R s m args below meth c H locs k n Q g q) : vx_W p l e R s m args below meth c H locs cells slots Q g q := fun T hT X => kk T hT (stand_widen X h1 h2)
theorem vx_out {pc : Nat} {E : String} {ce : Cell} {q : Addr} {mc ms : Nat} (hout : ∀ x ∈ c.exceptionTable.toList, covers x pc = false) (hlocks : meth.locks = false) (hcell : H[q]? = some ce) (hv : ce.vm = .none) (hcl : s.vm.findClass E = some ce.cls)
    (hx : ∀ t : State, t.heap = H → s.vm.Alike t.vm → XC E s t) (hf : ∀ z ∈ locs, free z.base) (hc : cells ≤ mc) (hs : slots ≤ ms) :
    vx_W p l e R s m args below meth c H locs cells slots (vx_MQ below Qc XC args s mc ms free) (F0 m pc ls rest) q := by
  intro T hT X
  obtain ⟨st1, hrun, hend, hW, hsm⟩ := X.leaveThrown q (g := F0 m pc ls rest) rfl rfl rfl hout hlocks
  have hcell9 : (T.setFrames (.throwing q :: below)).heap[q]? = some ce := by
    show T.heap[q]? = some ce
    rw [hT]; exact hcell
  exact ⟨_, st1, .threw q, hrun, hend, Or.inr ⟨q, rfl, E, ce, locs, hx _ hT hW.alike, hcell9, hv, hcl, hW, hsm.mono hc hs, hf⟩⟩
theorem vx_frame {U : State} {k n : Nat} (h : s.sameButNew ({ U with vm := s.vm } : State) locs k n) : s.heap.size ≤ U.heap.size ∧ ∀ q : Nat, q < s.heap.size → (∀ z ∈ locs, z.base ≠ q) → U.heap[q]? = s.heap[q]? := by
  obtain ⟨-, h2, -, -, -, h6⟩ := h
  refine ⟨h2, fun q hq hz => ?_⟩
  obtain ⟨c9, e1, e2, e3, e4⟩ := h6 q _ (Array.getElem?_eq_getElem hq)
  have hs : c9.slots = (s.heap[q]).slots := Array.ext_getElem? fun i => e4 i fun hm => hz _ hm rfl
  have h9 : c9 = s.heap[q] := by
    rw [hs] at e2
    exact e2
  have e5 : U.heap[q]? = some c9 := e1
  rw [e5, h9, Array.getElem?_eq_getElem hq]
def vx_no (w : Cond) : Bool := decide (w ≠ .isRef (.static Bundle.tN "UNASSIGNED_STACK" Bundle.steD)) && decide (w ≠ .isRef (.static Bundle.tN "SUPPRESSED_SENTINEL" Bundle.listD)) && decide (w ≠ .laysStatic Bundle.tN "UNASSIGNED_STACK" Bundle.steD) && decide (w ≠ .laysStatic Bundle.tN "SUPPRESSED_SENTINEL" Bundle.listD)
def vx_at0 (own : String) (ic : Nat) (X : String) (names : List String) : List Cond := (Bundle.ownAtoms0 own ic X names).filter vx_no
def vx_atS (own : String) (ic : Nat) (X : String) (names : List String) : List Cond := (Bundle.ownAtoms own ic X names).filter vx_no
def vx_ot (w : Cond) : Bool := w.onTables || goodWord w
theorem vx_ot_at {args a' : Array Value} {s U : State} {w : Cond} (hW : s.WarmedH U.vm) (hvm : s.vm = U.vm) (hg : vx_ot w = true) (h : w.before args s = true) : w.before a' U = true := by
  simp only [vx_ot, Bool.or_eq_true] at hg
  rcases hg with hg | hg
  · exact va_tabs hg hvm h
  · exact word_at hW (good_of_word hg) h
theorem vx_hat {args : Array Value} {s : State} {L B : List Cond} (h1 : ∀ w ∈ L.filter goodWord, w.before args s = true) (h2 : ∀ w ∈ L.filter (fun w => !goodWord w), w ∈ B) (h3 : ∀ w ∈ B, w.before args s = true) : ∀ w ∈ L, w.before args s = true := by
  intro w hw
  by_cases g : goodWord w = true
  · exact h1 w (List.mem_filter.mpr ⟨hw, g⟩)
  · refine h3 w (h2 w (List.mem_filter.mpr ⟨hw, ?_⟩))
    show (!goodWord w) = true
    cases hgw : goodWord w
    · rfl
    · exact absurd hgw g
theorem vx_c {args : Array Value} {s : State} {w : Cond} {B : List Cond} (h : w.before args s = true) (t : ∀ w ∈ B, w.before args s = true) : ∀ w' ∈ w :: B, w'.before args s = true := fun w' h' => (List.mem_cons.mp h').elim (fun e => by rw [e]; exact h) (t w')
theorem vx_n {args : Array Value} {s : State} : ∀ w ∈ ([] : List Cond), w.before args s = true := fun _ h => nomatch h
theorem vx_own {args : Array Value} {s : State} {L : List Cond} (h1 : ∀ w ∈ L.filter vx_no, w.before args s = true)
    (hU : (Cond.isRef (.static Bundle.tN "UNASSIGNED_STACK" Bundle.steD)).before args s = true) (hN : (Cond.isRef (.static Bundle.tN "SUPPRESSED_SENTINEL" Bundle.listD)).before args s = true)
    (lU : (Cond.laysStatic Bundle.tN "UNASSIGNED_STACK" Bundle.steD).before args s = true) (lN : (Cond.laysStatic Bundle.tN "SUPPRESSED_SENTINEL" Bundle.listD).before args s = true) : ∀ w ∈ L, w.before args s = true := by
  intro w hw
  by_cases e1 : w = .isRef (.static Bundle.tN "UNASSIGNED_STACK" Bundle.steD)
  · rw [e1]; exact hU
  · by_cases e2 : w = .isRef (.static Bundle.tN "SUPPRESSED_SENTINEL" Bundle.listD)
    · rw [e2]; exact hN
    · by_cases e3 : w = .laysStatic Bundle.tN "UNASSIGNED_STACK" Bundle.steD
      · rw [e3]; exact lU
      · by_cases e4 : w = .laysStatic Bundle.tN "SUPPRESSED_SENTINEL" Bundle.listD
        · rw [e4]; exact lN
        · exact h1 w (List.mem_filter.mpr ⟨hw, by unfold vx_no; rw [decide_eq_true e1, decide_eq_true e2, decide_eq_true e3, decide_eq_true e4]; rfl⟩)
def vx_L (C n d : String) (A : Nat → Prop) (U : State) (H : Heap) : Prop := ∃ (c : ClassId) (k : Class) (i : Nat) (f : Field) (a : Nat) (cell : Cell), U.vm.findClass C = some c ∧ U.fieldFound? C n d = some (c, k, i, f) ∧ f.isStatic = true ∧ k.statics = some a ∧ H[a]? = some cell ∧ cell.vm.isStatics = true ∧ cell.cls = c ∧ f.slot < cell.slots.size ∧ k.staticTypes[f.slot]? = some f.type ∧ ¬ A a
theorem vx_L.moved {C n d : String} {A : Nat → Prop} {u U : State} {H : Heap} (hvm : u.vm.Alike U.vm) (h : vx_L C n d A u H) : vx_L C n d A U H := by
  obtain ⟨c, k, i, f, a, cell, h1, h2, h3, h4, h5, h6, h7, h8, h9, h10⟩ := h
  obtain ⟨k', hi', he⟩ := State.fieldFound?_setVm hvm h2
  exact ⟨c, k', i, f, a, cell, by rw [hvm.findClass]; exact h1, hi', h3, by rw [he]; exact h4, h5, h6, h7, h8, by rw [he]; exact h9, h10⟩
theorem vx_L.kept {C n d : String} {A : Nat → Prop} {U : State} {H H1 : Heap} (h : vx_L C n d A U H) (hq : ∀ a : Nat, a < H.size → ¬ A a → H1[a]? = H[a]?) : vx_L C n d A U H1 := by
  obtain ⟨c, k, i, f, a, cell, h1, h2, h3, h4, h5, h6, h7, h8, h9, h10⟩ := h
  exact ⟨c, k, i, f, a, cell, h1, h2, h3, h4, by rw [hq a (Array.getElem?_eq_some_iff.mp h5).1 h10]; exact h5, h6, h7, h8, h9, h10⟩
theorem vx_L.narrow {C n d : String} {A B : Nat → Prop} {U : State} {H : Heap} (h : vx_L C n d A U H) (hAB : ∀ q, B q → A q) : vx_L C n d B U H := by
  obtain ⟨c, k, i, f, a, cell, h1, h2, h3, h4, h5, h6, h7, h8, h9, h10⟩ := h
  exact ⟨c, k, i, f, a, cell, h1, h2, h3, h4, h5, h6, h7, h8, h9, fun z => h10 (hAB _ z)⟩
theorem vx_L.word {C n d : String} {A : Nat → Prop} {s : State} {args : Array Value} (h : vx_L C n d A s s.heap) : (Cond.laysStatic C n d).before args s = true := by
  obtain ⟨c, k, i, f, a, cell, h1, h2, h3, h4, h5, h6, h7, h8, h9, -⟩ := h
  show (Cond.laysStatic C n d).holds args s none s [] = true
  exact Cond.laysStatic_of h1 h2 h3 h4 h5 h6 h7 h8 h9
def vx_Zq (C n d : String) (A : Nat → Prop) (U : State) (H : Heap) : Prop := va_Zq C n d A U H ∧ vx_L C n d A U H
theorem vx_Zq.moved {C n d : String} {A : Nat → Prop} {u U : State} {H : Heap} (hvm : u.vm.Alike U.vm) (h : vx_Zq C n d A u H) : vx_Zq C n d A U H := ⟨va_Zq.moved hvm h.1, vx_L.moved hvm h.2⟩
theorem vx_Zq.kept {C n d : String} {A : Nat → Prop} {U : State} {H H1 : Heap} (h : vx_Zq C n d A U H) (hq : ∀ a : Nat, a < H.size → ¬ A a → H1[a]? = H[a]?) : vx_Zq C n d A U H1 := ⟨va_Zq.kept h.1 hq, vx_L.kept h.2 hq⟩
theorem vx_Zq.narrow {C n d : String} {A B : Nat → Prop} {U : State} {H : Heap} (h : vx_Zq C n d A U H) (hAB : ∀ q, B q → A q) : vx_Zq C n d B U H := ⟨va_Zq.narrow h.1 hAB, vx_L.narrow h.2 hAB⟩
theorem vx_Zqof {args : Array Value} {s : State} {C n d : String} {A : Nat → Prop} (hl : (Cond.laysStatic C n d).before args s = true) (hini : (Cond.initialized C).before args s = true) (h : (Cond.isRef (.static C n d)).before args s = true) (hA : ∀ a : Nat, a < s.heap.size → ¬ A a) : vx_Zq C n d A s s.heap := by
  refine ⟨va_Zqof hl hini h hA, ?_⟩
  obtain ⟨c, k, i, f, a, cell, h1, h2, h3, h4, h5, h6, h7, h8, h9⟩ := Cond.laysStatic_spec hl
  exact ⟨c, k, i, f, a, cell, h1, h2, h3, h4, h5, h6, h7, h8, h9, hA a (Array.getElem?_eq_some_iff.mp h5).1⟩
theorem vx_isRef {C n d : String} {v : Value} {A : Nat → Prop} {s : State} {args : Array Value} (h : va_Z C n d v A s s.heap) (hv : v.isRef = true) : (Cond.isRef (.static C n d)).before args s = true := by
  obtain ⟨cf, kf, fi, f, a, cell, h1, h2, h3, h4, h5, h6, h7, -⟩ := h
  have he : (Term.static C n d).eval args s none [] s = some v := by
    simp [Term.eval, State.fieldNamed?, h1, h2, h4, h5, h6, h7]
  simp only [Cond.before, Cond.holds, Cond.value, he]
  cases v <;> simp_all [Value.isRef]
theorem vx_isRefq {C n d : String} {A : Nat → Prop} {s : State} {args : Array Value} (h : va_Zq C n d A s s.heap) : (Cond.isRef (.static C n d)).before args s = true := by
  rcases h with h | ⟨t, h⟩
  · exact vx_isRef h rfl
  · exact vx_isRef h rfl
theorem vx_rebase {T : State} (X : Stand p l e R s m args below meth c T locs cells slots) {R' : Room} (hf : R'.frames ≤ R.frames) (hl : R'.locals ≤ R.locals) (hc : cells + R'.cells ≤ R.cells) (hs : slots + R'.slots ≤ R.slots) :
    Stand p l e R' ((T.setVm s.vm).setFrames (.invoking m args :: below)) m args below meth c T [] 0 0 := by
  have htop : (T.setVm s.vm).topJava?.isSome := X.here.top
  have hF : ((T.setVm s.vm).setFrames (.invoking m args :: below)).frames = .invoking m args :: below := State.frames_setFrames _ (State.cur_lt_of_top htop)
  obtain ⟨g₀, hg0⟩ := Option.isSome_iff_exists.mp htop
  obtain ⟨r, hr⟩ := State.topJava?_eq_some.mp hg0
  have hl9 : e.platform.stackLimits (T.setVm s.vm).me = e.platform.stackLimits s.me := X.limits
  have hb9 : (T.setVm s.vm).me.stackBytes = s.me.stackBytes := X.bytes
  refine ⟨X.admits, X.cas, X.clock, hF, ?_, X.hears, X.method, X.code, X.here, X.tail, X.warmed, ?_, ?_, ?_⟩
  · have h := X.room
    have hU : ((T.setVm s.vm).setFrames (.invoking m args :: below)).localsInUse = s.localsInUse := by
      rw [State.localsInUse_invoking hF (meth := meth) (c := c) X.method X.code, State.localsInUse_invoking X.frames X.method X.code]
    simp only [State.hasRoom, Bool.and_eq_true, decide_eq_true_eq] at h ⊢
    obtain ⟨⟨⟨⟨h1, h2, h3, h4, h5, h6⟩, h7⟩, h8⟩, h9⟩ := h
    rw [X.frames, List.length_cons] at h2 h3
    have q1 := X.heapSize
    have q2 := X.used
    simp only [hF, hU, List.length_cons, State.stackLimits_setFrames, State.stackBytes_setFrames, hl9, hb9]
    refine ⟨⟨⟨⟨by omega, by omega, by omega, by omega, by omega, h6⟩, ?_⟩, ?_⟩, X.book⟩
    · show T.heap.size + R'.cells ≤ e.platform.maxCells
      omega
    · show T.slotsUsed + R'.slots ≤ e.platform.maxSlots
      omega
  · rw [State.stackLimits_setFrames]; rfl
  · rw [State.stackBytes_setFrames]; rfl
  · refine ⟨?_, Nat.le_refl _, Nat.le_refl _, ?_, ?_, fun a c9 h9 => ⟨c9, h9, rfl, rfl, fun _ _ => rfl⟩⟩
    · obtain ⟨t, ht, -⟩ := State.frames_cons hr
      show T.setVm s.vm = { ((T.setVm s.vm).setFrames (.invoking m args :: below)).setFrames (T.setVm s.vm).frames with heap := T.heap, slotsUsed := T.slotsUsed }
      rw [State.setFrames_setFrames, State.setFrames_self ht]
      rfl
    · show T.slotsUsed = T.slotsUsed + ((T.heap.toList.drop T.heap.size).map (·.slots.size)).sum
      rw [List.drop_eq_nil_of_le (Nat.le_of_eq Array.length_toList)]
      rfl
    · show ((T.heap.toList.drop T.heap.size).map (·.slots.size)).sum ≤ 0
      rw [List.drop_eq_nil_of_le (Nat.le_of_eq Array.length_toList)]
      exact Nat.le_refl _
theorem vx_throw0 {cc : ByteArray} {pc : Nat} (hexec : p.tables.exec = Jvm.exec) (hb : c.code = cc) (hl : l.stackTraces = false) {own cls : String} {names : List String} {ik ic mc ms : Nat} {A : Nat → Prop}
    (hown : s.vm.findClass own = some m.cls) (hcls : Bundle.fit cls = true) (hnames : ∀ n ∈ names, Bundle.fit n = true)
    (hk : (Cond.classLink own ik cls).before args s = true) (hini : (Cond.initialized cls).before args s = true) (hat : ∀ w ∈ vx_at0 own ic cls names, w.before args s = true)
    (hgood : ∀ w ∈ Cond.classLink own ik cls :: Cond.initialized cls :: vx_at0 own ic cls names, vx_ot w = true)
    (hU : vx_Zq Bundle.tN "UNASSIGNED_STACK" Bundle.steD A s s.heap) (hN : vx_Zq Bundle.tN "SUPPRESSED_SENTINEL" Bundle.listD A s s.heap) (hS : va_S A s.heap H locs) (hsize : ls.size = c.maxLocals)
    (d0 : decode cc pc = .ok (.new ik, 3)) (d3 : decode cc (pc + 3) = .ok (.dup, 1)) (d4 : decode cc (pc + 4) = .ok (.invokespecial ic, 3)) (d7 : decode cc (pc + 7) = .ok (.athrow, 1))
    (hout : ∀ x ∈ c.exceptionTable.toList, covers x (pc + 7) = false)
    (hRframes : names.length + 3 < R.frames) (hRlocals : (rest.map fun v => v.category).sum + (13 * (names.length + 1) + 42) ≤ R.locals) (hRcells : cells + 1 ≤ R.cells) (hRslots : slots + 6 ≤ R.slots) (hlocks : meth.locks = false)
    (hx : ∀ t : State, s.vm.Alike t.vm → H.size ≤ t.heap.size → (∀ q : Nat, q < H.size → t.heap[q]? = H[q]?) → XC cls s t)
    (hf : ∀ z ∈ locs, free z.base) (hc : cells + 1 ≤ mc) (hs : slots + 6 ≤ ms) :
    W p l e R s m args below meth c H locs cells slots (vx_MQ below Qc XC args s mc ms free) (F0 m pc ls rest) := by
  intro T hT X
  have htr : e.platform.stackTraces = false := (show e.platform.stackTraces = l.stackTraces by rw [X.admits.platform]).trans hl
  have Y := vx_rebase X (R' := { frames := R.frames, locals := R.locals, cells := 1, slots := 6 }) (Nat.le_refl _) (Nat.le_refl _) hRcells hRslots
  obtain ⟨s', hA⟩ : ∃ z, z = (T.setVm s.vm).setFrames (.invoking m args :: below) := ⟨_, rfl⟩
  rw [← hA] at Y
  have hvm : s'.vm = s.vm := by rw [hA]; rfl
  have hhp : s'.heap = H := by rw [hA]; exact hT
  have hW0 : s.WarmedH s'.vm := by rw [hvm]; exact State.WarmedH.refl s
  have hat' : ∀ w ∈ vx_at0 own ic cls names, w.before args s' = true := fun w hw => vx_ot_at hW0 hvm.symm (hgood w (List.mem_cons_of_mem _ (List.mem_cons_of_mem _ hw))) (hat w hw)
  have hk' : (Cond.classLink own ik cls).before args s' = true := vx_ot_at hW0 hvm.symm (hgood _ List.mem_cons_self) hk
  have hini' : (Cond.initialized cls).before args s' = true := vx_ot_at hW0 hvm.symm (hgood _ (List.mem_cons_of_mem _ List.mem_cons_self)) hini
  have hU' : vx_Zq Bundle.tN "UNASSIGNED_STACK" Bundle.steD A s' s'.heap := by rw [hhp]; exact vx_Zq.moved hW0.alike (hU.kept hS.2.1)
  have hN' : vx_Zq Bundle.tN "SUPPRESSED_SENTINEL" Bundle.listD A s' s'.heap := by rw [hhp]; exact vx_Zq.moved hW0.alike (hN.kept hS.2.1)
  have h : ∀ w ∈ Bundle.ownAtoms0 own ic cls names, w.before args s' = true := vx_own hat' (vx_isRefq hU'.1) (vx_isRefq hN'.1) hU'.2.word hN'.2.word
  have hown' : s'.vm.findClass own = some m.cls := by rw [hvm]; exact hown
  have hins : (Cond.instantiable cls 6).before args s' = true := h _ (by simp [Bundle.ownAtoms0])
  obtain ⟨vm₁, cX, kX, hfX, hkX, -, -, X₁, st1⟩ := Y.newCold hexec (own := own) (C := cls) (index := ik) (n := 6) hown' hk' hins hini'
    (g := F0 m pc ls rest) rfl (by rw [hb]; exact d0) (Nat.le_refl _) (Nat.le_refl _)
  generalize hT1 : (T.setVm vm₁).pushCell { cls := cX, slots := kX.instanceTypes.map defaultValue, vm := .none } = T1 at X₁ st1
  have hcat : (Value.ref T.heap.size).category = 1 := rfl
  have hcellA : T1.heap[T.heap.size]? = some (freshCell cX kX) := by rw [← hT1]; exact State.heap_pushCell_size _ _
  have d3' : decode c.code (pc + 3) = .ok (.dup, 1) := by rw [hb]; exact d3
  obtain ⟨U, hsteps, hrun, hend, hW, hsame, ce, hce, hO⟩ := X₁.ctorThrow0 hexec htr (own := own) (cls := cls) (names := names) (ic := ic) hown' hcls hnames h (fun x hx => nomatch hx) hfX hkX hcellA (by rw [hhp, hT]; exact Nat.le_refl _)
    (g := { method := m, pc := pc + 4, locals := ls, stack := .ref T.heap.size :: .ref T.heap.size :: rest, locked := none }) rfl hsize rfl rfl (rest := rest) rfl
    (by rw [hb]; exact d4) (by rw [hb]; exact d7) hout hRframes (by simp only [List.map_cons, List.sum_cons, hcat]; omega) hlocks
  obtain ⟨f1, f2⟩ := vx_frame hsame
  rw [hhp] at f1 f2
  have hWs : s.WarmedH U.vm := State.WarmedH.trans hW0 hW
  have hcl : s.vm.findClass cls = some ce.cls := by
    have h9 := hO.cls
    rw [hvm] at h9
    exact h9
  have hall : s.sameButNew ({ U with vm := s.vm } : State) locs mc ms := by
    subst hA
    obtain ⟨e1, e2⟩ := hsame
    rw [State.setFrames_setFrames] at e1
    have h2 : (T.setVm s.vm).sameButNew ({ U with vm := s.vm } : State) [] (0 + 1) (0 + 6) := ⟨e1, e2⟩
    have h3 := X.same.trans h2
    rw [List.append_nil] at h3
    exact h3.mono hc hs
  refine ⟨U, ?_, .threw T.heap.size, hrun, hend, Or.inr ⟨T.heap.size, rfl, cls, ce, locs, hx U hWs.alike f1 (fun q hq => f2 q hq (fun z hz => nomatch hz)), hce, hO.vm, hcl, hWs, hall, hf⟩⟩
  refine st1 _ ?_
  show Steps p.tables e below (T1.setTop { method := m, pc := pc + 3, locals := ls, stack := .ref T.heap.size :: rest, locked := none }) _
  jvm_step X₁.here [X₁.here.top, hexec, d3', Value.category]
  exact hsteps
theorem vx_throwS {cc : ByteArray} {pc : Nat} (hexec : p.tables.exec = Jvm.exec) (hb : c.code = cc) (hl : l.stackTraces = false) {own cls text : String} {names : List String} {ik is ic mc ms sa : Nat} {A : Nat → Prop}
    (hown : s.vm.findClass own = some m.cls) (hcls : Bundle.fit cls = true) (hnames : ∀ n ∈ names, Bundle.fit n = true)
    (hk : (Cond.classLink own ik cls).before args s = true) (hini : (Cond.initialized cls).before args s = true) (hstr : vk_R own is text sa s) (hat : ∀ w ∈ vx_atS own ic cls names, w.before args s = true)
    (hgood : ∀ w ∈ Cond.classLink own ik cls :: Cond.initialized cls :: vx_atS own ic cls names, vx_ot w = true)
    (hU : vx_Zq Bundle.tN "UNASSIGNED_STACK" Bundle.steD A s s.heap) (hN : vx_Zq Bundle.tN "SUPPRESSED_SENTINEL" Bundle.listD A s s.heap) (hS : va_S A s.heap H locs) (hsize : ls.size = c.maxLocals)
    (d0 : decode cc pc = .ok (.new ik, 3)) (d3 : decode cc (pc + 3) = .ok (.dup, 1)) (d4 : decode cc (pc + 4) = .ok (.ldc is, 2)) (d6 : decode cc (pc + 6) = .ok (.invokespecial ic, 3)) (d9 : decode cc (pc + 9) = .ok (.athrow, 1))
    (hout : ∀ x ∈ c.exceptionTable.toList, covers x (pc + 9) = false)
    (hRframes : names.length + 3 < R.frames) (hRlocals : (rest.map fun v => v.category).sum + (13 * (names.length + 1) + 43) ≤ R.locals) (hRcells : cells + 1 ≤ R.cells) (hRslots : slots + 6 ≤ R.slots) (hlocks : meth.locks = false)
    (hx : ∀ t : State, s.vm.Alike t.vm → H.size ≤ t.heap.size → (∀ q : Nat, q < H.size → t.heap[q]? = H[q]?) → XC cls s t)
    (hf : ∀ z ∈ locs, free z.base) (hc : cells + 1 ≤ mc) (hs : slots + 6 ≤ ms) :
    W p l e R s m args below meth c H locs cells slots (vx_MQ below Qc XC args s mc ms free) (F0 m pc ls rest) := by
  intro T hT X
  have htr : e.platform.stackTraces = false := (show e.platform.stackTraces = l.stackTraces by rw [X.admits.platform]).trans hl
  have Y := vx_rebase X (R' := { frames := R.frames, locals := R.locals, cells := 1, slots := 6 }) (Nat.le_refl _) (Nat.le_refl _) hRcells hRslots
  obtain ⟨s', hA⟩ : ∃ z, z = (T.setVm s.vm).setFrames (.invoking m args :: below) := ⟨_, rfl⟩
  rw [← hA] at Y
  have hvm : s'.vm = s.vm := by rw [hA]; rfl
  have hhp : s'.heap = H := by rw [hA]; exact hT
  have hW0 : s.WarmedH s'.vm := by rw [hvm]; exact State.WarmedH.refl s
  have hat' : ∀ w ∈ vx_atS own ic cls names, w.before args s' = true := fun w hw => vx_ot_at hW0 hvm.symm (hgood w (List.mem_cons_of_mem _ (List.mem_cons_of_mem _ hw))) (hat w hw)
  have hk' : (Cond.classLink own ik cls).before args s' = true := vx_ot_at hW0 hvm.symm (hgood _ List.mem_cons_self) hk
  have hini' : (Cond.initialized cls).before args s' = true := vx_ot_at hW0 hvm.symm (hgood _ (List.mem_cons_of_mem _ List.mem_cons_self)) hini
  have hU' : vx_Zq Bundle.tN "UNASSIGNED_STACK" Bundle.steD A s' s'.heap := by rw [hhp]; exact vx_Zq.moved hW0.alike (hU.kept hS.2.1)
  have hN' : vx_Zq Bundle.tN "SUPPRESSED_SENTINEL" Bundle.listD A s' s'.heap := by rw [hhp]; exact vx_Zq.moved hW0.alike (hN.kept hS.2.1)
  have h : ∀ w ∈ Bundle.ownAtoms own ic cls names, w.before args s' = true := vx_own hat' (vx_isRefq hU'.1) (vx_isRefq hN'.1) hU'.2.word hN'.2.word
  have hown' : s'.vm.findClass own = some m.cls := by rw [hvm]; exact hown
  have hins : (Cond.instantiable cls 6).before args s' = true := h _ (by simp [Bundle.ownAtoms])
  obtain ⟨vm₁, cX, kX, hfX, hkX, -, -, X₁, st1⟩ := Y.newCold hexec (own := own) (C := cls) (index := ik) (n := 6) hown' hk' hins hini'
    (g := F0 m pc ls rest) rfl (by rw [hb]; exact d0) (Nat.le_refl _) (Nat.le_refl _)
  generalize hT1 : (T.setVm vm₁).pushCell { cls := cX, slots := kX.instanceTypes.map defaultValue, vm := .none } = T1 at X₁ st1
  have hcat : (Value.ref T.heap.size).category = 1 := rfl
  have hcellA : T1.heap[T.heap.size]? = some (freshCell cX kX) := by rw [← hT1]; exact State.heap_pushCell_size _ _
  have d3' : decode c.code (pc + 3) = .ok (.dup, 1) := by rw [hb]; exact d3
  have d4' : decode c.code (pc + 4) = .ok (.ldc is, 2) := by rw [hb]; exact d4
  have hstr' : vk_R own is text sa s' := vk_R.warm hW0 hstr
  obtain ⟨U, hsteps, hrun, hend, hW, hsame, ce, hce, hO⟩ := X₁.ctorThrowS hexec htr (own := own) (cls := cls) (names := names) (ic := ic) hown' hcls hnames h (fun x hx => nomatch hx) hfX hkX hcellA (by rw [hhp, hT]; exact Nat.le_refl _) (msg := .ref sa) rfl
    (g := { method := m, pc := pc + 6, locals := ls, stack := .ref sa :: .ref T.heap.size :: .ref T.heap.size :: rest, locked := none }) rfl hsize rfl rfl (rest := rest) rfl
    (by rw [hb]; exact d6) (by rw [hb]; exact d9) hout hRframes (by simp only [List.map_cons, List.sum_cons, hcat]; omega) hlocks
  obtain ⟨f1, f2⟩ := vx_frame hsame
  rw [hhp] at f1 f2
  have hWs : s.WarmedH U.vm := State.WarmedH.trans hW0 hW
  have hcl : s.vm.findClass cls = some ce.cls := by
    have h9 := hO.cls
    rw [hvm] at h9
    exact h9
  have hall : s.sameButNew ({ U with vm := s.vm } : State) locs mc ms := by
    subst hA
    obtain ⟨e1, e2⟩ := hsame
    rw [State.setFrames_setFrames] at e1
    have h2 : (T.setVm s.vm).sameButNew ({ U with vm := s.vm } : State) [] (0 + 1) (0 + 6) := ⟨e1, e2⟩
    have h3 := X.same.trans h2
    rw [List.append_nil] at h3
    exact h3.mono hc hs
  refine ⟨U, ?_, .threw T.heap.size, hrun, hend, Or.inr ⟨T.heap.size, rfl, cls, ce, locs, hx U hWs.alike f1 (fun q hq => f2 q hq (fun z hz => nomatch hz)), hce, hO.vm, hcl, hWs, hall, hf⟩⟩
  refine st1 _ ?_
  show Steps p.tables e below (T1.setTop { method := m, pc := pc + 3, locals := ls, stack := .ref T.heap.size :: rest, locked := none }) _
  jvm_step X₁.here [X₁.here.top, hexec, d3', Value.category]
  exact X₁.ldcString hexec (own := own) (text := text) (index := is) (a := sa) hown' hstr'.1 hstr'.2
    (g := { method := m, pc := pc + 4, locals := ls, stack := .ref T.heap.size :: .ref T.heap.size :: rest, locked := none }) rfl d4' _ hsteps
theorem vx_throwSW {cc : ByteArray} {pc : Nat} (hexec : p.tables.exec = Jvm.exec) (hb : c.code = cc) (hl : l.stackTraces = false) {own cls text : String} {names : List String} {ik is ic mc ms sa : Nat} {A : Nat → Prop}
    (hown : s.vm.findClass own = some m.cls) (hcls : Bundle.fit cls = true) (hnames : ∀ n ∈ names, Bundle.fit n = true)
    (hk : (Cond.classLink own ik cls).before args s = true) (hini : (Cond.initialized cls).before args s = true) (hstr : vk_R own is text sa s) (hat : ∀ w ∈ vx_atS own ic cls names, w.before args s = true)
    (hgood : ∀ w ∈ Cond.classLink own ik cls :: Cond.initialized cls :: vx_atS own ic cls names, vx_ot w = true)
    (hU : vx_Zq Bundle.tN "UNASSIGNED_STACK" Bundle.steD A s s.heap) (hN : vx_Zq Bundle.tN "SUPPRESSED_SENTINEL" Bundle.listD A s s.heap) (hS : va_S A s.heap H locs) (hsize : ls.size = c.maxLocals)
    (d0 : decode cc pc = .ok (.new ik, 3)) (d3 : decode cc (pc + 3) = .ok (.dup, 1)) (d4 : decode cc (pc + 4) = .ok (.ldc_w is, 3)) (d7 : decode cc (pc + 7) = .ok (.invokespecial ic, 3)) (d10 : decode cc (pc + 10) = .ok (.athrow, 1))
    (hout : ∀ x ∈ c.exceptionTable.toList, covers x (pc + 10) = false)
    (hRframes : names.length + 3 < R.frames) (hRlocals : (rest.map fun v => v.category).sum + (13 * (names.length + 1) + 43) ≤ R.locals) (hRcells : cells + 1 ≤ R.cells) (hRslots : slots + 6 ≤ R.slots) (hlocks : meth.locks = false)
    (hx : ∀ t : State, s.vm.Alike t.vm → H.size ≤ t.heap.size → (∀ q : Nat, q < H.size → t.heap[q]? = H[q]?) → XC cls s t)
    (hf : ∀ z ∈ locs, free z.base) (hc : cells + 1 ≤ mc) (hs : slots + 6 ≤ ms) :
    W p l e R s m args below meth c H locs cells slots (vx_MQ below Qc XC args s mc ms free) (F0 m pc ls rest) := by
  intro T hT X
  have htr : e.platform.stackTraces = false := (show e.platform.stackTraces = l.stackTraces by rw [X.admits.platform]).trans hl
  have Y := vx_rebase X (R' := { frames := R.frames, locals := R.locals, cells := 1, slots := 6 }) (Nat.le_refl _) (Nat.le_refl _) hRcells hRslots
  obtain ⟨s', hA⟩ : ∃ z, z = (T.setVm s.vm).setFrames (.invoking m args :: below) := ⟨_, rfl⟩
  rw [← hA] at Y
  have hvm : s'.vm = s.vm := by rw [hA]; rfl
  have hhp : s'.heap = H := by rw [hA]; exact hT
  have hW0 : s.WarmedH s'.vm := by rw [hvm]; exact State.WarmedH.refl s
  have hat' : ∀ w ∈ vx_atS own ic cls names, w.before args s' = true := fun w hw => vx_ot_at hW0 hvm.symm (hgood w (List.mem_cons_of_mem _ (List.mem_cons_of_mem _ hw))) (hat w hw)
  have hk' : (Cond.classLink own ik cls).before args s' = true := vx_ot_at hW0 hvm.symm (hgood _ List.mem_cons_self) hk
  have hini' : (Cond.initialized cls).before args s' = true := vx_ot_at hW0 hvm.symm (hgood _ (List.mem_cons_of_mem _ List.mem_cons_self)) hini
  have hU' : vx_Zq Bundle.tN "UNASSIGNED_STACK" Bundle.steD A s' s'.heap := by rw [hhp]; exact vx_Zq.moved hW0.alike (hU.kept hS.2.1)
  have hN' : vx_Zq Bundle.tN "SUPPRESSED_SENTINEL" Bundle.listD A s' s'.heap := by rw [hhp]; exact vx_Zq.moved hW0.alike (hN.kept hS.2.1)
  have h : ∀ w ∈ Bundle.ownAtoms own ic cls names, w.before args s' = true := vx_own hat' (vx_isRefq hU'.1) (vx_isRefq hN'.1) hU'.2.word hN'.2.word
  have hown' : s'.vm.findClass own = some m.cls := by rw [hvm]; exact hown
  have hins : (Cond.instantiable cls 6).before args s' = true := h _ (by simp [Bundle.ownAtoms])
  obtain ⟨vm₁, cX, kX, hfX, hkX, -, -, X₁, st1⟩ := Y.newCold hexec (own := own) (C := cls) (index := ik) (n := 6) hown' hk' hins hini'
    (g := F0 m pc ls rest) rfl (by rw [hb]; exact d0) (Nat.le_refl _) (Nat.le_refl _)
  generalize hT1 : (T.setVm vm₁).pushCell { cls := cX, slots := kX.instanceTypes.map defaultValue, vm := .none } = T1 at X₁ st1
  have hcat : (Value.ref T.heap.size).category = 1 := rfl
  have hcellA : T1.heap[T.heap.size]? = some (freshCell cX kX) := by rw [← hT1]; exact State.heap_pushCell_size _ _
  have d3' : decode c.code (pc + 3) = .ok (.dup, 1) := by rw [hb]; exact d3
  have d4' : decode c.code (pc + 4) = .ok (.ldc_w is, 3) := by rw [hb]; exact d4
  have hstr' : vk_R own is text sa s' := vk_R.warm hW0 hstr
  obtain ⟨U, hsteps, hrun, hend, hW, hsame, ce, hce, hO⟩ := X₁.ctorThrowS hexec htr (own := own) (cls := cls) (names := names) (ic := ic) hown' hcls hnames h (fun x hx => nomatch hx) hfX hkX hcellA (by rw [hhp, hT]; exact Nat.le_refl _) (msg := .ref sa) rfl
    (g := { method := m, pc := pc + 7, locals := ls, stack := .ref sa :: .ref T.heap.size :: .ref T.heap.size :: rest, locked := none }) rfl hsize rfl rfl (rest := rest) rfl
    (by rw [hb]; exact d7) (by rw [hb]; exact d10) hout hRframes (by simp only [List.map_cons, List.sum_cons, hcat]; omega) hlocks
  obtain ⟨f1, f2⟩ := vx_frame hsame
  rw [hhp] at f1 f2
  have hWs : s.WarmedH U.vm := State.WarmedH.trans hW0 hW
  have hcl : s.vm.findClass cls = some ce.cls := by
    have h9 := hO.cls
    rw [hvm] at h9
    exact h9
  have hall : s.sameButNew ({ U with vm := s.vm } : State) locs mc ms := by
    subst hA
    obtain ⟨e1, e2⟩ := hsame
    rw [State.setFrames_setFrames] at e1
    have h2 : (T.setVm s.vm).sameButNew ({ U with vm := s.vm } : State) [] (0 + 1) (0 + 6) := ⟨e1, e2⟩
    have h3 := X.same.trans h2
    rw [List.append_nil] at h3
    exact h3.mono hc hs
  refine ⟨U, ?_, .threw T.heap.size, hrun, hend, Or.inr ⟨T.heap.size, rfl, cls, ce, locs, hx U hWs.alike f1 (fun q hq => f2 q hq (fun z hz => nomatch hz)), hce, hO.vm, hcl, hWs, hall, hf⟩⟩
  refine st1 _ ?_
  show Steps p.tables e below (T1.setTop { method := m, pc := pc + 3, locals := ls, stack := .ref T.heap.size :: rest, locked := none }) _
  jvm_step X₁.here [X₁.here.top, hexec, d3', Value.category]
  exact X₁.ldcStringW hexec (own := own) (text := text) (index := is) (a := sa) hown' hstr'.1 hstr'.2
    (g := { method := m, pc := pc + 4, locals := ls, stack := .ref T.heap.size :: .ref T.heap.size :: rest, locked := none }) rfl d4' _ hsteps
end Ends
section Bodies
variable {l : Launch}
theorem vx_ofW {y : MethodName} {ws ws' : List Cond} {rm : Room} {Pc : Array Value → State → Prop} {Qc : Array Value → State → Outcome → State → Prop} {XC : String → State → State → Prop} {mc ms : Nat} {free : Addr → Prop} {cc : ByteArray} {maxL : Nat} {ret : Option FieldType}
    (hy : plainName y.cls = true) (hw : ws = Cond.code y cc maxL ret :: ws')
    (body : ∀ p e s m args below meth c s₁, BodyLoose p l y (headSpec ws rm) cc maxL ret e s m args below meth c s₁ → c.maxLocals = maxL → (∀ x ∈ c.exceptionTable.toList, False) → Pc args s →
      W p l e (headSpec ws rm).room s m args below meth c s.heap [] 0 0 (vx_MQ below Qc XC args s mc ms free) (entryFrame m args maxL)) : vx_Met l y ws rm Pc Qc XC mc ms free := by
  refine MetFree.of_bodyS (code := cc) (maxLocals := maxL) (ret := ret) hy ?_ ?_
  · intro args s m h hn
    obtain ⟨meth, c, h1, h2, h3, h4, h5, h6, -, -⟩ := Cond.code_spec hn (atoms_spec (ws := ws) h _ (by rw [hw]; exact List.mem_cons_self))
    exact ⟨meth, c, h1, h2, h3, h4, h5, h6⟩
  · intro p e s m args below meth c s₁ B hml hP _
    have hh0 : s₁.heap = s.heap := by rw [B.state]; rfl
    have ht : ∀ x ∈ c.exceptionTable.toList, False := by
      obtain ⟨meth9, c9, h1, h2, -, -, -, -, h7, -⟩ := Cond.code_spec B.named (atoms_spec (ws := ws) B.pre _ (by rw [hw]; exact List.mem_cons_self))
      cases Option.some.inj (h1.symm.trans B.method)
      cases Option.some.inj (h2.symm.trans (Stand.of_body B).code)
      intro x hx
      rw [Array.isEmpty_iff.mp h7] at hx
      cases hx
    obtain ⟨t, a1, o, b1, b2, b3⟩ := body p e s m args below meth c s₁ B hml ht hP s₁ hh0 (Stand.of_body B)
    exact ⟨t, o, a1, b1, b2, b3⟩
theorem vx_table {p : Program} {x y : MethodName} {S : Spec} {cc bytes : ByteArray} {maxL maxL' : Nat} {ret ret' : Option FieldType} {e : Env} {s s₁ : State} {m : MethodId} {args : Array Value} {below : List Frame} {meth : Method} {c : Code} {hh : List (Nat × Nat × Nat × Nat)}
    (B : BodyLoose p l y S cc maxL ret e s m args below meth c s₁) (h : (Cond.codeWith y bytes maxL' ret' hh).before args s = true) : c.exceptionTable.toList = tableOf hh := by
  obtain ⟨m9, meth9, c9, hn9, h1, h2, -, -, h6, -⟩ := Cond.codeWith_spec h
  cases Option.some.inj (hn9.symm.trans B.named)
  cases Option.some.inj (h1.symm.trans B.method)
  cases Option.some.inj (h2.symm.trans (Stand.of_body B).code)
  rw [← h6, table_eq]
end Bodies
end VXA
section VXS
variable {p : Program} {l : Launch} {e : Env} {R : Room} {s : State} {m : MethodId} {args : Array Value} {below : List Frame} {meth : Method} {c : Code} {T : State} {H : Heap} {locs : List Loc} {cells slots : Nat}
abbrev vx_CSW (R : Room) (s : State) (args : Array Value) (own : String) (index : Nat) (y : MethodName) (bytes : ByteArray) (maxL : Nat) (ret : Option FieldType) (hh : List (Nat × Nat × Nat × Nat)) (ws : List Cond) (rm : Room) (mc ms n : Nat) : Prop :=
  (rm.cells = mc ∧ rm.slots = ms ∧ rm.frames + 1 ≤ R.frames ∧ 8 + (maxL + 11) + rm.locals ≤ R.locals ∧ (∀ w ∈ ws, ∀ (a' : Array Value) (U : State), s.WarmedH U.vm → w.before a' U = true) ∧ Cond.codeWith y bytes maxL ret hh ∈ ws) ∧
  (Cond.codeWith y bytes maxL ret hh).before args s = true ∧ (Cond.initialized y.cls).before args s = true ∧ (y.cls ≠ "java/lang/invoke/MethodHandle" ∧ y.cls ≠ "java/lang/invoke/VarHandle") ∧
  (∀ sig, parseMethodDescriptor y.desc = some sig → n = sig.parameters.length) ∧ (Cond.methodLink own index y).before args s = true ∧ (Cond.static y).before args s = true
theorem vx_cwSW {own : String} {index maxL mc ms : Nat} {y : MethodName} {bytes : ByteArray} {ret : Option FieldType} {hh : List (Nat × Nat × Nat × Nat)} {Ts ws ws' : List Cond} {rm : Room} (n : Nat) (ht : ∀ w ∈ Ts, w.before args s = true) (hT : GoodIn Ts (va_wsS own index y ws)) (hw : ws = Cond.codeWith y bytes maxL ret hh :: ws') (hrc : rm.cells = mc) (hrs : rm.slots = ms)
    (hd : y.cls ≠ "java/lang/invoke/MethodHandle" ∧ y.cls ≠ "java/lang/invoke/VarHandle" ∧ (parseMethodDescriptor y.desc).map (fun d => d.parameters.length) = some n) (hR : rm.frames + 1 ≤ R.frames ∧ 8 + (maxL + 11) + rm.locals ≤ R.locals) :
    vx_CSW R s args own index y bytes maxL ret hh ws rm mc ms n := by
  have ok : ∀ w ∈ va_wsS own index y ws, w.before args s = true := fun w h => ht w (hT w h).1
  have hG : GoodIn Ts ws := fun w h => hT w (by unfold va_wsS; exact List.mem_append_right _ h)
  have hc : Cond.codeWith y bytes maxL ret hh ∈ ws := by rw [hw]; exact List.mem_cons_self
  refine ⟨⟨hrc, hrs, hR.1, hR.2, pay_in ht hG, hc⟩, ht _ (hG _ hc).1, ok _ (by simp [va_wsS]), ⟨hd.1, hd.2.1⟩, fun sig h => ?_, ok _ (by simp [va_wsS]), ok _ (by simp [va_wsS])⟩
  have h2 := hd.2.2
  rw [h] at h2
  exact (Option.some.inj h2).symm
theorem vx_callSW (X : Stand p l e R s m args below meth c T locs cells slots) (hexec : p.tables.exec = Jvm.exec) {own : String} {index : Nat} {y : MethodName} {bytes : ByteArray} {maxL : Nat} {ret : Option FieldType} {hh : List (Nat × Nat × Nat × Nat)}
    (hown : s.vm.findClass own = some m.cls) (hlink : (Cond.methodLink own index y).before args s = true) (hstat : (Cond.static y).before args s = true) (hinit : (Cond.initialized y.cls).before args s = true)
    (hcode : (Cond.codeWith y bytes maxL ret hh).before args s = true) (hy : y.cls ≠ "java/lang/invoke/MethodHandle" ∧ y.cls ≠ "java/lang/invoke/VarHandle")
    {W9 : Nat} {Pre : Pt → Array Value → Prop} {Post : Pt → Array Value → Option Value → Pt → Prop} (hK : Back l R p e below s args y 3 W9 Pre Post)
    {g : JFrame} (hg : g.method = m) (hsize : g.locals.size = c.maxLocals) {argsL rest : List Value} (hlen : ∀ sig, parseMethodDescriptor y.desc = some sig → argsL.length = sig.parameters.length)
    (hstack : g.stack = argsL.reverse ++ rest) (hW : 2 * g.monitorRoom + (rest.map fun v => v.category).sum ≤ W9) (hdg : decode c.code g.pc = .ok (.invokestatic index, 3))
    (hpre : ∀ vm₁, s.WarmedH vm₁ → Pre ⟨T.setVm vm₁, locs, cells, slots⟩ argsL.toArray) :
    ∃ (v : Option Value) (vm₁ : Vm) (B : Pt), s.WarmedH vm₁ ∧ Stand p l e R s m args below meth c B.U B.locs B.cells B.slots ∧ Post ⟨T.setVm vm₁, locs, cells, slots⟩ argsL.toArray v B ∧
      ∀ target, Steps p.tables e below (B.U.setTop { g with pc := g.pc + 3, stack := v.toList ++ rest }) target → Steps p.tables e below (T.setTop g) target := by
  obtain ⟨mk, methM, cM, hnamed, hmethM, -, -, -, -, -, -, hsigM⟩ := Cond.codeWith_spec hcode
  have hstatic : methM.isStatic = true := Cond.static_spec hnamed hmethM hstat
  obtain ⟨kP, hkP, -⟩ := className_of_methodNamed hnamed
  have hinitP : kP.init = .initialized := Cond.initialized_spec (findClass_of_methodNamed hnamed) hkP hinit
  obtain ⟨vm₁, X₁, hstep₁⟩ := X.invokestatic hexec hown hlink hnamed hmethM hstatic hkP hinitP hy (g := g) hg (argsL := argsL) (rest := rest) (hlen _ hsigM) hstack hdg
  obtain ⟨v, B, X', hpost, hsteps⟩ := hK m meth c ⟨T.setVm vm₁, locs, cells, slots⟩ { g with stack := rest } (.invokestatic index) mk argsL.toArray X₁ hg hsize hdg hW (X₁.named hnamed) (hpre vm₁ X₁.warmed)
  exact ⟨v, vm₁, B, X₁.warmed, X', hpost, fun target h => hstep₁ _ fun acts => by rw [doInvoke_state]; exact hsteps.trans h⟩
theorem vx_runSW {y : MethodName} {bytes cc : ByteArray} {maxL nL mc ms n index : Nat} {ret : Option FieldType} {hh : List (Nat × Nat × Nat × Nat)} {ws : List Cond} {rm : Room} {Pc : Array Value → State → Prop} {Qc : Array Value → State → Outcome → State → Prop} {free : Addr → Prop} {Ts : List Cond} {own : String} {As rest : List Value} {g : JFrame}
    (S : CallFix p m c cc nL s args Ts own) (hM : Met l y ws rm Pc Qc mc ms free) (cw : vx_CSW R s args own index y bytes maxL ret hh ws rm mc ms n) (hp : PreS s H Pc As)
    (hg : g.method = m) (hn : As.length = n) (hsize : g.locals.size = nL) (hstack : g.stack = As.reverse ++ rest) (hW : 2 * g.monitorRoom + (rest.map fun v => v.category).sum ≤ 8) (hdg : decode cc g.pc = .ok (.invokestatic index, 3)) (hf : cells + mc ≤ R.cells ∧ slots + ms ≤ R.slots) :
    va_Run p l e R s m args below meth c H locs cells slots mc ms g rest (Qc As.toArray) (free) := by
  obtain ⟨⟨hrc, hrs, hfr, hlo, hws, hcw⟩, hcode, hini, hy, hlen, hl, hstt⟩ := cw
  have hK : Back l R p e below s args y 3 8 (PreOf R mc ms Pc) (PostOf Qc mc ms free) := va_backW (hh := hh) (bytes := bytes) (maxL := maxL) (ret := ret) hM hp.1 hrc hrs hfr hlo hws hcw (fun a' U hW => word_at hW (Or.inl (by first | rfl | simp [Cond.onTables, Cond.keeps, Cond.steady])) hini)
  obtain ⟨hx, hb, hml, ho, -⟩ := S
  intro T hT X
  obtain ⟨v, vm₁, ⟨U', l2, c2, s2⟩, hW₁, X', ⟨g', mk, t, L, e1, e2, hq, h1, hL, h2, h3⟩, st⟩ := vx_callSW X hx (hh := hh) (bytes := bytes) (maxL := maxL) (ret := ret) ho hl hstt hini hcode hy hK hg (hsize.trans hml.symm) (argsL := As) (rest := rest) (fun sig h => hn.trans (hlen sig h)) hstack hW (by rw [hb]; exact hdg)
    (fun vm₁ hW₁ => ⟨hf.1, hf.2, hp.2 (T.setVm vm₁) hT hW₁⟩)
  dsimp only [Pt.U, Pt.locs, Pt.cells, Pt.slots] at X' e1 e2 h1 h2 h3 st
  subst h1; subst h2; subst h3
  exact ⟨v, (T.setVm vm₁).calling g' mk As.toArray, t, U', L, hT, X', hL, e1, e2, hq, st⟩
theorem vx_outP {p : Program} {l : Launch} {e : Env} {R : Room} {s : State} {m : MethodId} {args : Array Value} {below : List Frame} {meth : Method} {c : Code} {H : Heap} {locs : List Loc} {cells slots : Nat} {free : Addr → Prop} {ls : Array Slot} {rest : List Value} {Qc : Array Value → State → Outcome → State → Prop} {XC : String → State → State → Prop}
    {pc : Nat} {own E : String} {ce : Cell} {q : Addr} {mc ms : Nat} (hown : s.vm.findClass own = some m.cls) (hlocks : meth.locks = false)
    (hpass : ∀ z ∈ c.exceptionTable.toList, covers z pc = false ∨ (z.catchType ≠ 0 ∧ ∃ nm : String, (Cond.classLink own z.catchType nm).before args s = true ∧ va_Nc E nm s)) (hcell : H[q]? = some ce) (hv : ce.vm = .none) (hcl : s.vm.findClass E = some ce.cls)
    (hx : ∀ t : State, t.heap = H → s.vm.Alike t.vm → XC E s t) (hf : ∀ z ∈ locs, free z.base) (hc : cells ≤ mc) (hs : slots ≤ ms) :
    vx_W p l e R s m args below meth c H locs cells slots (vx_MQ below Qc XC args s mc ms free) (F0 m pc ls rest) q := by
  intro T hT X
  have hpl : e.platform.magicAccessors = ({} : Platform).magicAccessors := by rw [X.admits.platform]
  obtain ⟨vm', hW', X', st⟩ := X.outThrough hlocks q (g := F0 m pc ls rest) rfl rfl rfl (cell := ce) (by rw [hT]; exact hcell) (by rw [hv]; rfl)
    (by obtain ⟨k9, h9, -⟩ := Vm.findClass_spec hcl; exact ⟨k9, h9⟩) (fun z hz => by
      rcases hpass z hz with h | ⟨hz0, nm, hl1, hn1⟩
      · exact Or.inl h
      · obtain ⟨c6, hc6, hcl6⟩ := Cond.classLink_spec hown hl1 e.platform hpl
        obtain ⟨a8, b8, h1, h2, h3⟩ := hn1
        cases Option.some.inj (h1.symm.trans hcl)
        cases Option.some.inj (h2.symm.trans hc6)
        exact Or.inr ⟨hz0, _, hcl6, h3⟩)
  obtain ⟨g₀, hfr⟩ := X'.frames_eq
  have hcell9 : ((T.setVm vm').setFrames (.throwing q :: below)).heap[q]? = some ce := by
    show T.heap[q]? = some ce
    rw [hT]; exact hcell
  have hend : Ended ((T.setVm vm').setFrames (.throwing q :: below)) below (.threw q) := State.frames_setFrames _ (State.cur_lt_of_frames hfr)
  refine ⟨(T.setVm vm').setFrames (.throwing q :: below), ?_, .threw q, X'.here.running, hend, Or.inr ⟨q, rfl, E, ce, locs, hx _ hT (X'.ends _).1.alike, hcell9, hv, hcl, (X'.ends _).1, (X'.ends _).2.mono hc hs, hf⟩⟩
  rw [X.pushThrowing_eq]
  exact st
theorem vx_lt {D : va_G} {cl : List vw_C} {ws : va_W} {H1 : Heap} (h : va_P D cl ws H1) {k : Nat} {q : Nat × va_E} (hk : ws[k]? = some q) : q.1 < H1.size := (h k q hk).lt
end VXS
section VXH
section
variable {l : Launch} {R : Room} {p : Program} {e : Env} {below : List Frame} {s : State} {sargs : Array Value} {y : MethodName} {len W9 : Nat}
theorem vx_backW {ws : List Cond} {rm : Room} {Pc : Array Value → State → Prop} {Qc : Array Value → State → Outcome → State → Prop} {XC : String → State → State → Prop} {mc ms : Nat} {free : Addr → Prop} {bytes : ByteArray} {maxL : Nat} {ret : Option FieldType} {hh : List (Nat × Nat × Nat × Nat)}
    (hM : vx_Met l y ws rm Pc Qc XC mc ms free) (hblind : FrameBlind Pc) (hrc : rm.cells = mc) (hrs : rm.slots = ms)
    (hframes : rm.frames + 1 ≤ R.frames) (hlocals : W9 + (maxL + 11) + rm.locals ≤ R.locals)
    (hws : ∀ w ∈ ws, ∀ a' U, s.WarmedH U.vm → w.before a' U = true) (hcode : Cond.codeWith y bytes maxL ret hh ∈ ws) (hinit : ∀ a' U, s.WarmedH U.vm → (Cond.initialized y.cls).before a' U = true) :
    vx_Back l R p e below s sargs y len W9 (PreOf R mc ms Pc) (PostOf Qc mc ms free) (vx_Post XC mc ms free) := by
  intro m meth c A g ig mk a X hg hsize hdg hW hn hp
  have h1 : (headSpec ws rm).pre.before a A.U = true := atoms_intro fun w hw => hws w hw _ _ X.warmed
  have h2 : (Cond.codeWith y bytes maxL ret hh).before a A.U = true := hws _ hcode _ _ X.warmed
  have h3 : (Cond.initialized y.cls).before a A.U = true := hinit _ _ X.warmed
  have h4 : A.cells + (headSpec ws rm).room.cells ≤ R.cells := by rw [show (headSpec ws rm).room.cells = mc from hrc]; exact hp.1
  have h5 : A.slots + (headSpec ws rm).room.slots ≤ R.slots := by rw [show (headSpec ws rm).room.slots = ms from hrs]; exact hp.2.1
  have hPc : Pc a (A.U.calling g mk a) := hblind _ _ _ _ hp.2.2
  obtain ⟨U, Ls, c0, s0⟩ := A
  dsimp only [Pt.U, Pt.locs, Pt.cells, Pt.slots] at h1 h2 h3 h4 h5 X hn hPc ⊢
  obtain ⟨m9, methY, cY, hn9, hmY, hcY, -, hlY, -⟩ := Cond.codeWith_spec h2
  cases Option.some.inj (hn9.symm.trans hn)
  obtain ⟨kY, hkY, -⟩ := className_of_methodNamed hn
  have hinitY : kY.init = .initialized := Cond.initialized_spec (findClass_of_methodNamed hn) hkY h3
  have h : At U g.method c below := by rw [hg]; exact X.here
  have hlocals9 : W9 + (maxL + 11) + (headSpec ws rm).room.locals ≤ R.locals := hlocals
  have happ : (headSpec ws rm).appliesLoose y e.platform (U.calling g mk a) = true :=
    Spec.appliesLoose_calling (g := g) h hdg hn hkY hinitY
      (X.room_calling (g := g) (R' := (headSpec ws rm).room) hsize hmY hcY hframes (by rw [hlY]; omega) h4 h5) h1
  obtain ⟨mid, hmid⟩ := h.above
  have hfr : (U.setTop g).frames = (.java g :: mid) ++ below := by rw [State.frames_setTop' g h.top, hmid]; rfl
  obtain ⟨o, s₂, hsteps, -, hend, hq⟩ := Steps.callFree hM p X.admits X.cas X.clock (acts := []) hfr happ hPc trivial
  have hq' : vx_Q Qc XC mc ms free a (U.calling g mk a) o s₂ := hq
  rw [State.frames_setTop' g h.top] at hend
  obtain ⟨g₀, hg0⟩ := Option.isSome_iff_exists.mp h.top
  obtain ⟨r, hr⟩ := State.topJava?_eq_some.mp hg0
  have hr' : (({ U with heap := s₂.heap, slotsUsed := s₂.slotsUsed } : State).setVm s₂.vm).frames = .java g₀ :: r := hr
  rcases hq' with ⟨hqc, L, hfe, hL⟩ | ⟨q, rfl, E, ce, L, hx, hce, hcv, hcl, hW₂, hsm, hL⟩
  · obtain ⟨⟨v, rfl⟩, hW₂, e2, q2, q3, q4, q5, q6⟩ := id hfe
    have e3 : s₂ = ({ (U.calling g mk a).setFrames s₂.frames with heap := s₂.heap, slotsUsed := s₂.slotsUsed } : State).setVm s₂.vm := by
      have : s₂ = ({ s₂ with vm := (U.calling g mk a).vm } : State).setVm s₂.vm := rfl
      rw [e2] at this
      exact this
    obtain ⟨c₂, i₂, len₂, hc₂, hd₂, hf₂⟩ := hend
    have hW' : U.WarmedH s₂.vm := hW₂
    have hcc : c₂ = c := by
      have h1 : s₂.code? g.method = U.code? g.method := by
        rw [State.code?_eq, State.code?_eq, hW'.alike.method?]
      exact Option.some.inj (hc₂.symm.trans (h1.trans h.code))
    subst hcc
    have hlen : len₂ = len := by rw [hdg] at hd₂; cases hd₂; rfl
    subst hlen
    have hs₂ : s₂ = (({ U with heap := s₂.heap, slotsUsed := s₂.slotsUsed } : State).setVm s₂.vm).setTop { g with pc := g.pc + len₂, stack := v.toList ++ g.stack } := by
      refine e3.trans ?_
      rw [hf₂, State.calling_eq h.top, State.setFrames_setFrames, State.setTop_of_frames _ hr', hr]
      rfl
    have hsame : U.sameButNew ({ U with heap := s₂.heap, slotsUsed := s₂.slotsUsed } : State) L mc ms := by
      refine ⟨?_, q2, q3, q4, q5, q6⟩
      obtain ⟨t, ht, -⟩ := State.frames_cons hr
      show ({ U with heap := s₂.heap, slotsUsed := s₂.slotsUsed } : State) = { U.setFrames U.frames with heap := s₂.heap, slotsUsed := s₂.slotsUsed }
      rw [State.setFrames_self ht]
    subst hg
    refine Or.inl ⟨v, ⟨(({ U with heap := s₂.heap, slotsUsed := s₂.slotsUsed } : State).setVm s₂.vm), Ls ++ L, c0 + mc, s0 + ms⟩,
      ⟨X.admits, X.cas, X.clock, X.frames, X.room, X.hears, X.method, X.code, (X.here.setHeapUsed s₂.heap s₂.slotsUsed).setVm hW'.alike, X.tail, State.WarmedH.trans X.warmed hW', X.limits, X.bytes, X.same.trans (hsame.setVm s.vm)⟩,
      ⟨g, mk, s₂, L, rfl, rfl, hqc, rfl, hL, rfl, rfl⟩, ?_⟩
    show Steps p.tables e below _ ((({ U with heap := s₂.heap, slotsUsed := s₂.slotsUsed } : State).setVm s₂.vm).setTop { g with pc := g.pc + len₂, stack := v.toList ++ g.stack })
    rw [← hs₂]
    exact hsteps
  · obtain ⟨e2, q2, q3, q4, q5, q6⟩ := id hsm
    have e3 : s₂ = ({ (U.calling g mk a).setFrames s₂.frames with heap := s₂.heap, slotsUsed := s₂.slotsUsed } : State).setVm s₂.vm := by
      have : s₂ = ({ s₂ with vm := (U.calling g mk a).vm } : State).setVm s₂.vm := rfl
      rw [e2] at this
      exact this
    have hf₂ : s₂.frames = .throwing q :: .java g :: U.frames.tail := hend
    have hW' : U.WarmedH s₂.vm := hW₂
    have hs₂ : s₂ = ((({ U with heap := s₂.heap, slotsUsed := s₂.slotsUsed } : State).setVm s₂.vm).setTop g).pushFrame (.throwing q) := by
      refine e3.trans ?_
      rw [hf₂, State.calling_eq h.top, State.setFrames_setFrames, State.pushFrame, State.frames_setTop _ hr', State.setTop_of_frames _ hr', State.setFrames_setFrames, hr]
      rfl
    have hsame : U.sameButNew ({ U with heap := s₂.heap, slotsUsed := s₂.slotsUsed } : State) L mc ms := by
      refine ⟨?_, q2, q3, q4, q5, q6⟩
      obtain ⟨t, ht, -⟩ := State.frames_cons hr
      show ({ U with heap := s₂.heap, slotsUsed := s₂.slotsUsed } : State) = { U.setFrames U.frames with heap := s₂.heap, slotsUsed := s₂.slotsUsed }
      rw [State.setFrames_self ht]
    subst hg
    refine Or.inr ⟨q, ⟨(({ U with heap := s₂.heap, slotsUsed := s₂.slotsUsed } : State).setVm s₂.vm), Ls ++ L, c0 + mc, s0 + ms⟩,
      ⟨X.admits, X.cas, X.clock, X.frames, X.room, X.hears, X.method, X.code, (X.here.setHeapUsed s₂.heap s₂.slotsUsed).setVm hW'.alike, X.tail, State.WarmedH.trans X.warmed hW', X.limits, X.bytes, X.same.trans (hsame.setVm s.vm)⟩,
      ⟨g, mk, s₂, L, E, ce, rfl, rfl, hx, hce, hcv, hcl, rfl, hL, rfl, rfl⟩, ?_⟩
    show Steps p.tables e below _ (((({ U with heap := s₂.heap, slotsUsed := s₂.slotsUsed } : State).setVm s₂.vm).setTop g).pushFrame (.throwing q))
    rw [← hs₂]
    exact hsteps
end
variable {p : Program} {l : Launch} {e : Env} {R : Room} {s : State} {m : MethodId} {args : Array Value} {below : List Frame} {meth : Method} {c : Code} {T : State} {H : Heap} {locs : List Loc} {cells slots : Nat}
theorem vx_callVX (X : Stand p l e R s m args below meth c T locs cells slots) (hexec : p.tables.exec = Jvm.exec) {own C : String} {index : Nat} {y : MethodName} {bytes : ByteArray} {maxL : Nat} {ret : Option FieldType} {hh : List (Nat × Nat × Nat × Nat)}
    (hown : s.vm.findClass own = some m.cls) (hlink : (Cond.methodLink own index y).before args s = true) (hinst : (Cond.instanceMethod y).before args s = true) (hsel : (Cond.selects C y y).before args s = true)
    (hcode : (Cond.codeWith y bytes maxL ret hh).before args s = true) (hy : y.cls ≠ "java/lang/invoke/MethodHandle" ∧ y.cls ≠ "java/lang/invoke/VarHandle")
    {W9 : Nat} {Pre : Pt → Array Value → Prop} {Post : Pt → Array Value → Option Value → Pt → Prop} {PostX : Pt → Array Value → Addr → Pt → Prop} (hK : vx_Back l R p e below s args y 3 W9 Pre Post PostX)
    {b : Addr} {cellB : Cell} (hcell : T.heap[b]? = some cellB) (hobj : cellB.vm.isStatics = false) (hcls : s.vm.findClass C = some cellB.cls)
    {g : JFrame} (hg : g.method = m) (hsize : g.locals.size = c.maxLocals) {argsL rest : List Value} (hlen : ∀ sig, parseMethodDescriptor y.desc = some sig → argsL.length = sig.parameters.length)
    (hstack : g.stack = argsL.reverse ++ .ref b :: rest) (hW : 2 * g.monitorRoom + (rest.map fun v => v.category).sum ≤ W9) (hdg : decode c.code g.pc = .ok (.invokevirtual index, 3))
    (hpre : ∀ vm₁, s.WarmedH vm₁ → Pre ⟨T.setVm vm₁, locs, cells, slots⟩ (Value.ref b :: argsL).toArray) :
    (∃ (v : Option Value) (vm₁ : Vm) (B : Pt), s.WarmedH vm₁ ∧ Stand p l e R s m args below meth c B.U B.locs B.cells B.slots ∧ Post ⟨T.setVm vm₁, locs, cells, slots⟩ (Value.ref b :: argsL).toArray v B ∧
      ∀ target, Steps p.tables e below (B.U.setTop { g with pc := g.pc + 3, stack := v.toList ++ rest }) target → Steps p.tables e below (T.setTop g) target) ∨
    (∃ (q : Addr) (vm₁ : Vm) (B : Pt), s.WarmedH vm₁ ∧ Stand p l e R s m args below meth c B.U B.locs B.cells B.slots ∧ PostX ⟨T.setVm vm₁, locs, cells, slots⟩ (Value.ref b :: argsL).toArray q B ∧
      Steps p.tables e below (T.setTop g) ((B.U.setTop { g with stack := rest }).pushFrame (.throwing q))) := by
  obtain ⟨mk, methM, hnamed, hmethM, hstM, habM⟩ := Cond.instanceMethod_spec hinst
  obtain ⟨m8, methM', cM, hn8, hmethM', -, -, -, -, -, -, hsigM⟩ := Cond.codeWith_spec hcode
  cases Option.some.inj (hn8.symm.trans hnamed)
  cases hmethM.symm.trans hmethM'
  obtain ⟨c2, r2, m2, q1, q2, q3, q4, kP, hkP, hkPi⟩ := Cond.selects_spec hsel
  cases hcls.symm.trans q1
  cases (State.methodFound?_of_named hnamed hy).symm.trans q2
  cases hnamed.symm.trans q3
  have hselP : selectMethod e.platform s.vm cellB.cls mk = .method mk := by rw [Launch.admits_selectMethod X.admits]; exact q4
  obtain ⟨vm₁, X₁, hstep₁⟩ := X.invokevirtual hexec hown hlink hnamed hmethM hstM hkP hkPi hy (a := b) (cell := cellB) hcell
    (fun z h => by rw [h] at hobj; cases hobj) hselP hmethM habM hkP hkPi (g := g) hg (argsL := argsL) (rest := rest) (hlen _ hsigM) hstack hdg
  rcases hK m meth c ⟨T.setVm vm₁, locs, cells, slots⟩ { g with stack := rest } (.invokevirtual index) mk (Value.ref b :: argsL).toArray X₁ hg hsize hdg hW (X₁.named hnamed) (hpre vm₁ X₁.warmed) with ⟨v, B, X', hpost, hsteps⟩ | ⟨q, B, X', hpost, hsteps⟩
  · exact Or.inl ⟨v, vm₁, B, X₁.warmed, X', hpost, fun target h => hstep₁ _ fun acts => by rw [doInvoke_state]; exact hsteps.trans h⟩
  · exact Or.inr ⟨q, vm₁, B, X₁.warmed, X', hpost, hstep₁ _ fun acts => by rw [doInvoke_state]; exact hsteps⟩
theorem vx_callSX (X : Stand p l e R s m args below meth c T locs cells slots) (hexec : p.tables.exec = Jvm.exec) {own : String} {index : Nat} {y : MethodName} {bytes : ByteArray} {maxL : Nat} {ret : Option FieldType} {hh : List (Nat × Nat × Nat × Nat)}
    (hown : s.vm.findClass own = some m.cls) (hlink : (Cond.methodLink own index y).before args s = true) (hstat : (Cond.static y).before args s = true) (hinit : (Cond.initialized y.cls).before args s = true)
    (hcode : (Cond.codeWith y bytes maxL ret hh).before args s = true) (hy : y.cls ≠ "java/lang/invoke/MethodHandle" ∧ y.cls ≠ "java/lang/invoke/VarHandle")
    {W9 : Nat} {Pre : Pt → Array Value → Prop} {Post : Pt → Array Value → Option Value → Pt → Prop} {PostX : Pt → Array Value → Addr → Pt → Prop} (hK : vx_Back l R p e below s args y 3 W9 Pre Post PostX)
    {g : JFrame} (hg : g.method = m) (hsize : g.locals.size = c.maxLocals) {argsL rest : List Value} (hlen : ∀ sig, parseMethodDescriptor y.desc = some sig → argsL.length = sig.parameters.length)
    (hstack : g.stack = argsL.reverse ++ rest) (hW : 2 * g.monitorRoom + (rest.map fun v => v.category).sum ≤ W9) (hdg : decode c.code g.pc = .ok (.invokestatic index, 3))
    (hpre : ∀ vm₁, s.WarmedH vm₁ → Pre ⟨T.setVm vm₁, locs, cells, slots⟩ argsL.toArray) :
    (∃ (v : Option Value) (vm₁ : Vm) (B : Pt), s.WarmedH vm₁ ∧ Stand p l e R s m args below meth c B.U B.locs B.cells B.slots ∧ Post ⟨T.setVm vm₁, locs, cells, slots⟩ argsL.toArray v B ∧
      ∀ target, Steps p.tables e below (B.U.setTop { g with pc := g.pc + 3, stack := v.toList ++ rest }) target → Steps p.tables e below (T.setTop g) target) ∨
    (∃ (q : Addr) (vm₁ : Vm) (B : Pt), s.WarmedH vm₁ ∧ Stand p l e R s m args below meth c B.U B.locs B.cells B.slots ∧ PostX ⟨T.setVm vm₁, locs, cells, slots⟩ argsL.toArray q B ∧
      Steps p.tables e below (T.setTop g) ((B.U.setTop { g with stack := rest }).pushFrame (.throwing q))) := by
  obtain ⟨mk, methM, cM, hnamed, hmethM, -, -, -, -, -, -, hsigM⟩ := Cond.codeWith_spec hcode
  have hstatic : methM.isStatic = true := Cond.static_spec hnamed hmethM hstat
  obtain ⟨kP, hkP, -⟩ := className_of_methodNamed hnamed
  have hinitP : kP.init = .initialized := Cond.initialized_spec (findClass_of_methodNamed hnamed) hkP hinit
  obtain ⟨vm₁, X₁, hstep₁⟩ := X.invokestatic hexec hown hlink hnamed hmethM hstatic hkP hinitP hy (g := g) hg (argsL := argsL) (rest := rest) (hlen _ hsigM) hstack hdg
  rcases hK m meth c ⟨T.setVm vm₁, locs, cells, slots⟩ { g with stack := rest } (.invokestatic index) mk argsL.toArray X₁ hg hsize hdg hW (X₁.named hnamed) (hpre vm₁ X₁.warmed) with ⟨v, B, X', hpost, hsteps⟩ | ⟨q, B, X', hpost, hsteps⟩
  · exact Or.inl ⟨v, vm₁, B, X₁.warmed, X', hpost, fun target h => hstep₁ _ fun acts => by rw [doInvoke_state]; exact hsteps.trans h⟩
  · exact Or.inr ⟨q, vm₁, B, X₁.warmed, X', hpost, hstep₁ _ fun acts => by rw [doInvoke_state]; exact hsteps⟩
theorem vx_callVW (X : Stand p l e R s m args below meth c T locs cells slots) (hexec : p.tables.exec = Jvm.exec) {own C : String} {index : Nat} {y : MethodName} {bytes : ByteArray} {maxL : Nat} {ret : Option FieldType} {hh : List (Nat × Nat × Nat × Nat)}
    (hown : s.vm.findClass own = some m.cls) (hlink : (Cond.methodLink own index y).before args s = true) (hinst : (Cond.instanceMethod y).before args s = true) (hsel : (Cond.selects C y y).before args s = true)
    (hcode : (Cond.codeWith y bytes maxL ret hh).before args s = true) (hy : y.cls ≠ "java/lang/invoke/MethodHandle" ∧ y.cls ≠ "java/lang/invoke/VarHandle")
    {W9 : Nat} {Pre : Pt → Array Value → Prop} {Post : Pt → Array Value → Option Value → Pt → Prop} (hK : Back l R p e below s args y 3 W9 Pre Post)
    {b : Addr} {cellB : Cell} (hcell : T.heap[b]? = some cellB) (hobj : cellB.vm.isStatics = false) (hcls : s.vm.findClass C = some cellB.cls)
    {g : JFrame} (hg : g.method = m) (hsize : g.locals.size = c.maxLocals) {argsL rest : List Value} (hlen : ∀ sig, parseMethodDescriptor y.desc = some sig → argsL.length = sig.parameters.length)
    (hstack : g.stack = argsL.reverse ++ .ref b :: rest) (hW : 2 * g.monitorRoom + (rest.map fun v => v.category).sum ≤ W9) (hdg : decode c.code g.pc = .ok (.invokevirtual index, 3))
    (hpre : ∀ vm₁, s.WarmedH vm₁ → Pre ⟨T.setVm vm₁, locs, cells, slots⟩ (Value.ref b :: argsL).toArray) :
    ∃ (v : Option Value) (vm₁ : Vm) (B : Pt), s.WarmedH vm₁ ∧ Stand p l e R s m args below meth c B.U B.locs B.cells B.slots ∧ Post ⟨T.setVm vm₁, locs, cells, slots⟩ (Value.ref b :: argsL).toArray v B ∧
      ∀ target, Steps p.tables e below (B.U.setTop { g with pc := g.pc + 3, stack := v.toList ++ rest }) target → Steps p.tables e below (T.setTop g) target := by
  obtain ⟨mk, methM, hnamed, hmethM, hstM, habM⟩ := Cond.instanceMethod_spec hinst
  obtain ⟨m8, methM', cM, hn8, hmethM', -, -, -, -, -, -, hsigM⟩ := Cond.codeWith_spec hcode
  cases Option.some.inj (hn8.symm.trans hnamed)
  cases hmethM.symm.trans hmethM'
  obtain ⟨c2, r2, m2, q1, q2, q3, q4, kP, hkP, hkPi⟩ := Cond.selects_spec hsel
  cases hcls.symm.trans q1
  cases (State.methodFound?_of_named hnamed hy).symm.trans q2
  cases hnamed.symm.trans q3
  have hselP : selectMethod e.platform s.vm cellB.cls mk = .method mk := by rw [Launch.admits_selectMethod X.admits]; exact q4
  obtain ⟨vm₁, X₁, hstep₁⟩ := X.invokevirtual hexec hown hlink hnamed hmethM hstM hkP hkPi hy (a := b) (cell := cellB) hcell
    (fun z h => by rw [h] at hobj; cases hobj) hselP hmethM habM hkP hkPi (g := g) hg (argsL := argsL) (rest := rest) (hlen _ hsigM) hstack hdg
  obtain ⟨v, B, X', hpost, hsteps⟩ := hK m meth c ⟨T.setVm vm₁, locs, cells, slots⟩ { g with stack := rest } (.invokevirtual index) mk (Value.ref b :: argsL).toArray X₁ hg hsize hdg hW (X₁.named hnamed) (hpre vm₁ X₁.warmed)
  exact ⟨v, vm₁, B, X₁.warmed, X', hpost, fun target h => hstep₁ _ fun acts => by rw [doInvoke_state]; exact hsteps.trans h⟩
abbrev vx_CVW (R : Room) (s : State) (args : Array Value) (own C : String) (index : Nat) (y : MethodName) (bytes : ByteArray) (maxL : Nat) (ret : Option FieldType) (hh : List (Nat × Nat × Nat × Nat)) (ws : List Cond) (rm : Room) (mc ms n : Nat) : Prop :=
  (rm.cells = mc ∧ rm.slots = ms ∧ rm.frames + 1 ≤ R.frames ∧ 8 + (maxL + 11) + rm.locals ≤ R.locals ∧ (∀ w ∈ ws, ∀ (a' : Array Value) (U : State), s.WarmedH U.vm → w.before a' U = true) ∧ Cond.codeWith y bytes maxL ret hh ∈ ws) ∧
  (Cond.codeWith y bytes maxL ret hh).before args s = true ∧ (Cond.initialized y.cls).before args s = true ∧ (y.cls ≠ "java/lang/invoke/MethodHandle" ∧ y.cls ≠ "java/lang/invoke/VarHandle") ∧
  (∀ sig, parseMethodDescriptor y.desc = some sig → n = sig.parameters.length) ∧ (Cond.methodLink own index y).before args s = true ∧ (Cond.instanceMethod y).before args s = true ∧ (Cond.selects C y y).before args s = true
theorem vx_cwVW {own C : String} {index maxL mc ms : Nat} {y : MethodName} {bytes : ByteArray} {ret : Option FieldType} {hh : List (Nat × Nat × Nat × Nat)} {Ts ws ws' : List Cond} {rm : Room} (n : Nat) (ht : ∀ w ∈ Ts, w.before args s = true) (hT : GoodIn Ts (wsV own index C y ws)) (hw : ws = Cond.codeWith y bytes maxL ret hh :: ws') (hrc : rm.cells = mc) (hrs : rm.slots = ms)
    (hd : y.cls = C ∧ y.cls ≠ "java/lang/invoke/MethodHandle" ∧ y.cls ≠ "java/lang/invoke/VarHandle" ∧ (parseMethodDescriptor y.desc).map (fun d => d.parameters.length) = some n) (hR : rm.frames + 1 ≤ R.frames ∧ 8 + (maxL + 11) + rm.locals ≤ R.locals) :
    vx_CVW R s args own C index y bytes maxL ret hh ws rm mc ms n := by
  obtain ⟨hC, hd⟩ := hd
  subst hC
  have ok : ∀ w ∈ wsV own index y.cls y ws, w.before args s = true := fun w h => ht w (hT w h).1
  have hG : GoodIn Ts ws := fun w h => hT w (by unfold wsV; exact List.mem_append_right _ h)
  have hc : Cond.codeWith y bytes maxL ret hh ∈ ws := by rw [hw]; exact List.mem_cons_self
  refine ⟨⟨hrc, hrs, hR.1, hR.2, pay_in ht hG, hc⟩, ht _ (hG _ hc).1, ok _ (by simp [wsV]), ⟨hd.1, hd.2.1⟩, fun sig h => ?_, ok _ (by simp [wsV]), ok _ (by simp [wsV]), ok _ (by simp [wsV])⟩
  have h2 := hd.2.2
  rw [h] at h2
  exact (Option.some.inj h2).symm
theorem vx_runVW {y : MethodName} {bytes cc : ByteArray} {maxL nL mc ms n index : Nat} {ret : Option FieldType} {hh : List (Nat × Nat × Nat × Nat)} {ws : List Cond} {rm : Room} {Pc : Array Value → State → Prop} {Qc : Array Value → State → Outcome → State → Prop} {free : Addr → Prop} {Ts : List Cond} {own C : String} {b : Addr} {As rest : List Value} {g : JFrame}
    (S : CallFix p m c cc nL s args Ts own) (hM : Met l y ws rm Pc Qc mc ms free) (cw : vx_CVW R s args own C index y bytes maxL ret hh ws rm mc ms n) (hp : PreV s H C b Pc As)
    (hg : g.method = m) (hn : As.length = n) (hsize : g.locals.size = nL) (hstack : g.stack = As.reverse ++ .ref b :: rest) (hW : 2 * g.monitorRoom + (rest.map fun v => v.category).sum ≤ 8) (hdg : decode cc g.pc = .ok (.invokevirtual index, 3)) (hf : cells + mc ≤ R.cells ∧ slots + ms ≤ R.slots) :
    va_Run p l e R s m args below meth c H locs cells slots mc ms g rest (Qc (Value.ref b :: As).toArray) free := by
  obtain ⟨⟨hrc, hrs, hfr, hlo, hws, hcw⟩, hcode, hini, hy, hlen, hl, hin, hse⟩ := cw
  have hK : Back l R p e below s args y 3 8 (PreOf R mc ms Pc) (PostOf Qc mc ms free) := va_backW (hh := hh) (bytes := bytes) (maxL := maxL) (ret := ret) hM hp.1 hrc hrs hfr hlo hws hcw (fun a' U hW => word_at hW (Or.inl (by first | rfl | simp [Cond.onTables, Cond.keeps, Cond.steady])) hini)
  obtain ⟨hx, hb, hml, ho, -⟩ := S
  obtain ⟨-, ⟨cellB, hcB, hoB, hclB⟩, hPc⟩ := hp
  intro T hT X
  obtain ⟨v, vm₁, ⟨U', l2, c2, s2⟩, hW₁, X', ⟨g', mk, t, L, e1, e2, hq, h1, hL, h2, h3⟩, st⟩ := vx_callVW X hx (C := C) (hh := hh) (bytes := bytes) (maxL := maxL) (ret := ret) ho hl hin hse hcode hy hK (by rw [hT]; exact hcB) hoB hclB hg (hsize.trans hml.symm) (argsL := As) (rest := rest) (fun sig h => hn.trans (hlen sig h)) hstack hW (by rw [hb]; exact hdg)
    (fun vm₁ hW₁ => ⟨hf.1, hf.2, hPc (T.setVm vm₁) hT hW₁⟩)
  dsimp only [Pt.U, Pt.locs, Pt.cells, Pt.slots] at X' e1 e2 h1 h2 h3 st
  subst h1; subst h2; subst h3
  exact ⟨v, (T.setVm vm₁).calling g' mk (Value.ref b :: As).toArray, t, U', L, hT, X', hL, e1, e2, hq, st⟩
section
variable {y : MethodName} {bytes cc : ByteArray} {maxL nL mc ms n index : Nat} {ret : Option FieldType} {ws : List Cond} {rm : Room} {Pc : Array Value → State → Prop} {Qc : Array Value → State → Outcome → State → Prop} {XC : String → State → State → Prop} {free : Addr → Prop} {Ts : List Cond} {own C : String} {b : Addr} {As rest : List Value} {g : JFrame}
theorem vx_runVX {hh : List (Nat × Nat × Nat × Nat)} (S : CallFix p m c cc nL s args Ts own) (hM : vx_Met l y ws rm Pc Qc XC mc ms free) (cw : vx_CVW R s args own C index y bytes maxL ret hh ws rm mc ms n) (hp : PreV s H C b Pc As)
    (hg : g.method = m) (hn : As.length = n) (hsize : g.locals.size = nL) (hstack : g.stack = As.reverse ++ .ref b :: rest) (hW : 2 * g.monitorRoom + (rest.map fun v => v.category).sum ≤ 8) (hdg : decode cc g.pc = .ok (.invokevirtual index, 3)) (hf : cells + mc ≤ R.cells ∧ slots + ms ≤ R.slots) :
    vx_Run p l e R s m args below meth c H locs cells slots mc ms g rest (Qc (Value.ref b :: As).toArray) XC free := by
  obtain ⟨⟨hrc, hrs, hfr, hlo, hws, hcw⟩, hcode, hini, hy, hlen, hl, hin, hse⟩ := cw
  have hK : vx_Back l R p e below s args y 3 8 (PreOf R mc ms Pc) (PostOf Qc mc ms free) (vx_Post XC mc ms free) := vx_backW (hh := hh) (bytes := bytes) (maxL := maxL) (ret := ret) hM hp.1 hrc hrs hfr hlo hws hcw (fun a' U hW => word_at hW (Or.inl (by first | rfl | simp [Cond.onTables, Cond.keeps, Cond.steady])) hini)
  obtain ⟨hx, hb, hml, ho, -⟩ := S
  obtain ⟨-, ⟨cellB, hcB, hoB, hclB⟩, hPc⟩ := hp
  intro T hT X
  rcases vx_callVX X hx (C := C) (hh := hh) (bytes := bytes) (maxL := maxL) (ret := ret) ho hl hin hse hcode hy hK (by rw [hT]; exact hcB) hoB hclB hg (hsize.trans hml.symm) (argsL := As) (rest := rest) (fun sig h => hn.trans (hlen sig h)) hstack hW (by rw [hb]; exact hdg)
    (fun vm₁ hW₁ => ⟨hf.1, hf.2, hPc (T.setVm vm₁) hT hW₁⟩) with ⟨v, vm₁, ⟨U', l2, c2, s2⟩, hW₁, X', ⟨g', mk, t, L, e1, e2, hq, h1, hL, h2, h3⟩, st⟩ | ⟨q, vm₁, ⟨U', l2, c2, s2⟩, hW₁, X', ⟨g', mk, t, L, E, ce, e1, e2, hq, hce, hcv, hcl, h1, hL, h2, h3⟩, st⟩
  · dsimp only [Pt.U, Pt.locs, Pt.cells, Pt.slots] at X' e1 e2 h1 h2 h3 st
    subst h1; subst h2; subst h3
    exact Or.inl ⟨v, (T.setVm vm₁).calling g' mk (Value.ref b :: As).toArray, t, U', L, hT, X', hL, e1, e2, hq, st⟩
  · dsimp only [Pt.U, Pt.locs, Pt.cells, Pt.slots] at X' e1 e2 h1 h2 h3 st hcl
    subst h1; subst h2; subst h3
    exact Or.inr ⟨q, (T.setVm vm₁).calling g' mk (Value.ref b :: As).toArray, t, U', L, E, ce, hT, X', hL, e1, e2, hq, hce, hcv, vx_cls hW₁ hcl, st⟩
theorem vx_runSX {hh : List (Nat × Nat × Nat × Nat)} (S : CallFix p m c cc nL s args Ts own) (hM : vx_Met l y ws rm Pc Qc XC mc ms free) (cw : vx_CSW R s args own index y bytes maxL ret hh ws rm mc ms n) (hp : PreS s H Pc As)
    (hg : g.method = m) (hn : As.length = n) (hsize : g.locals.size = nL) (hstack : g.stack = As.reverse ++ rest) (hW : 2 * g.monitorRoom + (rest.map fun v => v.category).sum ≤ 8) (hdg : decode cc g.pc = .ok (.invokestatic index, 3)) (hf : cells + mc ≤ R.cells ∧ slots + ms ≤ R.slots) :
    vx_Run p l e R s m args below meth c H locs cells slots mc ms g rest (Qc As.toArray) XC free := by
  obtain ⟨⟨hrc, hrs, hfr, hlo, hws, hcw⟩, hcode, hini, hy, hlen, hl, hstt⟩ := cw
  have hK : vx_Back l R p e below s args y 3 8 (PreOf R mc ms Pc) (PostOf Qc mc ms free) (vx_Post XC mc ms free) := vx_backW (hh := hh) (bytes := bytes) (maxL := maxL) (ret := ret) hM hp.1 hrc hrs hfr hlo hws hcw (fun a' U hW => word_at hW (Or.inl (by first | rfl | simp [Cond.onTables, Cond.keeps, Cond.steady])) hini)
  obtain ⟨hx, hb, hml, ho, -⟩ := S
  intro T hT X
  rcases vx_callSX X hx (hh := hh) (bytes := bytes) (maxL := maxL) (ret := ret) ho hl hstt hini hcode hy hK hg (hsize.trans hml.symm) (argsL := As) (rest := rest) (fun sig h => hn.trans (hlen sig h)) hstack hW (by rw [hb]; exact hdg)
    (fun vm₁ hW₁ => ⟨hf.1, hf.2, hp.2 (T.setVm vm₁) hT hW₁⟩) with ⟨v, vm₁, ⟨U', l2, c2, s2⟩, hW₁, X', ⟨g', mk, t, L, e1, e2, hq, h1, hL, h2, h3⟩, st⟩ | ⟨q, vm₁, ⟨U', l2, c2, s2⟩, hW₁, X', ⟨g', mk, t, L, E, ce, e1, e2, hq, hce, hcv, hcl, h1, hL, h2, h3⟩, st⟩
  · dsimp only [Pt.U, Pt.locs, Pt.cells, Pt.slots] at X' e1 e2 h1 h2 h3 st
    subst h1; subst h2; subst h3
    exact Or.inl ⟨v, (T.setVm vm₁).calling g' mk As.toArray, t, U', L, hT, X', hL, e1, e2, hq, st⟩
  · dsimp only [Pt.U, Pt.locs, Pt.cells, Pt.slots] at X' e1 e2 h1 h2 h3 st hcl
    subst h1; subst h2; subst h3
    exact Or.inr ⟨q, (T.setVm vm₁).calling g' mk As.toArray, t, U', L, E, ce, hT, X', hL, e1, e2, hq, hce, hcv, vx_cls hW₁ hcl, st⟩
end
end VXH
theorem vx_ofWH {l : Launch} {y : MethodName} {ws ws' : List Cond} {rm : Room} {Pc : Array Value → State → Prop} {Qc : Array Value → State → Outcome → State → Prop} {XC : String → State → State → Prop} {mc ms : Nat} {free : Addr → Prop} {cc : ByteArray} {maxL : Nat} {ret : Option FieldType} {hh : List (Nat × Nat × Nat × Nat)}
    (hy : plainName y.cls = true) (hw : ws = Cond.codeWith y cc maxL ret hh :: ws')
    (body : ∀ p e s m args below meth c s₁, BodyLoose p l y (headSpec ws rm) cc maxL ret e s m args below meth c s₁ → c.maxLocals = maxL → Pc args s →
      W p l e (headSpec ws rm).room s m args below meth c s.heap [] 0 0 (vx_MQ below Qc XC args s mc ms free) (entryFrame m args maxL)) : vx_Met l y ws rm Pc Qc XC mc ms free := by
  refine MetFree.of_bodyS (code := cc) (maxLocals := maxL) (ret := ret) hy ?_ ?_
  · intro args s m h hn
    obtain ⟨m9, meth, c, hn9, h1, h2, h3, h4, -, h5, h6, -⟩ := Cond.codeWith_spec (atoms_spec (ws := ws) h _ (by rw [hw]; exact List.mem_cons_self))
    cases hn.symm.trans hn9
    exact ⟨meth, c, h1, h2, h3, h4, h5, h6⟩
  · intro p e s m args below meth c s₁ B hml hP _
    have hh0 : s₁.heap = s.heap := by rw [B.state]; rfl
    obtain ⟨t, a1, o, b1, b2, b3⟩ := body p e s m args below meth c s₁ B hml hP s₁ hh0 (Stand.of_body B)
    exact ⟨t, o, a1, b1, b2, b3⟩
end
section
section
variable {p : Program} {l : Launch} {e : Env} {R : Room} {s : State} {m₀ : MethodId} {args : Array Value} {below : List Frame} {meth : Method} {c : Code} {W : State} {locs : List Loc} {cells slots : Nat}
def nx_A (own : String) (ic ix : Nat) (sx : ByteArray) (X Y : String) (r : List String) : List Cond :=
  Bundle.throwableAtoms ++ Bundle.throwableSAtoms ++ (Bundle.passSAtoms X Y ix sx ++ Bundle.chainSAtoms Y r) ++
  [.methodLink own ic (Bundle.initS X), .instantiable X 6, .castable X X, .selects X Bundle.tFill0 Bundle.tFill0, .selects X Bundle.tFill Bundle.tFill,
   .lays X Bundle.tN "cause" "Ljava/lang/Throwable;", .lays X Bundle.tN "stackTrace" Bundle.steD, .lays X Bundle.tN "suppressedExceptions" Bundle.listD, .lays X Bundle.tN "detailMessage" "Ljava/lang/String;",
   .isRef (.static Bundle.tN "UNASSIGNED_STACK" Bundle.steD), .isRef (.static Bundle.tN "SUPPRESSED_SENTINEL" Bundle.listD),
   .fieldLink Bundle.tN 198 Bundle.tN "backtrace" "Ljava/lang/Object;", .lays Bundle.tN Bundle.tN "backtrace" "Ljava/lang/Object;", .lays X Bundle.tN "backtrace" "Ljava/lang/Object;"]
def nx_at (own : String) (ic ix : Nat) (sx : ByteArray) (X Y : String) (r : List String) : List Cond := (nx_A own ic ix sx X Y r).filter vx_no
set_option maxHeartbeats 1000000 in
theorem nx_ctor (X : Stand p l e R s m₀ args below meth c W locs cells slots) (hexec : p.tables.exec = Jvm.exec) (htr : e.platform.stackTraces = false) {own cls Y9 : String} {r9 : List String} {ic ix : Nat} {sx : ByteArray}
    (hown : s.vm.findClass own = some m₀.cls) (hcls : Bundle.fit cls = true) (hY9 : Bundle.fit Y9 = true) (hr9 : ∀ n ∈ r9, Bundle.fit n = true) (x0 : decode sx 0 = .ok (.aload_n 0, 1)) (x1 : decode sx 1 = .ok (.aload_n 1, 1)) (x2 : decode sx 2 = .ok (.invokespecial ix, 3)) (x5 : decode sx 5 = .ok (.return_, 1))
    (h : ∀ a ∈ nx_A own ic ix sx cls Y9 r9, a.before args s = true)
    (hlocs : ∀ x ∈ locs, ∀ cell, s.heap[x.base]? = some cell → cell.vm.isStatics = false)
    {a : Addr} {cX : ClassId} {kX : Class} (hfoundX : s.vm.findClass cls = some cX) (hkX : s.vm.classes[cX]? = some kX) (hcell : W.heap[a]? = some (freshCell cX kX)) (hnew : s.heap.size ≤ a)
    {msg : Value} (hmsg : msg.isRef = true)
    {g : JFrame} (hg : g.method = m₀) (hsize : g.locals.size = c.maxLocals) (hlocked : g.locked = none) (hentered : g.entered = []) {rest : List Value} (hstack : g.stack = msg :: .ref a :: .ref a :: rest)
    (hd6 : decode c.code g.pc = .ok (.invokespecial ic, 3)) (hd9 : decode c.code (g.pc + 3) = .ok (.athrow, 1)) (hout : ∀ x ∈ c.exceptionTable.toList, covers x (g.pc + 3) = false)
    (hRframes : (r9.length + 1) + 3 < R.frames) (hRlocals : 2 * g.monitorRoom + ((Value.ref a :: rest).map fun v => v.category).sum + (13 * ((r9.length + 1) + 1) + 42) ≤ R.locals) (hlocks : meth.locks = false := by first | assumption | exact BodyLoose.notSynchronized (by assumption) | exact Body.notSynchronized (by assumption)) :
    ∃ U : State, Steps p.tables e below (W.setTop g) U ∧ U.status = .running ∧ Ended U below (.threw a) ∧ s.WarmedH U.vm ∧ s.sameButNew ({ U with vm := s.vm } : State) locs cells slots ∧
      ∃ ce, U.heap[a]? = some ce ∧ ce.vm = .none ∧ s.vm.findClass cls = some ce.cls := by
  have howns : e.platform.frameOwnsMonitors = true := by rw [X.admits.platform]
  have hfin : e.platform.finalization = false := by rw [X.admits.platform]
  have hpl : e.platform.magicAccessors = ({} : Platform).magicAccessors := by rw [X.admits.platform]
  have a' : ∀ x, x ∈ nx_A own ic ix sx cls Y9 r9 → x.holds args s none s [] = true := fun x hx => h x hx
  obtain ⟨T, Z0, L, -, Y⟩ := ThrowableC.of_atoms (args := args) howns hfin hpl (fun x hx => h x (by simp [nx_A, hx]))
  obtain ⟨Z, M, LZ, LM, hnZ⟩ := Init0T.ofS_atoms (args := args) hpl L Y (fun x hx => h x (by simp [nx_A, hx]))
  obtain ⟨P1, L1, hP1m, hs1⟩ := PassC.ofS_atoms (args := args) (s := s) hpl (X := cls) (Y := Y9) (Bundle.fit_spec hcls).1 (Bundle.fit_spec hY9).2 x0 x1 x2 x5 (fun x hx => h x (by simp [nx_A, hx]))
  obtain ⟨P8, Ps8, hlen8, L8, hL8, hm8, hsup8, hpass8⟩ := Bundle.chainS (args := args) hpl hnZ r9 Y9 hY9 hr9 (fun x hx => h x (by simp [nx_A, hx]))
  obtain ⟨Ps, hPs⟩ : ∃ z, z = P8 :: Ps8 := ⟨_, rfl⟩
  have hlen : Ps.length = r9.length + 1 := by rw [hPs, List.length_cons, hlen8]
  have hL : ∀ P, P ∈ Ps → P.LinksS e.platform s := by
    intro Q9 hQ9
    rw [hPs] at hQ9
    rcases List.mem_cons.mp hQ9 with rfl | hQ9
    · exact L8
    · exact hL8 Q9 hQ9
  have hlink1 : P1.sup = firstOf (Z.m T.toThrowableT) (Ps.map (·.toPassT)) := by rw [hPs]; exact Option.some.inj (hs1.symm.trans hm8)
  have hlink : PassesOn (Z.m T.toThrowableT) (Ps.map (·.toPassT)) := by rw [hPs]; exact ⟨hsup8, hpass8⟩
  have hfound : s.vm.findClass cls = some P1.m.cls := findClass_of_methodNamed hP1m
  cases Option.some.inj (hfoundX.symm.trans hfound)
  obtain ⟨c1, kX', hc1, hk, hord, -, -, hn6⟩ := Cond.instantiable_spec (a' (.instantiable cls 6) (by simp [nx_A]))
  cases Option.some.inj (hc1.symm.trans hfound)
  cases Option.some.inj (hkX.symm.trans hk)
  have hsel0 : selectMethod e.platform s.vm P1.m.cls T.fill0 = .method T.fill0 := by
    obtain ⟨c2, r2, m2, q1, q2, q3, q4, -⟩ := Cond.selects_spec (a' (.selects cls Bundle.tFill0 Bundle.tFill0) (by simp [nx_A]))
    cases Option.some.inj (q1.symm.trans hfound)
    cases Option.some.inj (q2.symm.trans (State.methodFound?_of_named Y.fill0 (by decide)))
    cases Option.some.inj (q3.symm.trans Y.fill0)
    rw [Launch.admits_selectMethod X.admits]; exact q4
  have hselF : selectMethod e.platform s.vm P1.m.cls T.fill = .method T.fill := by
    obtain ⟨c2, r2, m2, q1, q2, q3, q4, -⟩ := Cond.selects_spec (a' (.selects cls Bundle.tFill Bundle.tFill) (by simp [nx_A]))
    cases Option.some.inj (q1.symm.trans hfound)
    cases Option.some.inj (q2.symm.trans (State.methodFound?_of_named Y.fill (by decide)))
    cases Option.some.inj (q3.symm.trans Y.fill)
    rw [Launch.admits_selectMethod X.admits]; exact q4
  obtain ⟨cellS0, hcS0, hiss⟩ := Y.statics
  obtain ⟨u0, hu0⟩ := Cond.staticRefV Y.unassigned L.unassignedStatic L.statics hcS0 hiss (a' (.isRef (.static Bundle.tN "UNASSIGNED_STACK" Bundle.steD)) (by simp [nx_A]))
  obtain ⟨sen, hsen⟩ := Cond.staticRefV Y.sentinel L.sentinelStatic L.statics hcS0 hiss (a' (.isRef (.static Bundle.tN "SUPPRESSED_SENTINEL" Bundle.listD)) (by simp [nx_A]))
  obtain ⟨ci198, i198, fB, hk198, hg198, ha198, hsB, -, hnB, htB, hffB⟩ := Cond.ownField (t := .object "java/lang/Object") Y.found L.cls (by decide +kernel) (a' (.fieldLink Bundle.tN 198 Bundle.tN "backtrace" "Ljava/lang/Object;") (by simp [nx_A])) (a' (.lays Bundle.tN Bundle.tN "backtrace" "Ljava/lang/Object;") (by simp [nx_A])) e.platform hpl
  obtain ⟨cellS, hcS', heS, -, hkeep⟩ := X.same.2.2.2.2.2 T.aS cellS0 hcS0
  have hcellS : W.heap[T.aS]? = some cellS := hcS'
  have hout' : ∀ i, (⟨T.aS, i⟩ : Loc) ∉ locs := fun i hmem => by
    have := hlocs _ hmem cellS0 hcS0
    rw [hiss] at this; cases this
  have hknownS : cellS.vm ≠ .unknown := by
    rw [heS]; intro hu
    rw [show cellS0.vm = .unknown from hu] at hiss
    cases hiss
  have hneS : T.aS ≠ a := Nat.ne_of_lt (Nat.lt_of_lt_of_le (Array.getElem?_eq_some_iff.mp hcS0).1 hnew)
  obtain ⟨iM, hffM⟩ := Y.msg
  obtain ⟨tyC, dC, hdC, hdnC⟩ := Cond.laysAt hfound hk Y.cause (a' (.lays cls Bundle.tN "cause" "Ljava/lang/Throwable;") (by simp [nx_A]))
  obtain ⟨tyS, dS, hdS, hdnS⟩ := Cond.laysAt hfound hk Y.stack (a' (.lays cls Bundle.tN "stackTrace" Bundle.steD) (by simp [nx_A]))
  obtain ⟨tyP, dP, hdP, hdnP⟩ := Cond.laysAt hfound hk Y.supp (a' (.lays cls Bundle.tN "suppressedExceptions" Bundle.listD) (by simp [nx_A]))
  obtain ⟨tyM, dM, hdM, hdnM⟩ := Cond.laysAt hfound hk hffM (a' (.lays cls Bundle.tN "detailMessage" "Ljava/lang/String;") (by simp [nx_A]))
  obtain ⟨tyB, dB, hdB, hdnB⟩ := Cond.laysAt hfound hk hffB (a' (.lays cls Bundle.tN "backtrace" "Ljava/lang/Object;") (by simp [nx_A]))
  have bC := Cond.laysApart hdB hdC hdnB hdnC (by rw [hnB, Y.causeName]; decide)
  have bS := Cond.laysApart hdB hdS hdnB hdnS (by rw [hnB, Y.stackName]; decide)
  have bP := Cond.laysApart hdB hdP hdnB hdnP (by rw [hnB, Y.suppName]; decide)
  have hskip : SkipFacts T e.platform s (fun u => u) u0 ((preparedCellV T.toThrowableT (freshCell P1.m.cls kX) a u0 sen).withEntry W.cur) :=
    ⟨{ ci198 := ci198, i198 := i198, fBack := fB }, ⟨hk198, hg198, ha198, hsB⟩, by
      have := fresh_default (c := P1.m.cls) tyB
      rw [htB] at this
      simpa [preparedCellV, Cell.setSlot, Cell.withEntry, Array.getElem?_setIfInBounds, bC, bS, bP, bC.symm, bS.symm, bP.symm, defaultValue] using this, fun _ _ => rfl⟩
  obtain ⟨tm, methC, cdC, kC, vm₁, hnC, -, -, -, -, -, -, -, hW₁, st1⟩ := Steps.initColdS (tb := p.tables) (e := e) (below := below) (s := s) (U := W) X.here hexec X.warmed hpl hown (t := Bundle.initS cls) rfl rfl (Bundle.fit_spec hcls).2
    (a' (.methodLink own ic (Bundle.initS cls)) (by simp [nx_A])) (h (.instanceMethod (Bundle.initS cls)) (by simp [nx_A, Bundle.passSAtoms])) (bytes := sx) (maxL := 2) (h (.code (Bundle.initS cls) sx 2 none) (by simp [nx_A, Bundle.passSAtoms]))
    (f := g) hg (a := a) (msg := msg) (rest := .ref a :: rest) hstack hd6
  cases Option.some.inj (hnC.symm.trans hP1m)
  have X₁ := X.noted hW₁
  obtain ⟨vm₂, X₂, st2⟩ := X₁.ctorMessageOffV hexec (g := { g with stack := .ref a :: rest }) hg hsize T L Z LZ M LM (P1 :: Ps)
    (fun P hP => by rcases List.mem_cons.mp hP with rfl | hP; exact L1; exact hL P hP) ⟨hlink1, hlink⟩ (u0 := u0) (sen := sen) (self := a) hmsg (cell := freshCell P1.m.cls kX) (cellS := cellS)
    hcell (fun _ => by simp) (by simp) rfl rfl hsel0 hselF hcellS hneS hknownS (by rw [hkeep _ (hout' _)]; exact hu0) (by rw [hkeep _ (hout' _)]; exact hsen)
    (Takes.of_laid hk hord tyC (by rw [Y.causeType]; rfl)) (Takes.of_laid hk hord tyS (by rw [Y.stackType]; exact fits_refV_array _ u0)) (Takes.of_laid hk hord tyP (by rw [Y.suppType]; exact fits_refV_object _ sen))
    (Takes.of_laid hk hord tyM (by rw [Y.msgType]; exact fits_refV_object _ ⟨msg, hmsg⟩)) Y.objLocals hskip htr [] hd6
    (by simp only [List.length_cons, hlen]; omega) (by simp only [List.length_cons, hlen]; exact hRlocals)
  obtain ⟨hwalk, hrun, hended, hWU, hsame⟩ := X₂.athrowLeaves hexec (g := { g with stack := .ref a :: rest, pc := g.pc + 3 }) hg hlocked hentered hout (a := a) (rest := rest) rfl hd9
  obtain ⟨c3, c4, hc3, hc4, hasg⟩ := Cond.castable_spec (a' (.castable cls cls) (by simp [nx_A]))
  cases Option.some.inj (hc3.symm.trans hfound)
  cases Option.some.inj (hc4.symm.trans hfound)
  have hlt : a < ((W.setVm vm₁).setVm vm₂).heap.size := (Array.getElem?_eq_some_iff.mp hcell).1
  have hU := heapAt_setCell_self (s := (W.setVm vm₁).setVm vm₂) (plainBareV T.toThrowableT (freshCell P1.m.cls kX) a u0 sen msg) hlt
  have hnM : T.fMsg.name = "detailMessage" := (State.fieldFound?_type hffM (t := .object "java/lang/String") (by decide +kernel)).1
  refine ⟨_, st1 _ (fun acts => ?_), hrun, hended, hWU, hsame.weaken (fun y hy hlt' => ?_) (Nat.le_refl _) (Nat.le_refl _), _, hU, rfl, hfound⟩
  · rw [doInvoke_state]
    exact st2 _ hwalk
  · rcases List.mem_append.mp hy with h1 | h1
    · exact h1
    · exfalso
      have hb : y.base = a := by
        simp only [List.mem_cons, List.not_mem_nil, or_false] at h1
        rcases h1 with rfl | rfl | rfl | rfl | rfl <;> rfl
      rw [hb] at hlt'
      exact Nat.not_lt.mpr hnew hlt'
end
section
variable {p : Program} {l : Launch} {e : Env} {R : Room} {s : State} {m : MethodId} {args : Array Value} {below : List Frame} {meth : Method} {c : Code} {H : Heap} {locs : List Loc} {cells slots : Nat} {free : Addr → Prop} {ls : Array Slot} {rest : List Value} {Qc : Array Value → State → Outcome → State → Prop} {XC : String → State → State → Prop}
set_option maxHeartbeats 1000000 in
theorem nx_throwS {cc : ByteArray} {pc : Nat} (hexec : p.tables.exec = Jvm.exec) (hb : c.code = cc) (hl : l.stackTraces = false) {own cls text : String} {Y9 : String} {r9 : List String} {ik is ic ix mc ms sa : Nat} {sx : ByteArray} {A : Nat → Prop}
    (hown : s.vm.findClass own = some m.cls) (hcls : Bundle.fit cls = true) (hY9 : Bundle.fit Y9 = true) (hr9 : ∀ n ∈ r9, Bundle.fit n = true) (x0 : decode sx 0 = .ok (.aload_n 0, 1)) (x1 : decode sx 1 = .ok (.aload_n 1, 1)) (x2 : decode sx 2 = .ok (.invokespecial ix, 3)) (x5 : decode sx 5 = .ok (.return_, 1))
    (hk : (Cond.classLink own ik cls).before args s = true) (hini : (Cond.initialized cls).before args s = true) (hstr : vk_R own is text sa s) (hat : ∀ w ∈ nx_at own ic ix sx cls Y9 r9, w.before args s = true)
    (hgood : ∀ w ∈ Cond.classLink own ik cls :: Cond.initialized cls :: nx_at own ic ix sx cls Y9 r9, vx_ot w = true)
    (hU : vx_Zq Bundle.tN "UNASSIGNED_STACK" Bundle.steD A s s.heap) (hN : vx_Zq Bundle.tN "SUPPRESSED_SENTINEL" Bundle.listD A s s.heap) (hS : va_S A s.heap H locs) (hsize : ls.size = c.maxLocals)
    (d0 : decode cc pc = .ok (.new ik, 3)) (d3 : decode cc (pc + 3) = .ok (.dup, 1)) (d4 : decode cc (pc + 4) = .ok (.ldc is, 2)) (d6 : decode cc (pc + 6) = .ok (.invokespecial ic, 3)) (d9 : decode cc (pc + 9) = .ok (.athrow, 1))
    (hout : ∀ x ∈ c.exceptionTable.toList, covers x (pc + 9) = false)
    (hRframes : (r9.length + 1) + 3 < R.frames) (hRlocals : (rest.map fun v => v.category).sum + (13 * ((r9.length + 1) + 1) + 43) ≤ R.locals) (hRcells : cells + 1 ≤ R.cells) (hRslots : slots + 6 ≤ R.slots) (hlocks : meth.locks = false)
    (hx : ∀ t : State, s.vm.Alike t.vm → H.size ≤ t.heap.size → (∀ q : Nat, q < H.size → t.heap[q]? = H[q]?) → XC cls s t)
    (hf : ∀ z ∈ locs, free z.base) (hc : cells + 1 ≤ mc) (hs : slots + 6 ≤ ms) :
    W p l e R s m args below meth c H locs cells slots (vx_MQ below Qc XC args s mc ms free) (F0 m pc ls rest) := by
  intro T hT X
  have htr : e.platform.stackTraces = false := (show e.platform.stackTraces = l.stackTraces by rw [X.admits.platform]).trans hl
  have Y := vx_rebase X (R' := { frames := R.frames, locals := R.locals, cells := 1, slots := 6 }) (Nat.le_refl _) (Nat.le_refl _) hRcells hRslots
  obtain ⟨s', hA⟩ : ∃ z, z = (T.setVm s.vm).setFrames (.invoking m args :: below) := ⟨_, rfl⟩
  rw [← hA] at Y
  have hvm : s'.vm = s.vm := by rw [hA]; rfl
  have hhp : s'.heap = H := by rw [hA]; exact hT
  have hW0 : s.WarmedH s'.vm := by rw [hvm]; exact State.WarmedH.refl s
  have hat' : ∀ w ∈ nx_at own ic ix sx cls Y9 r9, w.before args s' = true := fun w hw => vx_ot_at hW0 hvm.symm (hgood w (List.mem_cons_of_mem _ (List.mem_cons_of_mem _ hw))) (hat w hw)
  have hk' : (Cond.classLink own ik cls).before args s' = true := vx_ot_at hW0 hvm.symm (hgood _ List.mem_cons_self) hk
  have hini' : (Cond.initialized cls).before args s' = true := vx_ot_at hW0 hvm.symm (hgood _ (List.mem_cons_of_mem _ List.mem_cons_self)) hini
  have hU' : vx_Zq Bundle.tN "UNASSIGNED_STACK" Bundle.steD A s' s'.heap := by rw [hhp]; exact vx_Zq.moved hW0.alike (hU.kept hS.2.1)
  have hN' : vx_Zq Bundle.tN "SUPPRESSED_SENTINEL" Bundle.listD A s' s'.heap := by rw [hhp]; exact vx_Zq.moved hW0.alike (hN.kept hS.2.1)
  have h : ∀ w ∈ nx_A own ic ix sx cls Y9 r9, w.before args s' = true := vx_own hat' (vx_isRefq hU'.1) (vx_isRefq hN'.1) hU'.2.word hN'.2.word
  have hown' : s'.vm.findClass own = some m.cls := by rw [hvm]; exact hown
  have hins : (Cond.instantiable cls 6).before args s' = true := h _ (by simp [nx_A])
  obtain ⟨vm₁, cX, kX, hfX, hkX, -, -, X₁, st1⟩ := Y.newCold hexec (own := own) (C := cls) (index := ik) (n := 6) hown' hk' hins hini'
    (g := F0 m pc ls rest) rfl (by rw [hb]; exact d0) (Nat.le_refl _) (Nat.le_refl _)
  generalize hT1 : (T.setVm vm₁).pushCell { cls := cX, slots := kX.instanceTypes.map defaultValue, vm := .none } = T1 at X₁ st1
  have hcat : (Value.ref T.heap.size).category = 1 := rfl
  have hcellA : T1.heap[T.heap.size]? = some (freshCell cX kX) := by rw [← hT1]; exact State.heap_pushCell_size _ _
  have d3' : decode c.code (pc + 3) = .ok (.dup, 1) := by rw [hb]; exact d3
  have d4' : decode c.code (pc + 4) = .ok (.ldc is, 2) := by rw [hb]; exact d4
  have hstr' : vk_R own is text sa s' := vk_R.warm hW0 hstr
  obtain ⟨U, hsteps, hrun, hend, hW, hsame, ce, hce, hO, hO2⟩ := nx_ctor X₁ hexec htr (own := own) (cls := cls) (Y9 := Y9) (r9 := r9) (ic := ic) (ix := ix) (sx := sx) hown' hcls hY9 hr9 x0 x1 x2 x5 h (fun x hx => nomatch hx) hfX hkX hcellA (by rw [hhp, hT]; exact Nat.le_refl _) (msg := .ref sa) rfl
    (g := { method := m, pc := pc + 6, locals := ls, stack := .ref sa :: .ref T.heap.size :: .ref T.heap.size :: rest, locked := none }) rfl hsize rfl rfl (rest := rest) rfl
    (by rw [hb]; exact d6) (by rw [hb]; exact d9) hout hRframes (by simp only [List.map_cons, List.sum_cons, hcat]; omega) hlocks
  obtain ⟨f1, f2⟩ := vx_frame hsame
  rw [hhp] at f1 f2
  have hWs : s.WarmedH U.vm := State.WarmedH.trans hW0 hW
  have hcl : s.vm.findClass cls = some ce.cls := by
    have h9 := hO2
    rw [hvm] at h9
    exact h9
  have hall : s.sameButNew ({ U with vm := s.vm } : State) locs mc ms := by
    subst hA
    obtain ⟨e1, e2⟩ := hsame
    rw [State.setFrames_setFrames] at e1
    have h2 : (T.setVm s.vm).sameButNew ({ U with vm := s.vm } : State) [] (0 + 1) (0 + 6) := ⟨e1, e2⟩
    have h3 := X.same.trans h2
    rw [List.append_nil] at h3
    exact h3.mono hc hs
  refine ⟨U, ?_, .threw T.heap.size, hrun, hend, Or.inr ⟨T.heap.size, rfl, cls, ce, locs, hx U hWs.alike f1 (fun q hq => f2 q hq (fun z hz => nomatch hz)), hce, hO, hcl, hWs, hall, hf⟩⟩
  refine st1 _ ?_
  show Steps p.tables e below (T1.setTop { method := m, pc := pc + 3, locals := ls, stack := .ref T.heap.size :: rest, locked := none }) _
  jvm_step X₁.here [X₁.here.top, hexec, d3', Value.category]
  exact X₁.ldcString hexec (own := own) (text := text) (index := is) (a := sa) hown' hstr'.1 hstr'.2
    (g := { method := m, pc := pc + 4, locals := ls, stack := .ref T.heap.size :: .ref T.heap.size :: rest, locked := none }) rfl d4' _ hsteps
end
end
section
def R_RS : String := "ReserveSteps"
def F_RS : u_T := fun k => match k with
  | 0 => ("ReserveSteps", "now", "I", false)
  | 1 => ("ReserveSteps", "pieceCount", "I", false)
  | 2 => ("ReserveSteps", "links", "[I", true)
  | 3 => ("ReserveSteps", "closed", "[Z", true)
  | 4 => ("ReserveSteps", "robots", "LReserveSteps$Robots;", true)
  | _ => ("ReserveSteps", "grants", "LReserveSteps$Grants;", true)
def t_RS : Nat → FieldType := fun k => match k with
  | 0 => .int
  | 1 => .int
  | 2 => .array .int
  | 3 => .array .boolean
  | 4 => .object "ReserveSteps$Robots"
  | _ => .object "ReserveSteps$Grants"
theorem n_RS : ∀ a, a < 6 → ∀ b, b < 6 → a ≠ b → (F_RS a).2.1 ≠ (F_RS b).2.1 := by decide +kernel
theorem t_RS_ok : ∀ k, k < 6 → parseFieldDescriptor (F_RS k).2.2.1 = some (t_RS k) := by decide +kernel
def R_Rb : String := "ReserveSteps$Robots"
def F_Rb : u_T := fun k => match k with
  | 0 => ("ReserveSteps$Robots", "size", "I", false)
  | 1 => ("ReserveSteps$Robots", "piece", "[I", true)
  | 2 => ("ReserveSteps$Robots", "hasTail", "[Z", true)
  | 3 => ("ReserveSteps$Robots", "tailPiece", "[I", true)
  | 4 => ("ReserveSteps$Robots", "waitsFor", "[I", true)
  | 5 => ("ReserveSteps$Robots", "halted", "[Z", true)
  | _ => ("ReserveSteps$Robots", "reported", "[I", true)
def t_Rb : Nat → FieldType := fun k => match k with
  | 0 => .int
  | 1 => .array .int
  | 2 => .array .boolean
  | 3 => .array .int
  | 4 => .array .int
  | 5 => .array .boolean
  | _ => .array .int
theorem n_Rb : ∀ a, a < 7 → ∀ b, b < 7 → a ≠ b → (F_Rb a).2.1 ≠ (F_Rb b).2.1 := by decide +kernel
theorem t_Rb_ok : ∀ k, k < 7 → parseFieldDescriptor (F_Rb k).2.2.1 = some (t_Rb k) := by decide +kernel
def R_Gr : String := "ReserveSteps$Grants"
def F_Gr : u_T := fun k => match k with
  | 0 => ("ReserveSteps$Grants", "size", "I", false)
  | 1 => ("ReserveSteps$Grants", "robot", "[I", true)
  | 2 => ("ReserveSteps$Grants", "piece", "[I", true)
  | 3 => ("ReserveSteps$Grants", "from", "[I", true)
  | 4 => ("ReserveSteps$Grants", "to", "[I", true)
  | 5 => ("ReserveSteps$Grants", "priority", "[I", true)
  | _ => ("ReserveSteps$Grants", "state", "[I", true)
def t_Gr : Nat → FieldType := fun k => match k with
  | 0 => .int
  | 1 => .array .int
  | 2 => .array .int
  | 3 => .array .int
  | 4 => .array .int
  | 5 => .array .int
  | _ => .array .int
theorem n_Gr : ∀ a, a < 7 → ∀ b, b < 7 → a ≠ b → (F_Gr a).2.1 ≠ (F_Gr b).2.1 := by decide +kernel
theorem t_Gr_ok : ∀ k, k < 7 → parseFieldDescriptor (F_Gr k).2.2.1 = some (t_Gr k) := by decide +kernel
abbrev b_RS_needPiece : ByteArray := prog_1_method_20_code
def y_RS_needPiece : MethodName := ⟨R_RS, "needPiece", "(I)V"⟩
abbrev b_RS_needRobot : ByteArray := prog_1_method_21_code
def y_RS_needRobot : MethodName := ⟨R_RS, "needRobot", "(I)V"⟩
abbrev b_RS_needGrant : ByteArray := prog_1_method_22_code
def y_RS_needGrant : MethodName := ⟨R_RS, "needGrant", "(I)V"⟩
abbrev b_RS_needSpan : ByteArray := prog_1_method_23_code
def y_RS_needSpan : MethodName := ⟨R_RS, "needSpan", "(II)V"⟩
abbrev b_RS_needPriority : ByteArray := prog_1_method_24_code
def y_RS_needPriority : MethodName := ⟨R_RS, "needPriority", "(I)V"⟩
abbrev b_RS_piece : ByteArray := prog_1_method_2_code
def y_RS_piece : MethodName := ⟨R_RS, "piece", "()I"⟩
abbrev b_RS_link : ByteArray := prog_1_method_3_code
def y_RS_link : MethodName := ⟨R_RS, "link", "(IIZ)I"⟩
abbrev b_Rb_standingOn : ByteArray := prog_3_method_4_code
def y_Rb_standingOn : MethodName := ⟨R_Rb, "standingOn", "(I)I"⟩
abbrev b_Rb_add : ByteArray := prog_3_method_2_code
def y_Rb_add : MethodName := ⟨R_Rb, "add", "(IZI)I"⟩
abbrev b_RS_robot : ByteArray := prog_1_method_4_code
def y_RS_robot : MethodName := ⟨R_RS, "robot", "(IZ)I"⟩
abbrev b_Rb_isSilent : ByteArray := prog_3_method_3_code
def y_Rb_isSilent : MethodName := ⟨R_Rb, "isSilent", "(II)Z"⟩
abbrev b_RS_needActive : ByteArray := prog_1_method_25_code
def y_RS_needActive : MethodName := ⟨R_RS, "needActive", "(I)V"⟩
abbrev b_Rb_otherStandsOn : ByteArray := prog_3_method_5_code
def y_Rb_otherStandsOn : MethodName := ⟨R_Rb, "otherStandsOn", "(II)Z"⟩
abbrev b_Gr_hasBegun : ByteArray := prog_2_method_6_code
def y_Gr_hasBegun : MethodName := ⟨R_Gr, "hasBegun", "(II)Z"⟩
abbrev b_Gr_isLive : ByteArray := prog_2_method_3_code
def y_Gr_isLive : MethodName := ⟨R_Gr, "isLive", "(I)Z"⟩
abbrev b_Gr_isLiveFor : ByteArray := prog_2_method_5_code
def y_Gr_isLiveFor : MethodName := ⟨R_Gr, "isLiveFor", "(II)Z"⟩
abbrev b_Gr_sharesTime : ByteArray := prog_2_method_7_code
def y_Gr_sharesTime : MethodName := ⟨R_Gr, "sharesTime", "(III)Z"⟩
abbrev b_Gr_isRival : ByteArray := prog_2_method_9_code
def y_Gr_isRival : MethodName := ⟨R_Gr, "isRival", "(IIIII)Z"⟩
abbrev b_RS_firstBar : ByteArray := prog_1_method_27_code
def y_RS_firstBar : MethodName := ⟨R_RS, "firstBar", "(IIIII)I"⟩
abbrev b_Gr_takeFromOthers : ByteArray := prog_2_method_10_code
def y_Gr_takeFromOthers : MethodName := ⟨R_Gr, "takeFromOthers", "(IIII)V"⟩
abbrev b_Gr_add : ByteArray := prog_2_method_2_code
def y_Gr_add : MethodName := ⟨R_Gr, "add", "(IIIII)I"⟩
abbrev b_RS_ask : ByteArray := prog_1_method_5_code
def y_RS_ask : MethodName := ⟨R_RS, "ask", "(IIIII)I"⟩
abbrev b_Gr_isLiveOf : ByteArray := prog_2_method_4_code
def y_Gr_isLiveOf : MethodName := ⟨R_Gr, "isLiveOf", "(II)Z"⟩
abbrev b_Gr_liveOf : ByteArray := prog_2_method_17_code
def y_Gr_liveOf : MethodName := ⟨R_Gr, "liveOf", "(I)I"⟩
abbrev b_RS_free : ByteArray := prog_1_method_6_code
def y_RS_free : MethodName := ⟨R_RS, "free", "(I)I"⟩
abbrev b_Gr_areMeeting : ByteArray := prog_2_method_8_code
def y_Gr_areMeeting : MethodName := ⟨R_Gr, "areMeeting", "(II)Z"⟩
abbrev b_RS_meets : ByteArray := prog_1_method_7_code
def y_RS_meets : MethodName := ⟨R_RS, "meets", "(II)Z"⟩
abbrev b_RS_areLinked : ByteArray := prog_1_method_26_code
def y_RS_areLinked : MethodName := ⟨R_RS, "areLinked", "(II)Z"⟩
abbrev b_Gr_firstBegun : ByteArray := prog_2_method_14_code
def y_Gr_firstBegun : MethodName := ⟨R_Gr, "firstBegun", "(III)I"⟩
abbrev b_Rb_moveTo : ByteArray := prog_3_method_6_code
def y_Rb_moveTo : MethodName := ⟨R_Rb, "moveTo", "(II)V"⟩
abbrev b_RS_step : ByteArray := prog_1_method_8_code
def y_RS_step : MethodName := ⟨R_RS, "step", "(II)I"⟩
abbrev b_RS_pull : ByteArray := prog_1_method_9_code
def y_RS_pull : MethodName := ⟨R_RS, "pull", "(I)I"⟩
abbrev b_Rb_ringByWaiting : ByteArray := prog_3_method_7_code
def y_Rb_ringByWaiting : MethodName := ⟨R_Rb, "ringByWaiting", "(II)I"⟩
abbrev b_RS_await : ByteArray := prog_1_method_10_code
def y_RS_await : MethodName := ⟨R_RS, "await", "(II)I"⟩
abbrev b_Gr_greatestPriority : ByteArray := prog_2_method_16_code
def y_Gr_greatestPriority : MethodName := ⟨R_Gr, "greatestPriority", "(II)I"⟩
abbrev b_RS_next : ByteArray := prog_1_method_11_code
def y_RS_next : MethodName := ⟨R_RS, "next", "(I)I"⟩
abbrev b_Gr_takeAllFor : ByteArray := prog_2_method_11_code
def y_Gr_takeAllFor : MethodName := ⟨R_Gr, "takeAllFor", "(I)I"⟩
abbrev b_RS_zone : ByteArray := prog_1_method_12_code
def y_RS_zone : MethodName := ⟨R_RS, "zone", "(IZ)I"⟩
abbrev b_Gr_freeAllOf : ByteArray := prog_2_method_12_code
def y_Gr_freeAllOf : MethodName := ⟨R_Gr, "freeAllOf", "(I)I"⟩
abbrev b_RS_halt : ByteArray := prog_1_method_13_code
def y_RS_halt : MethodName := ⟨R_RS, "halt", "(IZ)I"⟩
abbrev b_RS_report : ByteArray := prog_1_method_14_code
def y_RS_report : MethodName := ⟨R_RS, "report", "(I)Z"⟩
abbrev b_Gr_endAllBy : ByteArray := prog_2_method_13_code
def y_Gr_endAllBy : MethodName := ⟨R_Gr, "endAllBy", "(I)I"⟩
abbrev b_RS_pass : ByteArray := prog_1_method_15_code
def y_RS_pass : MethodName := ⟨R_RS, "pass", "(I)I"⟩
abbrev b_Gr_robotGranted : ByteArray := prog_2_method_15_code
def y_Gr_robotGranted : MethodName := ⟨R_Gr, "robotGranted", "(II)I"⟩
abbrev b_RS_holder : ByteArray := prog_1_method_16_code
def y_RS_holder : MethodName := ⟨R_RS, "holder", "(II)I"⟩
abbrev b_RS_told : ByteArray := prog_1_method_17_code
def y_RS_told : MethodName := ⟨R_RS, "told", "(II)I"⟩
abbrev b_RS_grant : ByteArray := prog_1_method_18_code
def y_RS_grant : MethodName := ⟨R_RS, "grant", "(II)I"⟩
abbrev b_Gr_allLive : ByteArray := prog_2_method_18_code
def y_Gr_allLive : MethodName := ⟨R_Gr, "allLive", "()I"⟩
abbrev b_Rb_allWaiting : ByteArray := prog_3_method_8_code
def y_Rb_allWaiting : MethodName := ⟨R_Rb, "allWaiting", "()I"⟩
abbrev b_Gr_livePairsMeeting : ByteArray := prog_2_method_19_code
def y_Gr_livePairsMeeting : MethodName := ⟨R_Gr, "livePairsMeeting", "()I"⟩
abbrev b_RS_count : ByteArray := prog_1_method_19_code
def y_RS_count : MethodName := ⟨R_RS, "count", "(I)I"⟩
abbrev b_bitCount : ByteArray := prog_9_method_49_code
def y_bitCount : MethodName := ⟨"java/lang/Integer", "bitCount", "(I)I"⟩
abbrev b_RS_init : ByteArray := prog_1_method_1_code
def y_RS_init : MethodName := ⟨R_RS, "<init>", "()V"⟩
abbrev b_Rb_init : ByteArray := prog_3_method_1_code
def y_Rb_init : MethodName := ⟨R_Rb, "<init>", "()V"⟩
abbrev b_Gr_init : ByteArray := prog_2_method_1_code
def y_Gr_init : MethodName := ⟨R_Gr, "<init>", "()V"⟩
abbrev b_Lw_piece : ByteArray := method_3_code
def y_Lw_piece : MethodName := ⟨R_law, "piece", "(LReserveSteps;[J)I"⟩
abbrev b_Lw_link : ByteArray := method_4_code
def y_Lw_link : MethodName := ⟨R_law, "link", "(LReserveSteps;IIZ[J)I"⟩
abbrev b_Lw_robot : ByteArray := method_5_code
def y_Lw_robot : MethodName := ⟨R_law, "robot", "(LReserveSteps;IZ[J)I"⟩
abbrev b_Lw_ask : ByteArray := method_6_code
def y_Lw_ask : MethodName := ⟨R_law, "ask", "(LReserveSteps;IIIII[J)I"⟩
abbrev b_Lw_free : ByteArray := method_7_code
def y_Lw_free : MethodName := ⟨R_law, "free", "(LReserveSteps;I[J)I"⟩
abbrev b_Lw_meets : ByteArray := method_8_code
def y_Lw_meets : MethodName := ⟨R_law, "meets", "(LReserveSteps;II[J)I"⟩
abbrev b_Lw_step : ByteArray := method_9_code
def y_Lw_step : MethodName := ⟨R_law, "step", "(LReserveSteps;II[J)I"⟩
abbrev b_Lw_pull : ByteArray := method_10_code
def y_Lw_pull : MethodName := ⟨R_law, "pull", "(LReserveSteps;I[J)I"⟩
abbrev b_Lw_await : ByteArray := method_11_code
def y_Lw_await : MethodName := ⟨R_law, "await", "(LReserveSteps;II[J)I"⟩
abbrev b_Lw_next : ByteArray := method_12_code
def y_Lw_next : MethodName := ⟨R_law, "next", "(LReserveSteps;I[J)I"⟩
abbrev b_Lw_zone : ByteArray := method_13_code
def y_Lw_zone : MethodName := ⟨R_law, "zone", "(LReserveSteps;IZ[J)I"⟩
abbrev b_Lw_halt : ByteArray := method_14_code
def y_Lw_halt : MethodName := ⟨R_law, "halt", "(LReserveSteps;IZ[J)I"⟩
abbrev b_Lw_report : ByteArray := method_15_code
def y_Lw_report : MethodName := ⟨R_law, "report", "(LReserveSteps;I[J)I"⟩
abbrev b_Lw_pass : ByteArray := method_16_code
def y_Lw_pass : MethodName := ⟨R_law, "pass", "(LReserveSteps;I[J)I"⟩
abbrev b_Lw_holder : ByteArray := method_17_code
def y_Lw_holder : MethodName := ⟨R_law, "holder", "(LReserveSteps;II[J)I"⟩
abbrev b_Lw_told : ByteArray := method_18_code
def y_Lw_told : MethodName := ⟨R_law, "told", "(LReserveSteps;II[J)I"⟩
abbrev b_Lw_grant : ByteArray := method_19_code
def y_Lw_grant : MethodName := ⟨R_law, "grant", "(LReserveSteps;II[J)I"⟩
def WALL : List Cond := lw_tbl.filter goodWord
theorem WALL_good : GoodIn lw_tbl WALL := fun w h => ⟨(List.mem_filter.mp h).1, good_of_word (List.mem_filter.mp h).2⟩
theorem wIn {w : Cond} (i : Nat) (h : lw_tbl[i]? = some w) (hg : goodWord w = true) : w ∈ WALL := List.mem_filter.mpr ⟨List.mem_of_getElem? h, hg⟩
theorem i_RS : ∀ w ∈ u_ws R_RS F_RS 6, w ∈ WALL := fun w h => List.mem_filter.mpr ⟨(by decide +kernel : ∀ w ∈ u_ws R_RS F_RS 6, w ∈ lw_tbl) w h, (by decide +kernel : ∀ w ∈ u_ws R_RS F_RS 6, goodWord w = true) w h⟩
theorem i_Rb : ∀ w ∈ u_ws R_Rb F_Rb 7, w ∈ WALL := fun w h => List.mem_filter.mpr ⟨(by decide +kernel : ∀ w ∈ u_ws R_Rb F_Rb 7, w ∈ lw_tbl) w h, (by decide +kernel : ∀ w ∈ u_ws R_Rb F_Rb 7, goodWord w = true) w h⟩
theorem i_Gr : ∀ w ∈ u_ws R_Gr F_Gr 7, w ∈ WALL := fun w h => List.mem_filter.mpr ⟨(by decide +kernel : ∀ w ∈ u_ws R_Gr F_Gr 7, w ∈ lw_tbl) w h, (by decide +kernel : ∀ w ∈ u_ws R_Gr F_Gr 7, goodWord w = true) w h⟩
def xNames : List String := ["java/lang/RuntimeException", "java/lang/Exception"]
def xCasts : List (String × String) := [("java/util/NoSuchElementException", "java/util/NoSuchElementException"), ("java/lang/IllegalArgumentException", "java/lang/IllegalArgumentException"), ("java/lang/IllegalStateException", "java/lang/IllegalStateException"), ("java/lang/UnsupportedOperationException", "java/lang/UnsupportedOperationException")]
def xDecls : List MethodName := [⟨"java/lang/RuntimeException", "<init>", "(Ljava/lang/String;)V"⟩, ⟨"java/lang/Exception", "<init>", "(Ljava/lang/String;)V"⟩, ⟨"java/lang/Throwable", "<init>", "(Ljava/lang/String;)V"⟩]
def xNocs : List (String × String) := [("java/util/NoSuchElementException", "java/lang/IllegalArgumentException"), ("java/util/NoSuchElementException", "java/lang/IllegalStateException"), ("java/util/NoSuchElementException", "java/lang/UnsupportedOperationException"), ("java/lang/IllegalArgumentException", "java/util/NoSuchElementException"), ("java/lang/IllegalArgumentException", "java/lang/IllegalStateException"), ("java/lang/IllegalArgumentException", "java/lang/UnsupportedOperationException"), ("java/lang/IllegalStateException", "java/util/NoSuchElementException"), ("java/lang/IllegalStateException", "java/lang/IllegalArgumentException"), ("java/lang/IllegalStateException", "java/lang/UnsupportedOperationException"), ("java/lang/UnsupportedOperationException", "java/util/NoSuchElementException"), ("java/lang/UnsupportedOperationException", "java/lang/IllegalArgumentException"), ("java/lang/UnsupportedOperationException", "java/lang/IllegalStateException")]
def xStrs : List (String × Nat × String) := [(R_RS, 40, "no room for a piece"), (R_RS, 51, "a piece is not linked with itself"), (R_RS, 65, "the piece is closed or a robot stands on it"), (R_RS, 71, "no room for a robot"), (R_RS, 91, "no room for a grant"), (R_RS, 117, "the grant is not live"), (R_RS, 137, "the pieces are not linked"), (R_RS, 149, "the robot stands on its own piece alone"), (R_RS, 151, "no other robot stands on the piece"), (R_RS, 163, "the zone is so already, or a robot stands on the piece"), (R_RS, 171, "the robot is so already"), (R_RS, 179, "the time is before now or above the last one"), (R_RS, 184, "the time is before now"), (R_RS, 189, "nothing is told of a robot by this number"), (R_RS, 201, "nothing is told of a grant by this number"), (R_RS, 215, "no such piece"), (R_RS, 218, "no such robot"), (R_RS, 220, "no such grant"), (R_RS, 222, "the span begins before now, is empty or ends too late"), (R_RS, 224, "there is no such priority"), (R_RS, 226, "the robot is halted or silent")]
def xBad : List Cond := xCasts.map (fun q => .castable q.1 q.2) ++ xDecls.map (fun x => .declares x)
theorem xa_0 : ∀ w ∈ (nx_at R_RS 42 7 prog_14_method_2_code "java/lang/UnsupportedOperationException" "java/lang/RuntimeException" ["java/lang/Exception"]).filter goodWord, w ∈ WALL := fun w h => List.mem_filter.mpr ⟨(by decide +kernel : ∀ w ∈ (nx_at R_RS 42 7 prog_14_method_2_code "java/lang/UnsupportedOperationException" "java/lang/RuntimeException" ["java/lang/Exception"]).filter goodWord, w ∈ lw_tbl) w h, (List.mem_filter.mp h).2⟩
theorem xb_0 : ∀ w ∈ (nx_at R_RS 42 7 prog_14_method_2_code "java/lang/UnsupportedOperationException" "java/lang/RuntimeException" ["java/lang/Exception"]).filter (fun w => !goodWord w), w ∈ xBad := by decide +kernel
theorem xc_0 : ∀ w ∈ nx_at R_RS 42 7 prog_14_method_2_code "java/lang/UnsupportedOperationException" "java/lang/RuntimeException" ["java/lang/Exception"], vx_ot w = true := by decide +kernel
theorem xa_1 : ∀ w ∈ (nx_at R_RS 53 7 prog_7_method_2_code "java/lang/IllegalArgumentException" "java/lang/RuntimeException" ["java/lang/Exception"]).filter goodWord, w ∈ WALL := fun w h => List.mem_filter.mpr ⟨(by decide +kernel : ∀ w ∈ (nx_at R_RS 53 7 prog_7_method_2_code "java/lang/IllegalArgumentException" "java/lang/RuntimeException" ["java/lang/Exception"]).filter goodWord, w ∈ lw_tbl) w h, (List.mem_filter.mp h).2⟩
theorem xb_1 : ∀ w ∈ (nx_at R_RS 53 7 prog_7_method_2_code "java/lang/IllegalArgumentException" "java/lang/RuntimeException" ["java/lang/Exception"]).filter (fun w => !goodWord w), w ∈ xBad := by decide +kernel
theorem xc_1 : ∀ w ∈ nx_at R_RS 53 7 prog_7_method_2_code "java/lang/IllegalArgumentException" "java/lang/RuntimeException" ["java/lang/Exception"], vx_ot w = true := by decide +kernel
theorem xa_2 : ∀ w ∈ (nx_at R_RS 67 7 prog_8_method_2_code "java/lang/IllegalStateException" "java/lang/RuntimeException" ["java/lang/Exception"]).filter goodWord, w ∈ WALL := fun w h => List.mem_filter.mpr ⟨(by decide +kernel : ∀ w ∈ (nx_at R_RS 67 7 prog_8_method_2_code "java/lang/IllegalStateException" "java/lang/RuntimeException" ["java/lang/Exception"]).filter goodWord, w ∈ lw_tbl) w h, (List.mem_filter.mp h).2⟩
theorem xb_2 : ∀ w ∈ (nx_at R_RS 67 7 prog_8_method_2_code "java/lang/IllegalStateException" "java/lang/RuntimeException" ["java/lang/Exception"]).filter (fun w => !goodWord w), w ∈ xBad := by decide +kernel
theorem xc_2 : ∀ w ∈ nx_at R_RS 67 7 prog_8_method_2_code "java/lang/IllegalStateException" "java/lang/RuntimeException" ["java/lang/Exception"], vx_ot w = true := by decide +kernel
theorem xa_3 : ∀ w ∈ (nx_at R_RS 217 13 prog_15_method_4_code "java/util/NoSuchElementException" "java/lang/RuntimeException" ["java/lang/Exception"]).filter goodWord, w ∈ WALL := fun w h => List.mem_filter.mpr ⟨(by decide +kernel : ∀ w ∈ (nx_at R_RS 217 13 prog_15_method_4_code "java/util/NoSuchElementException" "java/lang/RuntimeException" ["java/lang/Exception"]).filter goodWord, w ∈ lw_tbl) w h, (List.mem_filter.mp h).2⟩
theorem xb_3 : ∀ w ∈ (nx_at R_RS 217 13 prog_15_method_4_code "java/util/NoSuchElementException" "java/lang/RuntimeException" ["java/lang/Exception"]).filter (fun w => !goodWord w), w ∈ xBad := by decide +kernel
theorem xc_3 : ∀ w ∈ nx_at R_RS 217 13 prog_15_method_4_code "java/util/NoSuchElementException" "java/lang/RuntimeException" ["java/lang/Exception"], vx_ot w = true := by decide +kernel
set_option maxRecDepth 100000 in
theorem k_0 : (.fieldLink R_RS 13 "ReserveSteps" "pieceCount" "I" : Cond) ∈ WALL := wIn 113 (by decide +kernel) (by decide +kernel)
set_option maxRecDepth 100000 in
theorem k_1 : (.classLink R_RS 213 "java/util/NoSuchElementException" : Cond) ∈ WALL := wIn 249 (by decide +kernel) (by decide +kernel)
set_option maxRecDepth 100000 in
theorem k_2 : (.initialized "java/util/NoSuchElementException" : Cond) ∈ WALL := wIn 28 (by decide +kernel) (by decide +kernel)
set_option maxRecDepth 100000 in
theorem k_3 : (.fieldLink R_RS 27 "ReserveSteps" "robots" "LReserveSteps$Robots;" : Cond) ∈ WALL := wIn 116 (by decide +kernel) (by decide +kernel)
set_option maxRecDepth 100000 in
theorem k_4 : (.fieldLink R_RS 68 "ReserveSteps$Robots" "size" "I" : Cond) ∈ WALL := wIn 48 (by decide +kernel) (by decide +kernel)
set_option maxRecDepth 100000 in
theorem k_5 : (.fieldLink R_RS 34 "ReserveSteps" "grants" "LReserveSteps$Grants;" : Cond) ∈ WALL := wIn 117 (by decide +kernel) (by decide +kernel)
set_option maxRecDepth 100000 in
theorem k_6 : (.fieldLink R_RS 90 "ReserveSteps$Grants" "size" "I" : Cond) ∈ WALL := wIn 84 (by decide +kernel) (by decide +kernel)
set_option maxRecDepth 100000 in
theorem k_7 : (.fieldLink R_RS 7 "ReserveSteps" "now" "I" : Cond) ∈ WALL := wIn 112 (by decide +kernel) (by decide +kernel)
set_option maxRecDepth 100000 in
theorem k_8 : (.classLink R_RS 49 "java/lang/IllegalArgumentException" : Cond) ∈ WALL := wIn 265 (by decide +kernel) (by decide +kernel)
set_option maxRecDepth 100000 in
theorem k_9 : (.initialized "java/lang/IllegalArgumentException" : Cond) ∈ WALL := wIn 29 (by decide +kernel) (by decide +kernel)
set_option maxRecDepth 100000 in
theorem k_10 : (.classLink R_RS 38 "java/lang/UnsupportedOperationException" : Cond) ∈ WALL := wIn 167 (by decide +kernel) (by decide +kernel)
set_option maxRecDepth 100000 in
theorem k_11 : (.initialized "java/lang/UnsupportedOperationException" : Cond) ∈ WALL := wIn 27 (by decide +kernel) (by decide +kernel)
set_option maxRecDepth 100000 in
theorem k_12 : (.methodLink R_RS 45 y_RS_needPiece : Cond) ∈ WALL := wIn 245 (by decide +kernel) (by decide +kernel)
set_option maxRecDepth 100000 in
theorem k_13 : (.instanceMethod y_RS_needPiece : Cond) ∈ WALL := wIn 247 (by decide +kernel) (by decide +kernel)
set_option maxRecDepth 100000 in
theorem k_14 : (.selects R_RS y_RS_needPiece y_RS_needPiece : Cond) ∈ WALL := wIn 1 (by decide +kernel) (by decide +kernel)
set_option maxRecDepth 100000 in
theorem k_15 : (.initialized R_RS : Cond) ∈ WALL := wIn 20 (by decide +kernel) (by decide +kernel)
set_option maxRecDepth 100000 in
theorem k_16 : (.code y_RS_needPiece b_RS_needPiece 2 none : Cond) ∈ WALL := wIn 248 rfl (by decide +kernel)
set_option maxRecDepth 100000 in
theorem k_17 : (.fieldLink R_RS 16 "ReserveSteps" "links" "[I" : Cond) ∈ WALL := wIn 114 (by decide +kernel) (by decide +kernel)
set_option maxRecDepth 100000 in
theorem k_18 : (.methodLink R_RS 54 y_bitCount : Cond) ∈ WALL := wIn 281 (by decide +kernel) (by decide +kernel)
set_option maxRecDepth 100000 in
theorem k_19 : (.static y_bitCount : Cond) ∈ WALL := wIn 282 (by decide +kernel) (by decide +kernel)
set_option maxRecDepth 100000 in
theorem k_20 : (.initialized "java/lang/Integer" : Cond) ∈ WALL := wIn 30 (by decide +kernel) (by decide +kernel)
set_option maxRecDepth 100000 in
theorem k_21 : (.code y_bitCount b_bitCount 1 (some .int) : Cond) ∈ WALL := wIn 283 rfl (by decide +kernel)
set_option maxRecDepth 100000 in
theorem k_22 : (.fieldLink R_Rb 9 "ReserveSteps$Robots" "size" "I" : Cond) ∈ WALL := wIn 47 (by decide +kernel) (by decide +kernel)
set_option maxRecDepth 100000 in
theorem k_23 : (.fieldLink R_Rb 15 "ReserveSteps$Robots" "piece" "[I" : Cond) ∈ WALL := wIn 49 (by decide +kernel) (by decide +kernel)
set_option maxRecDepth 100000 in
theorem k_24 : (.fieldLink R_Rb 23 "ReserveSteps$Robots" "tailPiece" "[I" : Cond) ∈ WALL := wIn 52 (by decide +kernel) (by decide +kernel)
set_option maxRecDepth 100000 in
theorem k_25 : (.fieldLink R_Rb 19 "ReserveSteps$Robots" "hasTail" "[Z" : Cond) ∈ WALL := wIn 51 (by decide +kernel) (by decide +kernel)
set_option maxRecDepth 100000 in
theorem k_26 : (.fieldLink R_Rb 26 "ReserveSteps$Robots" "waitsFor" "[I" : Cond) ∈ WALL := wIn 54 (by decide +kernel) (by decide +kernel)
set_option maxRecDepth 100000 in
theorem k_27 : (.fieldLink R_Rb 29 "ReserveSteps$Robots" "halted" "[Z" : Cond) ∈ WALL := wIn 56 (by decide +kernel) (by decide +kernel)
set_option maxRecDepth 100000 in
theorem k_28 : (.fieldLink R_Rb 32 "ReserveSteps$Robots" "reported" "[I" : Cond) ∈ WALL := wIn 58 (by decide +kernel) (by decide +kernel)
set_option maxRecDepth 100000 in
theorem k_29 : (.fieldLink R_RS 20 "ReserveSteps" "closed" "[Z" : Cond) ∈ WALL := wIn 115 (by decide +kernel) (by decide +kernel)
set_option maxRecDepth 100000 in
theorem k_30 : (.methodLink R_RS 60 y_Rb_standingOn : Cond) ∈ WALL := wIn 295 (by decide +kernel) (by decide +kernel)
set_option maxRecDepth 100000 in
theorem k_31 : (.instanceMethod y_Rb_standingOn : Cond) ∈ WALL := wIn 296 (by decide +kernel) (by decide +kernel)
set_option maxRecDepth 100000 in
theorem k_32 : (.selects R_Rb y_Rb_standingOn y_Rb_standingOn : Cond) ∈ WALL := wIn 297 (by decide +kernel) (by decide +kernel)
set_option maxRecDepth 100000 in
theorem k_33 : (.initialized R_Rb : Cond) ∈ WALL := wIn 21 (by decide +kernel) (by decide +kernel)
set_option maxRecDepth 100000 in
theorem k_34 : (.code y_Rb_standingOn b_Rb_standingOn 3 (some .int) : Cond) ∈ WALL := wIn 298 rfl (by decide +kernel)
set_option maxRecDepth 100000 in
theorem k_35 : (.methodLink R_RS 73 y_Rb_add : Cond) ∈ WALL := wIn 316 (by decide +kernel) (by decide +kernel)
set_option maxRecDepth 100000 in
theorem k_36 : (.instanceMethod y_Rb_add : Cond) ∈ WALL := wIn 317 (by decide +kernel) (by decide +kernel)
set_option maxRecDepth 100000 in
theorem k_37 : (.selects R_Rb y_Rb_add y_Rb_add : Cond) ∈ WALL := wIn 318 (by decide +kernel) (by decide +kernel)
set_option maxRecDepth 100000 in
theorem k_38 : (.code y_Rb_add b_Rb_add 5 (some .int) : Cond) ∈ WALL := wIn 319 rfl (by decide +kernel)
set_option maxRecDepth 100000 in
theorem k_39 : (.classLink R_RS 63 "java/lang/IllegalStateException" : Cond) ∈ WALL := wIn 299 (by decide +kernel) (by decide +kernel)
set_option maxRecDepth 100000 in
theorem k_40 : (.initialized "java/lang/IllegalStateException" : Cond) ∈ WALL := wIn 31 (by decide +kernel) (by decide +kernel)
set_option maxRecDepth 100000 in
theorem k_41 : (.fieldLink R_RS 168 "ReserveSteps$Robots" "halted" "[Z" : Cond) ∈ WALL := wIn 57 (by decide +kernel) (by decide +kernel)
set_option maxRecDepth 100000 in
theorem k_42 : (.methodLink R_RS 176 y_Rb_isSilent : Cond) ∈ WALL := wIn 346 (by decide +kernel) (by decide +kernel)
set_option maxRecDepth 100000 in
theorem k_43 : (.instanceMethod y_Rb_isSilent : Cond) ∈ WALL := wIn 347 (by decide +kernel) (by decide +kernel)
set_option maxRecDepth 100000 in
theorem k_44 : (.selects R_Rb y_Rb_isSilent y_Rb_isSilent : Cond) ∈ WALL := wIn 348 (by decide +kernel) (by decide +kernel)
set_option maxRecDepth 100000 in
theorem k_45 : (.code y_Rb_isSilent b_Rb_isSilent 3 (some .boolean) : Cond) ∈ WALL := wIn 349 rfl (by decide +kernel)
set_option maxRecDepth 100000 in
theorem k_46 : (.methodLink R_Rb 35 y_Rb_standingOn : Cond) ∈ WALL := wIn 356 (by decide +kernel) (by decide +kernel)
set_option maxRecDepth 100000 in
theorem k_47 : (.fieldLink R_Gr 22 "ReserveSteps$Grants" "from" "[I" : Cond) ∈ WALL := wIn 89 (by decide +kernel) (by decide +kernel)
set_option maxRecDepth 100000 in
theorem k_48 : (.fieldLink R_Gr 31 "ReserveSteps$Grants" "state" "[I" : Cond) ∈ WALL := wIn 95 (by decide +kernel) (by decide +kernel)
set_option maxRecDepth 100000 in
theorem k_49 : (.methodLink R_Gr 34 y_Gr_isLive : Cond) ∈ WALL := wIn 139 (by decide +kernel) (by decide +kernel)
set_option maxRecDepth 100000 in
theorem k_50 : (.instanceMethod y_Gr_isLive : Cond) ∈ WALL := wIn 140 (by decide +kernel) (by decide +kernel)
set_option maxRecDepth 100000 in
theorem k_51 : (.selects R_Gr y_Gr_isLive y_Gr_isLive : Cond) ∈ WALL := wIn 141 (by decide +kernel) (by decide +kernel)
set_option maxRecDepth 100000 in
theorem k_52 : (.initialized R_Gr : Cond) ∈ WALL := wIn 22 (by decide +kernel) (by decide +kernel)
set_option maxRecDepth 100000 in
theorem k_53 : (.code y_Gr_isLive b_Gr_isLive 2 (some .boolean) : Cond) ∈ WALL := wIn 142 rfl (by decide +kernel)
set_option maxRecDepth 100000 in
theorem k_54 : (.fieldLink R_Gr 19 "ReserveSteps$Grants" "piece" "[I" : Cond) ∈ WALL := wIn 87 (by decide +kernel) (by decide +kernel)
set_option maxRecDepth 100000 in
theorem k_55 : (.fieldLink R_Gr 25 "ReserveSteps$Grants" "to" "[I" : Cond) ∈ WALL := wIn 91 (by decide +kernel) (by decide +kernel)
set_option maxRecDepth 100000 in
theorem k_56 : (.methodLink R_Gr 42 y_Gr_isLiveFor : Cond) ∈ WALL := wIn 369 (by decide +kernel) (by decide +kernel)
set_option maxRecDepth 100000 in
theorem k_57 : (.instanceMethod y_Gr_isLiveFor : Cond) ∈ WALL := wIn 370 (by decide +kernel) (by decide +kernel)
set_option maxRecDepth 100000 in
theorem k_58 : (.selects R_Gr y_Gr_isLiveFor y_Gr_isLiveFor : Cond) ∈ WALL := wIn 371 (by decide +kernel) (by decide +kernel)
set_option maxRecDepth 100000 in
theorem k_59 : (.code y_Gr_isLiveFor b_Gr_isLiveFor 3 (some .boolean) : Cond) ∈ WALL := wIn 372 rfl (by decide +kernel)
set_option maxRecDepth 100000 in
theorem k_60 : (.fieldLink R_Gr 15 "ReserveSteps$Grants" "robot" "[I" : Cond) ∈ WALL := wIn 85 (by decide +kernel) (by decide +kernel)
set_option maxRecDepth 100000 in
theorem k_61 : (.methodLink R_Gr 38 y_Gr_sharesTime : Cond) ∈ WALL := wIn 155 (by decide +kernel) (by decide +kernel)
set_option maxRecDepth 100000 in
theorem k_62 : (.instanceMethod y_Gr_sharesTime : Cond) ∈ WALL := wIn 156 (by decide +kernel) (by decide +kernel)
set_option maxRecDepth 100000 in
theorem k_63 : (.selects R_Gr y_Gr_sharesTime y_Gr_sharesTime : Cond) ∈ WALL := wIn 157 (by decide +kernel) (by decide +kernel)
set_option maxRecDepth 100000 in
theorem k_64 : (.code y_Gr_sharesTime b_Gr_sharesTime 4 (some .boolean) : Cond) ∈ WALL := wIn 158 rfl (by decide +kernel)
set_option maxRecDepth 100000 in
theorem k_65 : (.fieldLink R_RS 198 "ReserveSteps$Grants" "priority" "[I" : Cond) ∈ WALL := wIn 94 (by decide +kernel) (by decide +kernel)
set_option maxRecDepth 100000 in
theorem k_66 : (.methodLink R_RS 231 y_Gr_isRival : Cond) ∈ WALL := wIn 365 (by decide +kernel) (by decide +kernel)
set_option maxRecDepth 100000 in
theorem k_67 : (.instanceMethod y_Gr_isRival : Cond) ∈ WALL := wIn 366 (by decide +kernel) (by decide +kernel)
set_option maxRecDepth 100000 in
theorem k_68 : (.selects R_Gr y_Gr_isRival y_Gr_isRival : Cond) ∈ WALL := wIn 367 (by decide +kernel) (by decide +kernel)
set_option maxRecDepth 100000 in
theorem k_69 : (.code y_Gr_isRival b_Gr_isRival 6 (some .boolean) : Cond) ∈ WALL := wIn 368 rfl (by decide +kernel)
set_option maxRecDepth 100000 in
theorem k_70 : (.methodLink R_RS 228 y_Gr_hasBegun : Cond) ∈ WALL := wIn 361 (by decide +kernel) (by decide +kernel)
set_option maxRecDepth 100000 in
theorem k_71 : (.instanceMethod y_Gr_hasBegun : Cond) ∈ WALL := wIn 362 (by decide +kernel) (by decide +kernel)
set_option maxRecDepth 100000 in
theorem k_72 : (.selects R_Gr y_Gr_hasBegun y_Gr_hasBegun : Cond) ∈ WALL := wIn 363 (by decide +kernel) (by decide +kernel)
set_option maxRecDepth 100000 in
theorem k_73 : (.code y_Gr_hasBegun b_Gr_hasBegun 3 (some .boolean) : Cond) ∈ WALL := wIn 364 rfl (by decide +kernel)
set_option maxRecDepth 100000 in
theorem k_74 : (.fieldLink R_Gr 9 "ReserveSteps$Grants" "size" "I" : Cond) ∈ WALL := wIn 83 (by decide +kernel) (by decide +kernel)
set_option maxRecDepth 100000 in
theorem k_75 : (.methodLink R_Gr 46 y_Gr_isRival : Cond) ∈ WALL := wIn 377 (by decide +kernel) (by decide +kernel)
set_option maxRecDepth 100000 in
theorem k_76 : (.fieldLink R_Gr 28 "ReserveSteps$Grants" "priority" "[I" : Cond) ∈ WALL := wIn 93 (by decide +kernel) (by decide +kernel)
set_option maxRecDepth 100000 in
theorem k_77 : (.methodLink R_RS 77 y_RS_needRobot : Cond) ∈ WALL := wIn 327 (by decide +kernel) (by decide +kernel)
set_option maxRecDepth 100000 in
theorem k_78 : (.instanceMethod y_RS_needRobot : Cond) ∈ WALL := wIn 329 (by decide +kernel) (by decide +kernel)
set_option maxRecDepth 100000 in
theorem k_79 : (.selects R_RS y_RS_needRobot y_RS_needRobot : Cond) ∈ WALL := wIn 2 (by decide +kernel) (by decide +kernel)
set_option maxRecDepth 100000 in
theorem k_80 : (.code y_RS_needRobot b_RS_needRobot 2 none : Cond) ∈ WALL := wIn 330 rfl (by decide +kernel)
set_option maxRecDepth 100000 in
theorem k_81 : (.methodLink R_RS 80 y_RS_needSpan : Cond) ∈ WALL := wIn 332 (by decide +kernel) (by decide +kernel)
set_option maxRecDepth 100000 in
theorem k_82 : (.instanceMethod y_RS_needSpan : Cond) ∈ WALL := wIn 334 (by decide +kernel) (by decide +kernel)
set_option maxRecDepth 100000 in
theorem k_83 : (.selects R_RS y_RS_needSpan y_RS_needSpan : Cond) ∈ WALL := wIn 3 (by decide +kernel) (by decide +kernel)
set_option maxRecDepth 100000 in
theorem k_84 : (.code y_RS_needSpan b_RS_needSpan 3 none : Cond) ∈ WALL := wIn 335 rfl (by decide +kernel)
set_option maxRecDepth 100000 in
theorem k_85 : (.methodLink R_RS 84 y_RS_needPriority : Cond) ∈ WALL := wIn 337 (by decide +kernel) (by decide +kernel)
set_option maxRecDepth 100000 in
theorem k_86 : (.instanceMethod y_RS_needPriority : Cond) ∈ WALL := wIn 339 (by decide +kernel) (by decide +kernel)
set_option maxRecDepth 100000 in
theorem k_87 : (.selects R_RS y_RS_needPriority y_RS_needPriority : Cond) ∈ WALL := wIn 4 (by decide +kernel) (by decide +kernel)
set_option maxRecDepth 100000 in
theorem k_88 : (.code y_RS_needPriority b_RS_needPriority 2 none : Cond) ∈ WALL := wIn 340 rfl (by decide +kernel)
set_option maxRecDepth 100000 in
theorem k_89 : (.methodLink R_RS 87 y_RS_needActive : Cond) ∈ WALL := wIn 342 (by decide +kernel) (by decide +kernel)
set_option maxRecDepth 100000 in
theorem k_90 : (.instanceMethod y_RS_needActive : Cond) ∈ WALL := wIn 344 (by decide +kernel) (by decide +kernel)
set_option maxRecDepth 100000 in
theorem k_91 : (.selects R_RS y_RS_needActive y_RS_needActive : Cond) ∈ WALL := wIn 5 (by decide +kernel) (by decide +kernel)
set_option maxRecDepth 100000 in
theorem k_92 : (.code y_RS_needActive b_RS_needActive 2 none : Cond) ∈ WALL := wIn 345 rfl (by decide +kernel)
set_option maxRecDepth 100000 in
theorem k_93 : (.fieldLink R_RS 93 "ReserveSteps$Robots" "reported" "[I" : Cond) ∈ WALL := wIn 59 (by decide +kernel) (by decide +kernel)
set_option maxRecDepth 100000 in
theorem k_94 : (.methodLink R_RS 96 y_Rb_otherStandsOn : Cond) ∈ WALL := wIn 352 (by decide +kernel) (by decide +kernel)
set_option maxRecDepth 100000 in
theorem k_95 : (.instanceMethod y_Rb_otherStandsOn : Cond) ∈ WALL := wIn 353 (by decide +kernel) (by decide +kernel)
set_option maxRecDepth 100000 in
theorem k_96 : (.selects R_Rb y_Rb_otherStandsOn y_Rb_otherStandsOn : Cond) ∈ WALL := wIn 354 (by decide +kernel) (by decide +kernel)
set_option maxRecDepth 100000 in
theorem k_97 : (.code y_Rb_otherStandsOn b_Rb_otherStandsOn 4 (some .boolean) : Cond) ∈ WALL := wIn 355 rfl (by decide +kernel)
set_option maxRecDepth 100000 in
theorem k_98 : (.methodLink R_RS 100 y_RS_firstBar : Cond) ∈ WALL := wIn 357 (by decide +kernel) (by decide +kernel)
set_option maxRecDepth 100000 in
theorem k_99 : (.instanceMethod y_RS_firstBar : Cond) ∈ WALL := wIn 359 (by decide +kernel) (by decide +kernel)
set_option maxRecDepth 100000 in
theorem k_100 : (.selects R_RS y_RS_firstBar y_RS_firstBar : Cond) ∈ WALL := wIn 6 (by decide +kernel) (by decide +kernel)
set_option maxRecDepth 100000 in
theorem k_101 : (.code y_RS_firstBar b_RS_firstBar 8 (some .int) : Cond) ∈ WALL := wIn 360 rfl (by decide +kernel)
set_option maxRecDepth 100000 in
theorem k_102 : (.methodLink R_RS 104 y_Gr_takeFromOthers : Cond) ∈ WALL := wIn 373 (by decide +kernel) (by decide +kernel)
set_option maxRecDepth 100000 in
theorem k_103 : (.instanceMethod y_Gr_takeFromOthers : Cond) ∈ WALL := wIn 374 (by decide +kernel) (by decide +kernel)
set_option maxRecDepth 100000 in
theorem k_104 : (.selects R_Gr y_Gr_takeFromOthers y_Gr_takeFromOthers : Cond) ∈ WALL := wIn 375 (by decide +kernel) (by decide +kernel)
set_option maxRecDepth 100000 in
theorem k_105 : (.code y_Gr_takeFromOthers b_Gr_takeFromOthers 6 none : Cond) ∈ WALL := wIn 376 rfl (by decide +kernel)
set_option maxRecDepth 100000 in
theorem k_106 : (.methodLink R_RS 108 y_Gr_add : Cond) ∈ WALL := wIn 378 (by decide +kernel) (by decide +kernel)
set_option maxRecDepth 100000 in
theorem k_107 : (.instanceMethod y_Gr_add : Cond) ∈ WALL := wIn 379 (by decide +kernel) (by decide +kernel)
set_option maxRecDepth 100000 in
theorem k_108 : (.selects R_Gr y_Gr_add y_Gr_add : Cond) ∈ WALL := wIn 380 (by decide +kernel) (by decide +kernel)
set_option maxRecDepth 100000 in
theorem k_109 : (.code y_Gr_add b_Gr_add 6 (some .int) : Cond) ∈ WALL := wIn 381 rfl (by decide +kernel)
set_option maxRecDepth 100000 in
theorem k_110 : (.methodLink R_Gr 50 y_Gr_isLiveOf : Cond) ∈ WALL := wIn 400 (by decide +kernel) (by decide +kernel)
set_option maxRecDepth 100000 in
theorem k_111 : (.instanceMethod y_Gr_isLiveOf : Cond) ∈ WALL := wIn 401 (by decide +kernel) (by decide +kernel)
set_option maxRecDepth 100000 in
theorem k_112 : (.selects R_Gr y_Gr_isLiveOf y_Gr_isLiveOf : Cond) ∈ WALL := wIn 402 (by decide +kernel) (by decide +kernel)
set_option maxRecDepth 100000 in
theorem k_113 : (.code y_Gr_isLiveOf b_Gr_isLiveOf 3 (some .boolean) : Cond) ∈ WALL := wIn 403 rfl (by decide +kernel)
set_option maxRecDepth 100000 in
theorem k_114 : (.methodLink R_RS 110 y_RS_needGrant : Cond) ∈ WALL := wIn 389 (by decide +kernel) (by decide +kernel)
set_option maxRecDepth 100000 in
theorem k_115 : (.instanceMethod y_RS_needGrant : Cond) ∈ WALL := wIn 391 (by decide +kernel) (by decide +kernel)
set_option maxRecDepth 100000 in
theorem k_116 : (.selects R_RS y_RS_needGrant y_RS_needGrant : Cond) ∈ WALL := wIn 7 (by decide +kernel) (by decide +kernel)
set_option maxRecDepth 100000 in
theorem k_117 : (.code y_RS_needGrant b_RS_needGrant 2 none : Cond) ∈ WALL := wIn 392 rfl (by decide +kernel)
set_option maxRecDepth 100000 in
theorem k_118 : (.methodLink R_RS 113 y_Gr_isLive : Cond) ∈ WALL := wIn 394 (by decide +kernel) (by decide +kernel)
set_option maxRecDepth 100000 in
theorem k_119 : (.fieldLink R_RS 119 "ReserveSteps$Grants" "state" "[I" : Cond) ∈ WALL := wIn 96 (by decide +kernel) (by decide +kernel)
set_option maxRecDepth 100000 in
theorem k_120 : (.fieldLink R_RS 122 "ReserveSteps$Grants" "robot" "[I" : Cond) ∈ WALL := wIn 86 (by decide +kernel) (by decide +kernel)
set_option maxRecDepth 100000 in
theorem k_121 : (.methodLink R_RS 125 y_Gr_liveOf : Cond) ∈ WALL := wIn 396 (by decide +kernel) (by decide +kernel)
set_option maxRecDepth 100000 in
theorem k_122 : (.instanceMethod y_Gr_liveOf : Cond) ∈ WALL := wIn 397 (by decide +kernel) (by decide +kernel)
set_option maxRecDepth 100000 in
theorem k_123 : (.selects R_Gr y_Gr_liveOf y_Gr_liveOf : Cond) ∈ WALL := wIn 398 (by decide +kernel) (by decide +kernel)
set_option maxRecDepth 100000 in
theorem k_124 : (.code y_Gr_liveOf b_Gr_liveOf 4 (some .int) : Cond) ∈ WALL := wIn 399 rfl (by decide +kernel)
set_option maxRecDepth 100000 in
theorem k_125 : (.methodLink R_RS 128 y_Gr_areMeeting : Cond) ∈ WALL := wIn 411 (by decide +kernel) (by decide +kernel)
set_option maxRecDepth 100000 in
theorem k_126 : (.instanceMethod y_Gr_areMeeting : Cond) ∈ WALL := wIn 152 (by decide +kernel) (by decide +kernel)
set_option maxRecDepth 100000 in
theorem k_127 : (.selects R_Gr y_Gr_areMeeting y_Gr_areMeeting : Cond) ∈ WALL := wIn 153 (by decide +kernel) (by decide +kernel)
set_option maxRecDepth 100000 in
theorem k_128 : (.code y_Gr_areMeeting b_Gr_areMeeting 3 (some .boolean) : Cond) ∈ WALL := wIn 154 rfl (by decide +kernel)
set_option maxRecDepth 100000 in
theorem k_129 : (.methodLink R_Gr 53 y_Gr_hasBegun : Cond) ∈ WALL := wIn 428 (by decide +kernel) (by decide +kernel)
set_option maxRecDepth 100000 in
theorem k_130 : (.fieldLink R_RS 131 "ReserveSteps$Robots" "piece" "[I" : Cond) ∈ WALL := wIn 50 (by decide +kernel) (by decide +kernel)
set_option maxRecDepth 100000 in
theorem k_131 : (.methodLink R_RS 134 y_RS_areLinked : Cond) ∈ WALL := wIn 419 (by decide +kernel) (by decide +kernel)
set_option maxRecDepth 100000 in
theorem k_132 : (.instanceMethod y_RS_areLinked : Cond) ∈ WALL := wIn 421 (by decide +kernel) (by decide +kernel)
set_option maxRecDepth 100000 in
theorem k_133 : (.selects R_RS y_RS_areLinked y_RS_areLinked : Cond) ∈ WALL := wIn 8 (by decide +kernel) (by decide +kernel)
set_option maxRecDepth 100000 in
theorem k_134 : (.code y_RS_areLinked b_RS_areLinked 3 (some .boolean) : Cond) ∈ WALL := wIn 422 rfl (by decide +kernel)
set_option maxRecDepth 100000 in
theorem k_135 : (.methodLink R_RS 139 y_Gr_firstBegun : Cond) ∈ WALL := wIn 424 (by decide +kernel) (by decide +kernel)
set_option maxRecDepth 100000 in
theorem k_136 : (.instanceMethod y_Gr_firstBegun : Cond) ∈ WALL := wIn 425 (by decide +kernel) (by decide +kernel)
set_option maxRecDepth 100000 in
theorem k_137 : (.selects R_Gr y_Gr_firstBegun y_Gr_firstBegun : Cond) ∈ WALL := wIn 426 (by decide +kernel) (by decide +kernel)
set_option maxRecDepth 100000 in
theorem k_138 : (.code y_Gr_firstBegun b_Gr_firstBegun 5 (some .int) : Cond) ∈ WALL := wIn 427 rfl (by decide +kernel)
set_option maxRecDepth 100000 in
theorem k_139 : (.methodLink R_RS 143 y_Rb_moveTo : Cond) ∈ WALL := wIn 429 (by decide +kernel) (by decide +kernel)
set_option maxRecDepth 100000 in
theorem k_140 : (.instanceMethod y_Rb_moveTo : Cond) ∈ WALL := wIn 430 (by decide +kernel) (by decide +kernel)
set_option maxRecDepth 100000 in
theorem k_141 : (.selects R_Rb y_Rb_moveTo y_Rb_moveTo : Cond) ∈ WALL := wIn 431 (by decide +kernel) (by decide +kernel)
set_option maxRecDepth 100000 in
theorem k_142 : (.code y_Rb_moveTo b_Rb_moveTo 3 none : Cond) ∈ WALL := wIn 432 rfl (by decide +kernel)
set_option maxRecDepth 100000 in
theorem k_143 : (.fieldLink R_RS 146 "ReserveSteps$Robots" "tailPiece" "[I" : Cond) ∈ WALL := wIn 53 (by decide +kernel) (by decide +kernel)
set_option maxRecDepth 100000 in
theorem k_144 : (.methodLink R_RS 153 y_Rb_ringByWaiting : Cond) ∈ WALL := wIn 449 (by decide +kernel) (by decide +kernel)
set_option maxRecDepth 100000 in
theorem k_145 : (.instanceMethod y_Rb_ringByWaiting : Cond) ∈ WALL := wIn 450 (by decide +kernel) (by decide +kernel)
set_option maxRecDepth 100000 in
theorem k_146 : (.selects R_Rb y_Rb_ringByWaiting y_Rb_ringByWaiting : Cond) ∈ WALL := wIn 451 (by decide +kernel) (by decide +kernel)
set_option maxRecDepth 100000 in
theorem k_147 : (.code y_Rb_ringByWaiting b_Rb_ringByWaiting 6 (some .int) : Cond) ∈ WALL := wIn 452 rfl (by decide +kernel)
set_option maxRecDepth 100000 in
theorem k_148 : (.fieldLink R_RS 157 "ReserveSteps$Robots" "waitsFor" "[I" : Cond) ∈ WALL := wIn 55 (by decide +kernel) (by decide +kernel)
set_option maxRecDepth 100000 in
theorem k_149 : (.methodLink R_Gr 56 Lib.Math.max.name : Cond) ∈ WALL := wIn 464 (by decide +kernel) (by decide +kernel)
set_option maxRecDepth 100000 in
theorem k_150 : (.static Lib.Math.max.name : Cond) ∈ WALL := wIn 465 (by decide +kernel) (by decide +kernel)
set_option maxRecDepth 100000 in
theorem k_151 : (.initialized "java/lang/Math" : Cond) ∈ WALL := wIn 32 (by decide +kernel) (by decide +kernel)
set_option maxRecDepth 100000 in
theorem k_152 : (.code Lib.Math.max.name Lib.Math.max.code 2 (some .int) : Cond) ∈ WALL := wIn 466 rfl (by decide +kernel)
set_option maxRecDepth 100000 in
theorem k_153 : (.methodLink R_RS 160 y_Gr_greatestPriority : Cond) ∈ WALL := wIn 460 (by decide +kernel) (by decide +kernel)
set_option maxRecDepth 100000 in
theorem k_154 : (.instanceMethod y_Gr_greatestPriority : Cond) ∈ WALL := wIn 461 (by decide +kernel) (by decide +kernel)
set_option maxRecDepth 100000 in
theorem k_155 : (.selects R_Gr y_Gr_greatestPriority y_Gr_greatestPriority : Cond) ∈ WALL := wIn 462 (by decide +kernel) (by decide +kernel)
set_option maxRecDepth 100000 in
theorem k_156 : (.code y_Gr_greatestPriority b_Gr_greatestPriority 5 (some .int) : Cond) ∈ WALL := wIn 463 rfl (by decide +kernel)
set_option maxRecDepth 100000 in
theorem k_157 : (.methodLink R_RS 165 y_Gr_takeAllFor : Cond) ∈ WALL := wIn 475 (by decide +kernel) (by decide +kernel)
set_option maxRecDepth 100000 in
theorem k_158 : (.instanceMethod y_Gr_takeAllFor : Cond) ∈ WALL := wIn 476 (by decide +kernel) (by decide +kernel)
set_option maxRecDepth 100000 in
theorem k_159 : (.selects R_Gr y_Gr_takeAllFor y_Gr_takeAllFor : Cond) ∈ WALL := wIn 477 (by decide +kernel) (by decide +kernel)
set_option maxRecDepth 100000 in
theorem k_160 : (.code y_Gr_takeAllFor b_Gr_takeAllFor 4 (some .int) : Cond) ∈ WALL := wIn 478 rfl (by decide +kernel)
set_option maxRecDepth 100000 in
theorem k_161 : (.methodLink R_RS 173 y_Gr_freeAllOf : Cond) ∈ WALL := wIn 487 (by decide +kernel) (by decide +kernel)
set_option maxRecDepth 100000 in
theorem k_162 : (.instanceMethod y_Gr_freeAllOf : Cond) ∈ WALL := wIn 488 (by decide +kernel) (by decide +kernel)
set_option maxRecDepth 100000 in
theorem k_163 : (.selects R_Gr y_Gr_freeAllOf y_Gr_freeAllOf : Cond) ∈ WALL := wIn 489 (by decide +kernel) (by decide +kernel)
set_option maxRecDepth 100000 in
theorem k_164 : (.code y_Gr_freeAllOf b_Gr_freeAllOf 4 (some .int) : Cond) ∈ WALL := wIn 490 rfl (by decide +kernel)
set_option maxRecDepth 100000 in
theorem k_165 : (.methodLink R_RS 181 y_Gr_endAllBy : Cond) ∈ WALL := wIn 506 (by decide +kernel) (by decide +kernel)
set_option maxRecDepth 100000 in
theorem k_166 : (.instanceMethod y_Gr_endAllBy : Cond) ∈ WALL := wIn 507 (by decide +kernel) (by decide +kernel)
set_option maxRecDepth 100000 in
theorem k_167 : (.selects R_Gr y_Gr_endAllBy y_Gr_endAllBy : Cond) ∈ WALL := wIn 508 (by decide +kernel) (by decide +kernel)
set_option maxRecDepth 100000 in
theorem k_168 : (.code y_Gr_endAllBy b_Gr_endAllBy 4 (some .int) : Cond) ∈ WALL := wIn 509 rfl (by decide +kernel)
set_option maxRecDepth 100000 in
theorem k_169 : (.methodLink R_RS 186 y_Gr_robotGranted : Cond) ∈ WALL := wIn 518 (by decide +kernel) (by decide +kernel)
set_option maxRecDepth 100000 in
theorem k_170 : (.instanceMethod y_Gr_robotGranted : Cond) ∈ WALL := wIn 519 (by decide +kernel) (by decide +kernel)
set_option maxRecDepth 100000 in
theorem k_171 : (.selects R_Gr y_Gr_robotGranted y_Gr_robotGranted : Cond) ∈ WALL := wIn 520 (by decide +kernel) (by decide +kernel)
set_option maxRecDepth 100000 in
theorem k_172 : (.code y_Gr_robotGranted b_Gr_robotGranted 4 (some .int) : Cond) ∈ WALL := wIn 521 rfl (by decide +kernel)
set_option maxRecDepth 100000 in
theorem k_173 : (.fieldLink R_RS 191 "ReserveSteps$Grants" "piece" "[I" : Cond) ∈ WALL := wIn 88 (by decide +kernel) (by decide +kernel)
set_option maxRecDepth 100000 in
theorem k_174 : (.fieldLink R_RS 192 "ReserveSteps$Grants" "from" "[I" : Cond) ∈ WALL := wIn 90 (by decide +kernel) (by decide +kernel)
set_option maxRecDepth 100000 in
theorem k_175 : (.fieldLink R_RS 195 "ReserveSteps$Grants" "to" "[I" : Cond) ∈ WALL := wIn 92 (by decide +kernel) (by decide +kernel)
set_option maxRecDepth 100000 in
theorem k_176 : (.methodLink R_Gr 62 y_Gr_areMeeting : Cond) ∈ WALL := wIn 151 (by decide +kernel) (by decide +kernel)
set_option maxRecDepth 100000 in
theorem k_177 : (.methodLink R_RS 203 y_Gr_allLive : Cond) ∈ WALL := wIn 135 (by decide +kernel) (by decide +kernel)
set_option maxRecDepth 100000 in
theorem k_178 : (.instanceMethod y_Gr_allLive : Cond) ∈ WALL := wIn 136 (by decide +kernel) (by decide +kernel)
set_option maxRecDepth 100000 in
theorem k_179 : (.selects R_Gr y_Gr_allLive y_Gr_allLive : Cond) ∈ WALL := wIn 137 (by decide +kernel) (by decide +kernel)
set_option maxRecDepth 100000 in
theorem k_180 : (.code y_Gr_allLive b_Gr_allLive 3 (some .int) : Cond) ∈ WALL := wIn 138 rfl (by decide +kernel)
set_option maxRecDepth 100000 in
theorem k_181 : (.methodLink R_RS 207 y_Rb_allWaiting : Cond) ∈ WALL := wIn 143 (by decide +kernel) (by decide +kernel)
set_option maxRecDepth 100000 in
theorem k_182 : (.instanceMethod y_Rb_allWaiting : Cond) ∈ WALL := wIn 144 (by decide +kernel) (by decide +kernel)
set_option maxRecDepth 100000 in
theorem k_183 : (.selects R_Rb y_Rb_allWaiting y_Rb_allWaiting : Cond) ∈ WALL := wIn 145 (by decide +kernel) (by decide +kernel)
set_option maxRecDepth 100000 in
theorem k_184 : (.code y_Rb_allWaiting b_Rb_allWaiting 3 (some .int) : Cond) ∈ WALL := wIn 146 rfl (by decide +kernel)
set_option maxRecDepth 100000 in
theorem k_185 : (.methodLink R_RS 210 y_Gr_livePairsMeeting : Cond) ∈ WALL := wIn 147 (by decide +kernel) (by decide +kernel)
set_option maxRecDepth 100000 in
theorem k_186 : (.instanceMethod y_Gr_livePairsMeeting : Cond) ∈ WALL := wIn 148 (by decide +kernel) (by decide +kernel)
set_option maxRecDepth 100000 in
theorem k_187 : (.selects R_Gr y_Gr_livePairsMeeting y_Gr_livePairsMeeting : Cond) ∈ WALL := wIn 149 (by decide +kernel) (by decide +kernel)
set_option maxRecDepth 100000 in
theorem k_188 : (.code y_Gr_livePairsMeeting b_Gr_livePairsMeeting 4 (some .int) : Cond) ∈ WALL := wIn 150 rfl (by decide +kernel)
set_option maxRecDepth 100000 in
theorem k_189 : (.methodLink R_Rb 3 Lib.objectInit : Cond) ∈ WALL := wIn 46 (by decide +kernel) (by decide +kernel)
set_option maxRecDepth 100000 in
theorem k_190 : (.instanceMethod Lib.objectInit : Cond) ∈ WALL := wIn 39 (by decide +kernel) (by decide +kernel)
set_option maxRecDepth 100000 in
theorem k_191 : (.code Lib.objectInit ⟨#[0xb1]⟩ 1 none : Cond) ∈ WALL := wIn 40 rfl (by decide +kernel)
set_option maxRecDepth 100000 in
theorem k_192 : (.arrayClass .int : Cond) ∈ WALL := wIn 75 (by decide +kernel) (by decide +kernel)
set_option maxRecDepth 100000 in
theorem k_193 : (.arrayClass .boolean : Cond) ∈ WALL := wIn 76 (by decide +kernel) (by decide +kernel)
set_option maxRecDepth 100000 in
theorem k_194 : (.methodLink R_Gr 3 Lib.objectInit : Cond) ∈ WALL := wIn 82 (by decide +kernel) (by decide +kernel)
set_option maxRecDepth 100000 in
theorem k_195 : (.methodLink R_RS 1 Lib.objectInit : Cond) ∈ WALL := wIn 38 (by decide +kernel) (by decide +kernel)
set_option maxRecDepth 100000 in
theorem k_196 : (.classLink R_RS 24 R_Rb : Cond) ∈ WALL := wIn 41 (by decide +kernel) (by decide +kernel)
set_option maxRecDepth 100000 in
theorem k_197 : (.instantiable R_Rb 7 : Cond) ∈ WALL := wIn 42 (by decide +kernel) (by decide +kernel)
set_option maxRecDepth 100000 in
theorem k_198 : (.code y_Rb_init b_Rb_init 1 none : Cond) ∈ WALL := wIn 45 rfl (by decide +kernel)
set_option maxRecDepth 100000 in
theorem k_199 : (.instanceMethod y_Rb_init : Cond) ∈ WALL := wIn 44 (by decide +kernel) (by decide +kernel)
set_option maxRecDepth 100000 in
theorem k_200 : (.classLink R_RS 31 R_Gr : Cond) ∈ WALL := wIn 77 (by decide +kernel) (by decide +kernel)
set_option maxRecDepth 100000 in
theorem k_201 : (.instantiable R_Gr 7 : Cond) ∈ WALL := wIn 78 (by decide +kernel) (by decide +kernel)
set_option maxRecDepth 100000 in
theorem k_202 : (.code y_Gr_init b_Gr_init 1 none : Cond) ∈ WALL := wIn 81 rfl (by decide +kernel)
set_option maxRecDepth 100000 in
theorem k_203 : (.instanceMethod y_Gr_init : Cond) ∈ WALL := wIn 80 (by decide +kernel) (by decide +kernel)
set_option maxRecDepth 100000 in
theorem k_204 : (.methodLink R_law 7 y_RS_piece : Cond) ∈ WALL := wIn 163 (by decide +kernel) (by decide +kernel)
set_option maxRecDepth 100000 in
theorem k_205 : (.instanceMethod y_RS_piece : Cond) ∈ WALL := wIn 164 (by decide +kernel) (by decide +kernel)
set_option maxRecDepth 100000 in
theorem k_206 : (.selects R_RS y_RS_piece y_RS_piece : Cond) ∈ WALL := wIn 165 (by decide +kernel) (by decide +kernel)
set_option maxRecDepth 100000 in
theorem k_207 : (.code y_RS_piece b_RS_piece 1 (some .int) : Cond) ∈ WALL := wIn 166 rfl (by decide +kernel)
set_option maxRecDepth 100000 in
theorem k_208 : (.classLink R_law 13 "java/lang/UnsupportedOperationException" : Cond) ∈ WALL := wIn 162 (by decide +kernel) (by decide +kernel)
set_option maxRecDepth 100000 in
theorem k_209 : (.methodLink R_law 15 y_RS_link : Cond) ∈ WALL := wIn 241 (by decide +kernel) (by decide +kernel)
set_option maxRecDepth 100000 in
theorem k_210 : (.instanceMethod y_RS_link : Cond) ∈ WALL := wIn 242 (by decide +kernel) (by decide +kernel)
set_option maxRecDepth 100000 in
theorem k_211 : (.selects R_RS y_RS_link y_RS_link : Cond) ∈ WALL := wIn 243 (by decide +kernel) (by decide +kernel)
set_option maxRecDepth 100000 in
theorem k_212 : (.code y_RS_link b_RS_link 4 (some .int) : Cond) ∈ WALL := wIn 244 rfl (by decide +kernel)
set_option maxRecDepth 100000 in
theorem k_213 : (.classLink R_law 19 "java/util/NoSuchElementException" : Cond) ∈ WALL := wIn 239 (by decide +kernel) (by decide +kernel)
set_option maxRecDepth 100000 in
theorem k_214 : (.classLink R_law 21 "java/lang/IllegalArgumentException" : Cond) ∈ WALL := wIn 240 (by decide +kernel) (by decide +kernel)
set_option maxRecDepth 100000 in
theorem k_215 : (.methodLink R_law 23 y_RS_robot : Cond) ∈ WALL := wIn 291 (by decide +kernel) (by decide +kernel)
set_option maxRecDepth 100000 in
theorem k_216 : (.instanceMethod y_RS_robot : Cond) ∈ WALL := wIn 292 (by decide +kernel) (by decide +kernel)
set_option maxRecDepth 100000 in
theorem k_217 : (.selects R_RS y_RS_robot y_RS_robot : Cond) ∈ WALL := wIn 293 (by decide +kernel) (by decide +kernel)
set_option maxRecDepth 100000 in
theorem k_218 : (.code y_RS_robot b_RS_robot 3 (some .int) : Cond) ∈ WALL := wIn 294 rfl (by decide +kernel)
set_option maxRecDepth 100000 in
theorem k_219 : (.classLink R_law 27 "java/lang/IllegalStateException" : Cond) ∈ WALL := wIn 290 (by decide +kernel) (by decide +kernel)
set_option maxRecDepth 100000 in
theorem k_220 : (.methodLink R_law 29 y_RS_ask : Cond) ∈ WALL := wIn 323 (by decide +kernel) (by decide +kernel)
set_option maxRecDepth 100000 in
theorem k_221 : (.instanceMethod y_RS_ask : Cond) ∈ WALL := wIn 324 (by decide +kernel) (by decide +kernel)
set_option maxRecDepth 100000 in
theorem k_222 : (.selects R_RS y_RS_ask y_RS_ask : Cond) ∈ WALL := wIn 325 (by decide +kernel) (by decide +kernel)
set_option maxRecDepth 100000 in
theorem k_223 : (.code y_RS_ask b_RS_ask 7 (some .int) : Cond) ∈ WALL := wIn 326 rfl (by decide +kernel)
set_option maxRecDepth 100000 in
theorem k_224 : (.methodLink R_law 33 y_RS_free : Cond) ∈ WALL := wIn 385 (by decide +kernel) (by decide +kernel)
set_option maxRecDepth 100000 in
theorem k_225 : (.instanceMethod y_RS_free : Cond) ∈ WALL := wIn 386 (by decide +kernel) (by decide +kernel)
set_option maxRecDepth 100000 in
theorem k_226 : (.selects R_RS y_RS_free y_RS_free : Cond) ∈ WALL := wIn 387 (by decide +kernel) (by decide +kernel)
set_option maxRecDepth 100000 in
theorem k_227 : (.code y_RS_free b_RS_free 2 (some .int) : Cond) ∈ WALL := wIn 388 rfl (by decide +kernel)
set_option maxRecDepth 100000 in
theorem k_228 : (.methodLink R_law 37 y_RS_meets : Cond) ∈ WALL := wIn 407 (by decide +kernel) (by decide +kernel)
set_option maxRecDepth 100000 in
theorem k_229 : (.instanceMethod y_RS_meets : Cond) ∈ WALL := wIn 408 (by decide +kernel) (by decide +kernel)
set_option maxRecDepth 100000 in
theorem k_230 : (.selects R_RS y_RS_meets y_RS_meets : Cond) ∈ WALL := wIn 409 (by decide +kernel) (by decide +kernel)
set_option maxRecDepth 100000 in
theorem k_231 : (.code y_RS_meets b_RS_meets 3 (some .boolean) : Cond) ∈ WALL := wIn 410 rfl (by decide +kernel)
set_option maxRecDepth 100000 in
theorem k_232 : (.methodLink R_law 41 y_RS_step : Cond) ∈ WALL := wIn 415 (by decide +kernel) (by decide +kernel)
set_option maxRecDepth 100000 in
theorem k_233 : (.instanceMethod y_RS_step : Cond) ∈ WALL := wIn 416 (by decide +kernel) (by decide +kernel)
set_option maxRecDepth 100000 in
theorem k_234 : (.selects R_RS y_RS_step y_RS_step : Cond) ∈ WALL := wIn 417 (by decide +kernel) (by decide +kernel)
set_option maxRecDepth 100000 in
theorem k_235 : (.code y_RS_step b_RS_step 4 (some .int) : Cond) ∈ WALL := wIn 418 rfl (by decide +kernel)
set_option maxRecDepth 100000 in
theorem k_236 : (.methodLink R_law 45 y_RS_pull : Cond) ∈ WALL := wIn 436 (by decide +kernel) (by decide +kernel)
set_option maxRecDepth 100000 in
theorem k_237 : (.instanceMethod y_RS_pull : Cond) ∈ WALL := wIn 437 (by decide +kernel) (by decide +kernel)
set_option maxRecDepth 100000 in
theorem k_238 : (.selects R_RS y_RS_pull y_RS_pull : Cond) ∈ WALL := wIn 438 (by decide +kernel) (by decide +kernel)
set_option maxRecDepth 100000 in
theorem k_239 : (.code y_RS_pull b_RS_pull 3 (some .int) : Cond) ∈ WALL := wIn 439 rfl (by decide +kernel)
set_option maxRecDepth 100000 in
theorem k_240 : (.methodLink R_law 48 y_RS_await : Cond) ∈ WALL := wIn 444 (by decide +kernel) (by decide +kernel)
set_option maxRecDepth 100000 in
theorem k_241 : (.instanceMethod y_RS_await : Cond) ∈ WALL := wIn 445 (by decide +kernel) (by decide +kernel)
set_option maxRecDepth 100000 in
theorem k_242 : (.selects R_RS y_RS_await y_RS_await : Cond) ∈ WALL := wIn 446 (by decide +kernel) (by decide +kernel)
set_option maxRecDepth 100000 in
theorem k_243 : (.code y_RS_await b_RS_await 4 (some .int) : Cond) ∈ WALL := wIn 447 rfl (by decide +kernel)
set_option maxRecDepth 100000 in
theorem k_244 : (.methodLink R_law 51 y_RS_next : Cond) ∈ WALL := wIn 456 (by decide +kernel) (by decide +kernel)
set_option maxRecDepth 100000 in
theorem k_245 : (.instanceMethod y_RS_next : Cond) ∈ WALL := wIn 457 (by decide +kernel) (by decide +kernel)
set_option maxRecDepth 100000 in
theorem k_246 : (.selects R_RS y_RS_next y_RS_next : Cond) ∈ WALL := wIn 458 (by decide +kernel) (by decide +kernel)
set_option maxRecDepth 100000 in
theorem k_247 : (.code y_RS_next b_RS_next 6 (some .int) : Cond) ∈ WALL := wIn 459 rfl (by decide +kernel)
set_option maxRecDepth 100000 in
theorem k_248 : (.methodLink R_law 54 y_RS_zone : Cond) ∈ WALL := wIn 470 (by decide +kernel) (by decide +kernel)
set_option maxRecDepth 100000 in
theorem k_249 : (.instanceMethod y_RS_zone : Cond) ∈ WALL := wIn 471 (by decide +kernel) (by decide +kernel)
set_option maxRecDepth 100000 in
theorem k_250 : (.selects R_RS y_RS_zone y_RS_zone : Cond) ∈ WALL := wIn 472 (by decide +kernel) (by decide +kernel)
set_option maxRecDepth 100000 in
theorem k_251 : (.code y_RS_zone b_RS_zone 3 (some .int) : Cond) ∈ WALL := wIn 473 rfl (by decide +kernel)
set_option maxRecDepth 100000 in
theorem k_252 : (.methodLink R_law 57 y_RS_halt : Cond) ∈ WALL := wIn 482 (by decide +kernel) (by decide +kernel)
set_option maxRecDepth 100000 in
theorem k_253 : (.instanceMethod y_RS_halt : Cond) ∈ WALL := wIn 483 (by decide +kernel) (by decide +kernel)
set_option maxRecDepth 100000 in
theorem k_254 : (.selects R_RS y_RS_halt y_RS_halt : Cond) ∈ WALL := wIn 484 (by decide +kernel) (by decide +kernel)
set_option maxRecDepth 100000 in
theorem k_255 : (.code y_RS_halt b_RS_halt 3 (some .int) : Cond) ∈ WALL := wIn 485 rfl (by decide +kernel)
set_option maxRecDepth 100000 in
theorem k_256 : (.methodLink R_law 60 y_RS_report : Cond) ∈ WALL := wIn 494 (by decide +kernel) (by decide +kernel)
set_option maxRecDepth 100000 in
theorem k_257 : (.instanceMethod y_RS_report : Cond) ∈ WALL := wIn 495 (by decide +kernel) (by decide +kernel)
set_option maxRecDepth 100000 in
theorem k_258 : (.selects R_RS y_RS_report y_RS_report : Cond) ∈ WALL := wIn 496 (by decide +kernel) (by decide +kernel)
set_option maxRecDepth 100000 in
theorem k_259 : (.code y_RS_report b_RS_report 3 (some .boolean) : Cond) ∈ WALL := wIn 497 rfl (by decide +kernel)
set_option maxRecDepth 100000 in
theorem k_260 : (.methodLink R_law 64 y_RS_pass : Cond) ∈ WALL := wIn 501 (by decide +kernel) (by decide +kernel)
set_option maxRecDepth 100000 in
theorem k_261 : (.instanceMethod y_RS_pass : Cond) ∈ WALL := wIn 502 (by decide +kernel) (by decide +kernel)
set_option maxRecDepth 100000 in
theorem k_262 : (.selects R_RS y_RS_pass y_RS_pass : Cond) ∈ WALL := wIn 503 (by decide +kernel) (by decide +kernel)
set_option maxRecDepth 100000 in
theorem k_263 : (.code y_RS_pass b_RS_pass 2 (some .int) : Cond) ∈ WALL := wIn 504 rfl (by decide +kernel)
set_option maxRecDepth 100000 in
theorem k_264 : (.methodLink R_law 67 y_RS_holder : Cond) ∈ WALL := wIn 513 (by decide +kernel) (by decide +kernel)
set_option maxRecDepth 100000 in
theorem k_265 : (.instanceMethod y_RS_holder : Cond) ∈ WALL := wIn 514 (by decide +kernel) (by decide +kernel)
set_option maxRecDepth 100000 in
theorem k_266 : (.selects R_RS y_RS_holder y_RS_holder : Cond) ∈ WALL := wIn 515 (by decide +kernel) (by decide +kernel)
set_option maxRecDepth 100000 in
theorem k_267 : (.code y_RS_holder b_RS_holder 4 (some .int) : Cond) ∈ WALL := wIn 516 rfl (by decide +kernel)
set_option maxRecDepth 100000 in
theorem k_268 : (.methodLink R_law 70 y_RS_told : Cond) ∈ WALL := wIn 525 (by decide +kernel) (by decide +kernel)
set_option maxRecDepth 100000 in
theorem k_269 : (.instanceMethod y_RS_told : Cond) ∈ WALL := wIn 526 (by decide +kernel) (by decide +kernel)
set_option maxRecDepth 100000 in
theorem k_270 : (.selects R_RS y_RS_told y_RS_told : Cond) ∈ WALL := wIn 527 (by decide +kernel) (by decide +kernel)
set_option maxRecDepth 100000 in
theorem k_271 : (.code y_RS_told b_RS_told 3 (some .int) : Cond) ∈ WALL := wIn 528 rfl (by decide +kernel)
set_option maxRecDepth 100000 in
theorem k_272 : (.methodLink R_law 73 y_RS_grant : Cond) ∈ WALL := wIn 533 (by decide +kernel) (by decide +kernel)
set_option maxRecDepth 100000 in
theorem k_273 : (.instanceMethod y_RS_grant : Cond) ∈ WALL := wIn 534 (by decide +kernel) (by decide +kernel)
set_option maxRecDepth 100000 in
theorem k_274 : (.selects R_RS y_RS_grant y_RS_grant : Cond) ∈ WALL := wIn 535 (by decide +kernel) (by decide +kernel)
set_option maxRecDepth 100000 in
theorem k_275 : (.code y_RS_grant b_RS_grant 3 (some .int) : Cond) ∈ WALL := wIn 536 rfl (by decide +kernel)
def w_RS_needPiece : List Cond := .code y_RS_needPiece b_RS_needPiece 2 none :: WALL
def w_RS_needRobot : List Cond := .code y_RS_needRobot b_RS_needRobot 2 none :: WALL
def w_RS_needGrant : List Cond := .code y_RS_needGrant b_RS_needGrant 2 none :: WALL
def w_RS_needSpan : List Cond := .code y_RS_needSpan b_RS_needSpan 3 none :: WALL
def w_RS_needPriority : List Cond := .code y_RS_needPriority b_RS_needPriority 2 none :: WALL
def w_RS_piece : List Cond := .code y_RS_piece b_RS_piece 1 (some .int) :: WALL
def w_RS_link : List Cond := .code y_RS_link b_RS_link 4 (some .int) :: WALL
def w_Rb_standingOn : List Cond := .code y_Rb_standingOn b_Rb_standingOn 3 (some .int) :: WALL
def w_Rb_add : List Cond := .code y_Rb_add b_Rb_add 5 (some .int) :: WALL
def w_RS_robot : List Cond := .code y_RS_robot b_RS_robot 3 (some .int) :: WALL
def w_Rb_isSilent : List Cond := .code y_Rb_isSilent b_Rb_isSilent 3 (some .boolean) :: WALL
def w_RS_needActive : List Cond := .code y_RS_needActive b_RS_needActive 2 none :: WALL
def w_Rb_otherStandsOn : List Cond := .code y_Rb_otherStandsOn b_Rb_otherStandsOn 4 (some .boolean) :: WALL
def w_Gr_hasBegun : List Cond := .code y_Gr_hasBegun b_Gr_hasBegun 3 (some .boolean) :: WALL
def w_Gr_isLive : List Cond := .code y_Gr_isLive b_Gr_isLive 2 (some .boolean) :: WALL
def w_Gr_isLiveFor : List Cond := .code y_Gr_isLiveFor b_Gr_isLiveFor 3 (some .boolean) :: WALL
def w_Gr_sharesTime : List Cond := .code y_Gr_sharesTime b_Gr_sharesTime 4 (some .boolean) :: WALL
def w_Gr_isRival : List Cond := .code y_Gr_isRival b_Gr_isRival 6 (some .boolean) :: WALL
def w_RS_firstBar : List Cond := .code y_RS_firstBar b_RS_firstBar 8 (some .int) :: WALL
def w_Gr_takeFromOthers : List Cond := .code y_Gr_takeFromOthers b_Gr_takeFromOthers 6 none :: WALL
def w_Gr_add : List Cond := .code y_Gr_add b_Gr_add 6 (some .int) :: WALL
def w_RS_ask : List Cond := .code y_RS_ask b_RS_ask 7 (some .int) :: WALL
def w_Gr_isLiveOf : List Cond := .code y_Gr_isLiveOf b_Gr_isLiveOf 3 (some .boolean) :: WALL
def w_Gr_liveOf : List Cond := .code y_Gr_liveOf b_Gr_liveOf 4 (some .int) :: WALL
def w_RS_free : List Cond := .code y_RS_free b_RS_free 2 (some .int) :: WALL
def w_Gr_areMeeting : List Cond := .code y_Gr_areMeeting b_Gr_areMeeting 3 (some .boolean) :: WALL
def w_RS_meets : List Cond := .code y_RS_meets b_RS_meets 3 (some .boolean) :: WALL
def w_RS_areLinked : List Cond := .code y_RS_areLinked b_RS_areLinked 3 (some .boolean) :: WALL
def w_Gr_firstBegun : List Cond := .code y_Gr_firstBegun b_Gr_firstBegun 5 (some .int) :: WALL
def w_Rb_moveTo : List Cond := .code y_Rb_moveTo b_Rb_moveTo 3 none :: WALL
def w_RS_step : List Cond := .code y_RS_step b_RS_step 4 (some .int) :: WALL
def w_RS_pull : List Cond := .code y_RS_pull b_RS_pull 3 (some .int) :: WALL
def w_Rb_ringByWaiting : List Cond := .code y_Rb_ringByWaiting b_Rb_ringByWaiting 6 (some .int) :: WALL
def w_RS_await : List Cond := .code y_RS_await b_RS_await 4 (some .int) :: WALL
def w_Gr_greatestPriority : List Cond := .code y_Gr_greatestPriority b_Gr_greatestPriority 5 (some .int) :: WALL
def w_RS_next : List Cond := .code y_RS_next b_RS_next 6 (some .int) :: WALL
def w_Gr_takeAllFor : List Cond := .code y_Gr_takeAllFor b_Gr_takeAllFor 4 (some .int) :: WALL
def w_RS_zone : List Cond := .code y_RS_zone b_RS_zone 3 (some .int) :: WALL
def w_Gr_freeAllOf : List Cond := .code y_Gr_freeAllOf b_Gr_freeAllOf 4 (some .int) :: WALL
def w_RS_halt : List Cond := .code y_RS_halt b_RS_halt 3 (some .int) :: WALL
def w_RS_report : List Cond := .code y_RS_report b_RS_report 3 (some .boolean) :: WALL
def w_Gr_endAllBy : List Cond := .code y_Gr_endAllBy b_Gr_endAllBy 4 (some .int) :: WALL
def w_RS_pass : List Cond := .code y_RS_pass b_RS_pass 2 (some .int) :: WALL
def w_Gr_robotGranted : List Cond := .code y_Gr_robotGranted b_Gr_robotGranted 4 (some .int) :: WALL
def w_RS_holder : List Cond := .code y_RS_holder b_RS_holder 4 (some .int) :: WALL
def w_RS_told : List Cond := .code y_RS_told b_RS_told 3 (some .int) :: WALL
def w_RS_grant : List Cond := .code y_RS_grant b_RS_grant 3 (some .int) :: WALL
def w_Gr_allLive : List Cond := .code y_Gr_allLive b_Gr_allLive 3 (some .int) :: WALL
def w_Rb_allWaiting : List Cond := .code y_Rb_allWaiting b_Rb_allWaiting 3 (some .int) :: WALL
def w_Gr_livePairsMeeting : List Cond := .code y_Gr_livePairsMeeting b_Gr_livePairsMeeting 4 (some .int) :: WALL
def w_RS_count : List Cond := .code y_RS_count b_RS_count 2 (some .int) :: WALL
def w_bitCount : List Cond := .code y_bitCount b_bitCount 1 (some .int) :: WALL
def w_RS_init : List Cond := .code y_RS_init b_RS_init 1 none :: WALL
def w_Rb_init : List Cond := .code y_Rb_init b_Rb_init 1 none :: WALL
def w_Gr_init : List Cond := .code y_Gr_init b_Gr_init 1 none :: WALL
def w_Lw_piece : List Cond := .codeWith y_Lw_piece b_Lw_piece 3 (some .int) [(0, 8, 11, 13)] :: WALL
def w_Lw_link : List Cond := .codeWith y_Lw_link b_Lw_link 6 (some .int) [(0, 12, 15, 19), (0, 12, 19, 21)] :: WALL
def w_Lw_robot : List Cond := .codeWith y_Lw_robot b_Lw_robot 5 (some .int) [(0, 10, 13, 19), (0, 10, 17, 27), (0, 10, 21, 13)] :: WALL
def w_Lw_ask : List Cond := .codeWith y_Lw_ask b_Lw_ask 8 (some .int) [(0, 16, 19, 19), (0, 16, 23, 21), (0, 16, 27, 27), (0, 16, 31, 13)] :: WALL
def w_Lw_free : List Cond := .codeWith y_Lw_free b_Lw_free 4 (some .int) [(0, 9, 12, 19), (0, 9, 15, 27)] :: WALL
def w_Lw_meets : List Cond := .codeWith y_Lw_meets b_Lw_meets 5 (some .int) [(0, 17, 20, 19)] :: WALL
def w_Lw_step : List Cond := .codeWith y_Lw_step b_Lw_step 5 (some .int) [(0, 10, 13, 19), (0, 10, 17, 21), (0, 10, 21, 27)] :: WALL
def w_Lw_pull : List Cond := .codeWith y_Lw_pull b_Lw_pull 4 (some .int) [(0, 9, 12, 19), (0, 9, 15, 27)] :: WALL
def w_Lw_await : List Cond := .codeWith y_Lw_await b_Lw_await 5 (some .int) [(0, 10, 13, 19), (0, 10, 17, 27)] :: WALL
def w_Lw_next : List Cond := .codeWith y_Lw_next b_Lw_next 4 (some .int) [(0, 9, 12, 19)] :: WALL
def w_Lw_zone : List Cond := .codeWith y_Lw_zone b_Lw_zone 5 (some .int) [(0, 10, 13, 19), (0, 10, 17, 27)] :: WALL
def w_Lw_halt : List Cond := .codeWith y_Lw_halt b_Lw_halt 5 (some .int) [(0, 10, 13, 19), (0, 10, 17, 27)] :: WALL
def w_Lw_report : List Cond := .codeWith y_Lw_report b_Lw_report 4 (some .int) [(0, 16, 19, 19)] :: WALL
def w_Lw_pass : List Cond := .codeWith y_Lw_pass b_Lw_pass 4 (some .int) [(0, 9, 12, 21)] :: WALL
def w_Lw_holder : List Cond := .codeWith y_Lw_holder b_Lw_holder 5 (some .int) [(0, 10, 13, 19), (0, 10, 17, 21)] :: WALL
def w_Lw_told : List Cond := .codeWith y_Lw_told b_Lw_told 5 (some .int) [(0, 10, 13, 19), (0, 10, 17, 21)] :: WALL
def w_Lw_grant : List Cond := .codeWith y_Lw_grant b_Lw_grant 5 (some .int) [(0, 10, 13, 19), (0, 10, 17, 21)] :: WALL
abbrev classes : List vw_C := [(R_RS, F_RS, 6), (R_Rb, F_Rb, 7), (R_Gr, F_Gr, 7)]
end
section
theorem d_RS_needPiece_0 : decode b_RS_needPiece 0 = .ok (.iload_n 1, 1) := by decide +kernel
theorem d_RS_needPiece_1 : decode b_RS_needPiece 1 = .ok (.ifCond .lt 11, 3) := by decide +kernel
theorem d_RS_needPiece_4 : decode b_RS_needPiece 4 = .ok (.iload_n 1, 1) := by decide +kernel
theorem d_RS_needPiece_5 : decode b_RS_needPiece 5 = .ok (.aload_n 0, 1) := by decide +kernel
theorem d_RS_needPiece_6 : decode b_RS_needPiece 6 = .ok (.getfield 13, 3) := by decide +kernel
theorem d_RS_needPiece_9 : decode b_RS_needPiece 9 = .ok (.if_icmp .lt 13, 3) := by decide +kernel
theorem d_RS_needPiece_12 : decode b_RS_needPiece 12 = .ok (.new 213, 3) := by decide +kernel
theorem d_RS_needPiece_15 : decode b_RS_needPiece 15 = .ok (.dup, 1) := by decide +kernel
theorem d_RS_needPiece_16 : decode b_RS_needPiece 16 = .ok (.ldc 215, 2) := by decide +kernel
theorem d_RS_needPiece_18 : decode b_RS_needPiece 18 = .ok (.invokespecial 217, 3) := by decide +kernel
theorem d_RS_needPiece_21 : decode b_RS_needPiece 21 = .ok (.athrow, 1) := by decide +kernel
theorem d_RS_needPiece_22 : decode b_RS_needPiece 22 = .ok (.return_, 1) := by decide +kernel
theorem d_RS_needRobot_0 : decode b_RS_needRobot 0 = .ok (.iload_n 1, 1) := by decide +kernel
theorem d_RS_needRobot_1 : decode b_RS_needRobot 1 = .ok (.ifCond .lt 14, 3) := by decide +kernel
theorem d_RS_needRobot_4 : decode b_RS_needRobot 4 = .ok (.iload_n 1, 1) := by decide +kernel
theorem d_RS_needRobot_5 : decode b_RS_needRobot 5 = .ok (.aload_n 0, 1) := by decide +kernel
theorem d_RS_needRobot_6 : decode b_RS_needRobot 6 = .ok (.getfield 27, 3) := by decide +kernel
theorem d_RS_needRobot_9 : decode b_RS_needRobot 9 = .ok (.getfield 68, 3) := by decide +kernel
theorem d_RS_needRobot_12 : decode b_RS_needRobot 12 = .ok (.if_icmp .lt 13, 3) := by decide +kernel
theorem d_RS_needRobot_15 : decode b_RS_needRobot 15 = .ok (.new 213, 3) := by decide +kernel
theorem d_RS_needRobot_18 : decode b_RS_needRobot 18 = .ok (.dup, 1) := by decide +kernel
theorem d_RS_needRobot_19 : decode b_RS_needRobot 19 = .ok (.ldc 218, 2) := by decide +kernel
theorem d_RS_needRobot_21 : decode b_RS_needRobot 21 = .ok (.invokespecial 217, 3) := by decide +kernel
theorem d_RS_needRobot_24 : decode b_RS_needRobot 24 = .ok (.athrow, 1) := by decide +kernel
theorem d_RS_needRobot_25 : decode b_RS_needRobot 25 = .ok (.return_, 1) := by decide +kernel
theorem d_RS_needGrant_0 : decode b_RS_needGrant 0 = .ok (.iload_n 1, 1) := by decide +kernel
theorem d_RS_needGrant_1 : decode b_RS_needGrant 1 = .ok (.iconst 1, 1) := by decide +kernel
theorem d_RS_needGrant_2 : decode b_RS_needGrant 2 = .ok (.if_icmp .lt 14, 3) := by decide +kernel
theorem d_RS_needGrant_5 : decode b_RS_needGrant 5 = .ok (.iload_n 1, 1) := by decide +kernel
theorem d_RS_needGrant_6 : decode b_RS_needGrant 6 = .ok (.aload_n 0, 1) := by decide +kernel
theorem d_RS_needGrant_7 : decode b_RS_needGrant 7 = .ok (.getfield 34, 3) := by decide +kernel
theorem d_RS_needGrant_10 : decode b_RS_needGrant 10 = .ok (.getfield 90, 3) := by decide +kernel
theorem d_RS_needGrant_13 : decode b_RS_needGrant 13 = .ok (.if_icmp .le 13, 3) := by decide +kernel
theorem d_RS_needGrant_16 : decode b_RS_needGrant 16 = .ok (.new 213, 3) := by decide +kernel
theorem d_RS_needGrant_19 : decode b_RS_needGrant 19 = .ok (.dup, 1) := by decide +kernel
theorem d_RS_needGrant_20 : decode b_RS_needGrant 20 = .ok (.ldc 220, 2) := by decide +kernel
theorem d_RS_needGrant_22 : decode b_RS_needGrant 22 = .ok (.invokespecial 217, 3) := by decide +kernel
theorem d_RS_needGrant_25 : decode b_RS_needGrant 25 = .ok (.athrow, 1) := by decide +kernel
theorem d_RS_needGrant_26 : decode b_RS_needGrant 26 = .ok (.return_, 1) := by decide +kernel
theorem d_RS_needSpan_0 : decode b_RS_needSpan 0 = .ok (.iload_n 1, 1) := by decide +kernel
theorem d_RS_needSpan_1 : decode b_RS_needSpan 1 = .ok (.aload_n 0, 1) := by decide +kernel
theorem d_RS_needSpan_2 : decode b_RS_needSpan 2 = .ok (.getfield 7, 3) := by decide +kernel
theorem d_RS_needSpan_5 : decode b_RS_needSpan 5 = .ok (.if_icmp .lt 19, 3) := by decide +kernel
theorem d_RS_needSpan_8 : decode b_RS_needSpan 8 = .ok (.iload_n 2, 1) := by decide +kernel
theorem d_RS_needSpan_9 : decode b_RS_needSpan 9 = .ok (.iload_n 1, 1) := by decide +kernel
theorem d_RS_needSpan_10 : decode b_RS_needSpan 10 = .ok (.if_icmp .le 14, 3) := by decide +kernel
theorem d_RS_needSpan_13 : decode b_RS_needSpan 13 = .ok (.iload_n 2, 1) := by decide +kernel
theorem d_RS_needSpan_14 : decode b_RS_needSpan 14 = .ok (.aload_n 0, 1) := by decide +kernel
theorem d_RS_needSpan_15 : decode b_RS_needSpan 15 = .ok (.getfield 7, 3) := by decide +kernel
theorem d_RS_needSpan_18 : decode b_RS_needSpan 18 = .ok (.bipush 100, 2) := by decide +kernel
theorem d_RS_needSpan_20 : decode b_RS_needSpan 20 = .ok (.iadd, 1) := by decide +kernel
theorem d_RS_needSpan_21 : decode b_RS_needSpan 21 = .ok (.if_icmp .le 13, 3) := by decide +kernel
theorem d_RS_needSpan_24 : decode b_RS_needSpan 24 = .ok (.new 49, 3) := by decide +kernel
theorem d_RS_needSpan_27 : decode b_RS_needSpan 27 = .ok (.dup, 1) := by decide +kernel
theorem d_RS_needSpan_28 : decode b_RS_needSpan 28 = .ok (.ldc 222, 2) := by decide +kernel
theorem d_RS_needSpan_30 : decode b_RS_needSpan 30 = .ok (.invokespecial 53, 3) := by decide +kernel
theorem d_RS_needSpan_33 : decode b_RS_needSpan 33 = .ok (.athrow, 1) := by decide +kernel
theorem d_RS_needSpan_34 : decode b_RS_needSpan 34 = .ok (.return_, 1) := by decide +kernel
theorem d_RS_needPriority_0 : decode b_RS_needPriority 0 = .ok (.iload_n 1, 1) := by decide +kernel
theorem d_RS_needPriority_1 : decode b_RS_needPriority 1 = .ok (.iconst 1, 1) := by decide +kernel
theorem d_RS_needPriority_2 : decode b_RS_needPriority 2 = .ok (.if_icmp .lt 9, 3) := by decide +kernel
theorem d_RS_needPriority_5 : decode b_RS_needPriority 5 = .ok (.iload_n 1, 1) := by decide +kernel
theorem d_RS_needPriority_6 : decode b_RS_needPriority 6 = .ok (.bipush 9, 2) := by decide +kernel
theorem d_RS_needPriority_8 : decode b_RS_needPriority 8 = .ok (.if_icmp .le 13, 3) := by decide +kernel
theorem d_RS_needPriority_11 : decode b_RS_needPriority 11 = .ok (.new 49, 3) := by decide +kernel
theorem d_RS_needPriority_14 : decode b_RS_needPriority 14 = .ok (.dup, 1) := by decide +kernel
theorem d_RS_needPriority_15 : decode b_RS_needPriority 15 = .ok (.ldc 224, 2) := by decide +kernel
theorem d_RS_needPriority_17 : decode b_RS_needPriority 17 = .ok (.invokespecial 53, 3) := by decide +kernel
theorem d_RS_needPriority_20 : decode b_RS_needPriority 20 = .ok (.athrow, 1) := by decide +kernel
theorem d_RS_needPriority_21 : decode b_RS_needPriority 21 = .ok (.return_, 1) := by decide +kernel
theorem d_RS_piece_0 : decode b_RS_piece 0 = .ok (.aload_n 0, 1) := by decide +kernel
theorem d_RS_piece_1 : decode b_RS_piece 1 = .ok (.getfield 13, 3) := by decide +kernel
theorem d_RS_piece_4 : decode b_RS_piece 4 = .ok (.bipush 16, 2) := by decide +kernel
theorem d_RS_piece_6 : decode b_RS_piece 6 = .ok (.if_icmp .lt 13, 3) := by decide +kernel
theorem d_RS_piece_9 : decode b_RS_piece 9 = .ok (.new 38, 3) := by decide +kernel
theorem d_RS_piece_12 : decode b_RS_piece 12 = .ok (.dup, 1) := by decide +kernel
theorem d_RS_piece_13 : decode b_RS_piece 13 = .ok (.ldc 40, 2) := by decide +kernel
theorem d_RS_piece_15 : decode b_RS_piece 15 = .ok (.invokespecial 42, 3) := by decide +kernel
theorem d_RS_piece_18 : decode b_RS_piece 18 = .ok (.athrow, 1) := by decide +kernel
theorem d_RS_piece_19 : decode b_RS_piece 19 = .ok (.aload_n 0, 1) := by decide +kernel
theorem d_RS_piece_20 : decode b_RS_piece 20 = .ok (.dup, 1) := by decide +kernel
theorem d_RS_piece_21 : decode b_RS_piece 21 = .ok (.getfield 13, 3) := by decide +kernel
theorem d_RS_piece_24 : decode b_RS_piece 24 = .ok (.iconst 1, 1) := by decide +kernel
theorem d_RS_piece_25 : decode b_RS_piece 25 = .ok (.iadd, 1) := by decide +kernel
theorem d_RS_piece_26 : decode b_RS_piece 26 = .ok (.putfield 13, 3) := by decide +kernel
theorem d_RS_piece_29 : decode b_RS_piece 29 = .ok (.aload_n 0, 1) := by decide +kernel
theorem d_RS_piece_30 : decode b_RS_piece 30 = .ok (.getfield 13, 3) := by decide +kernel
theorem d_RS_piece_33 : decode b_RS_piece 33 = .ok (.iconst 1, 1) := by decide +kernel
theorem d_RS_piece_34 : decode b_RS_piece 34 = .ok (.isub, 1) := by decide +kernel
theorem d_RS_piece_35 : decode b_RS_piece 35 = .ok (.ireturn, 1) := by decide +kernel
theorem d_RS_link_0 : decode b_RS_link 0 = .ok (.aload_n 0, 1) := by decide +kernel
theorem d_RS_link_1 : decode b_RS_link 1 = .ok (.iload_n 1, 1) := by decide +kernel
theorem d_RS_link_2 : decode b_RS_link 2 = .ok (.invokevirtual 45, 3) := by decide +kernel
theorem d_RS_link_5 : decode b_RS_link 5 = .ok (.aload_n 0, 1) := by decide +kernel
theorem d_RS_link_6 : decode b_RS_link 6 = .ok (.iload_n 2, 1) := by decide +kernel
theorem d_RS_link_7 : decode b_RS_link 7 = .ok (.invokevirtual 45, 3) := by decide +kernel
theorem d_RS_link_10 : decode b_RS_link 10 = .ok (.iload_n 1, 1) := by decide +kernel
theorem d_RS_link_11 : decode b_RS_link 11 = .ok (.iload_n 2, 1) := by decide +kernel
theorem d_RS_link_12 : decode b_RS_link 12 = .ok (.if_icmp .ne 13, 3) := by decide +kernel
theorem d_RS_link_15 : decode b_RS_link 15 = .ok (.new 49, 3) := by decide +kernel
theorem d_RS_link_18 : decode b_RS_link 18 = .ok (.dup, 1) := by decide +kernel
theorem d_RS_link_19 : decode b_RS_link 19 = .ok (.ldc 51, 2) := by decide +kernel
theorem d_RS_link_21 : decode b_RS_link 21 = .ok (.invokespecial 53, 3) := by decide +kernel
theorem d_RS_link_24 : decode b_RS_link 24 = .ok (.athrow, 1) := by decide +kernel
theorem d_RS_link_25 : decode b_RS_link 25 = .ok (.iload_n 3, 1) := by decide +kernel
theorem d_RS_link_26 : decode b_RS_link 26 = .ok (.ifCond .eq 30, 3) := by decide +kernel
theorem d_RS_link_29 : decode b_RS_link 29 = .ok (.aload_n 0, 1) := by decide +kernel
theorem d_RS_link_30 : decode b_RS_link 30 = .ok (.getfield 16, 3) := by decide +kernel
theorem d_RS_link_33 : decode b_RS_link 33 = .ok (.iload_n 1, 1) := by decide +kernel
theorem d_RS_link_34 : decode b_RS_link 34 = .ok (.dup2, 1) := by decide +kernel
theorem d_RS_link_35 : decode b_RS_link 35 = .ok (.iaload, 1) := by decide +kernel
theorem d_RS_link_36 : decode b_RS_link 36 = .ok (.iconst 1, 1) := by decide +kernel
theorem d_RS_link_37 : decode b_RS_link 37 = .ok (.iload_n 2, 1) := by decide +kernel
theorem d_RS_link_38 : decode b_RS_link 38 = .ok (.ishl, 1) := by decide +kernel
theorem d_RS_link_39 : decode b_RS_link 39 = .ok (.ior, 1) := by decide +kernel
theorem d_RS_link_40 : decode b_RS_link 40 = .ok (.iastore, 1) := by decide +kernel
theorem d_RS_link_41 : decode b_RS_link 41 = .ok (.aload_n 0, 1) := by decide +kernel
theorem d_RS_link_42 : decode b_RS_link 42 = .ok (.getfield 16, 3) := by decide +kernel
theorem d_RS_link_45 : decode b_RS_link 45 = .ok (.iload_n 2, 1) := by decide +kernel
theorem d_RS_link_46 : decode b_RS_link 46 = .ok (.dup2, 1) := by decide +kernel
theorem d_RS_link_47 : decode b_RS_link 47 = .ok (.iaload, 1) := by decide +kernel
theorem d_RS_link_48 : decode b_RS_link 48 = .ok (.iconst 1, 1) := by decide +kernel
theorem d_RS_link_49 : decode b_RS_link 49 = .ok (.iload_n 1, 1) := by decide +kernel
theorem d_RS_link_50 : decode b_RS_link 50 = .ok (.ishl, 1) := by decide +kernel
theorem d_RS_link_51 : decode b_RS_link 51 = .ok (.ior, 1) := by decide +kernel
theorem d_RS_link_52 : decode b_RS_link 52 = .ok (.iastore, 1) := by decide +kernel
theorem d_RS_link_53 : decode b_RS_link 53 = .ok (.goto 31, 3) := by decide +kernel
theorem d_RS_link_56 : decode b_RS_link 56 = .ok (.aload_n 0, 1) := by decide +kernel
theorem d_RS_link_57 : decode b_RS_link 57 = .ok (.getfield 16, 3) := by decide +kernel
theorem d_RS_link_60 : decode b_RS_link 60 = .ok (.iload_n 1, 1) := by decide +kernel
theorem d_RS_link_61 : decode b_RS_link 61 = .ok (.dup2, 1) := by decide +kernel
theorem d_RS_link_62 : decode b_RS_link 62 = .ok (.iaload, 1) := by decide +kernel
theorem d_RS_link_63 : decode b_RS_link 63 = .ok (.iconst 1, 1) := by decide +kernel
theorem d_RS_link_64 : decode b_RS_link 64 = .ok (.iload_n 2, 1) := by decide +kernel
theorem d_RS_link_65 : decode b_RS_link 65 = .ok (.ishl, 1) := by decide +kernel
theorem d_RS_link_66 : decode b_RS_link 66 = .ok (.iconst (-1), 1) := by decide +kernel
theorem d_RS_link_67 : decode b_RS_link 67 = .ok (.ixor, 1) := by decide +kernel
theorem d_RS_link_68 : decode b_RS_link 68 = .ok (.iand, 1) := by decide +kernel
theorem d_RS_link_69 : decode b_RS_link 69 = .ok (.iastore, 1) := by decide +kernel
theorem d_RS_link_70 : decode b_RS_link 70 = .ok (.aload_n 0, 1) := by decide +kernel
theorem d_RS_link_71 : decode b_RS_link 71 = .ok (.getfield 16, 3) := by decide +kernel
theorem d_RS_link_74 : decode b_RS_link 74 = .ok (.iload_n 2, 1) := by decide +kernel
theorem d_RS_link_75 : decode b_RS_link 75 = .ok (.dup2, 1) := by decide +kernel
theorem d_RS_link_76 : decode b_RS_link 76 = .ok (.iaload, 1) := by decide +kernel
theorem d_RS_link_77 : decode b_RS_link 77 = .ok (.iconst 1, 1) := by decide +kernel
theorem d_RS_link_78 : decode b_RS_link 78 = .ok (.iload_n 1, 1) := by decide +kernel
theorem d_RS_link_79 : decode b_RS_link 79 = .ok (.ishl, 1) := by decide +kernel
theorem d_RS_link_80 : decode b_RS_link 80 = .ok (.iconst (-1), 1) := by decide +kernel
theorem d_RS_link_81 : decode b_RS_link 81 = .ok (.ixor, 1) := by decide +kernel
theorem d_RS_link_82 : decode b_RS_link 82 = .ok (.iand, 1) := by decide +kernel
theorem d_RS_link_83 : decode b_RS_link 83 = .ok (.iastore, 1) := by decide +kernel
theorem d_RS_link_84 : decode b_RS_link 84 = .ok (.aload_n 0, 1) := by decide +kernel
theorem d_RS_link_85 : decode b_RS_link 85 = .ok (.getfield 16, 3) := by decide +kernel
theorem d_RS_link_88 : decode b_RS_link 88 = .ok (.iload_n 1, 1) := by decide +kernel
theorem d_RS_link_89 : decode b_RS_link 89 = .ok (.iaload, 1) := by decide +kernel
theorem d_RS_link_90 : decode b_RS_link 90 = .ok (.invokestatic 54, 3) := by decide +kernel
theorem d_RS_link_93 : decode b_RS_link 93 = .ok (.ireturn, 1) := by decide +kernel
theorem d_Rb_standingOn_0 : decode b_Rb_standingOn 0 = .ok (.iconst 0, 1) := by decide +kernel
theorem d_Rb_standingOn_1 : decode b_Rb_standingOn 1 = .ok (.istore_n 2, 1) := by decide +kernel
theorem d_Rb_standingOn_2 : decode b_Rb_standingOn 2 = .ok (.iload_n 2, 1) := by decide +kernel
theorem d_Rb_standingOn_3 : decode b_Rb_standingOn 3 = .ok (.aload_n 0, 1) := by decide +kernel
theorem d_Rb_standingOn_4 : decode b_Rb_standingOn 4 = .ok (.getfield 9, 3) := by decide +kernel
theorem d_Rb_standingOn_7 : decode b_Rb_standingOn 7 = .ok (.if_icmp .ge 31, 3) := by decide +kernel
theorem d_Rb_standingOn_10 : decode b_Rb_standingOn 10 = .ok (.aload_n 0, 1) := by decide +kernel
theorem d_Rb_standingOn_11 : decode b_Rb_standingOn 11 = .ok (.getfield 15, 3) := by decide +kernel
theorem d_Rb_standingOn_14 : decode b_Rb_standingOn 14 = .ok (.iload_n 2, 1) := by decide +kernel
theorem d_Rb_standingOn_15 : decode b_Rb_standingOn 15 = .ok (.iaload, 1) := by decide +kernel
theorem d_Rb_standingOn_16 : decode b_Rb_standingOn 16 = .ok (.iload_n 1, 1) := by decide +kernel
theorem d_Rb_standingOn_17 : decode b_Rb_standingOn 17 = .ok (.if_icmp .eq 13, 3) := by decide +kernel
theorem d_Rb_standingOn_20 : decode b_Rb_standingOn 20 = .ok (.aload_n 0, 1) := by decide +kernel
theorem d_Rb_standingOn_21 : decode b_Rb_standingOn 21 = .ok (.getfield 23, 3) := by decide +kernel
theorem d_Rb_standingOn_24 : decode b_Rb_standingOn 24 = .ok (.iload_n 2, 1) := by decide +kernel
theorem d_Rb_standingOn_25 : decode b_Rb_standingOn 25 = .ok (.iaload, 1) := by decide +kernel
theorem d_Rb_standingOn_26 : decode b_Rb_standingOn 26 = .ok (.iload_n 1, 1) := by decide +kernel
theorem d_Rb_standingOn_27 : decode b_Rb_standingOn 27 = .ok (.if_icmp .ne 5, 3) := by decide +kernel
theorem d_Rb_standingOn_30 : decode b_Rb_standingOn 30 = .ok (.iload_n 2, 1) := by decide +kernel
theorem d_Rb_standingOn_31 : decode b_Rb_standingOn 31 = .ok (.ireturn, 1) := by decide +kernel
theorem d_Rb_standingOn_32 : decode b_Rb_standingOn 32 = .ok (.iinc 2 1, 3) := by decide +kernel
theorem d_Rb_standingOn_35 : decode b_Rb_standingOn 35 = .ok (.goto (-33), 3) := by decide +kernel
theorem d_Rb_standingOn_38 : decode b_Rb_standingOn 38 = .ok (.iconst (-1), 1) := by decide +kernel
theorem d_Rb_standingOn_39 : decode b_Rb_standingOn 39 = .ok (.ireturn, 1) := by decide +kernel
theorem d_Rb_add_0 : decode b_Rb_add 0 = .ok (.aload_n 0, 1) := by decide +kernel
theorem d_Rb_add_1 : decode b_Rb_add 1 = .ok (.getfield 9, 3) := by decide +kernel
theorem d_Rb_add_4 : decode b_Rb_add 4 = .ok (.istore 4, 2) := by decide +kernel
theorem d_Rb_add_6 : decode b_Rb_add 6 = .ok (.aload_n 0, 1) := by decide +kernel
theorem d_Rb_add_7 : decode b_Rb_add 7 = .ok (.getfield 15, 3) := by decide +kernel
theorem d_Rb_add_10 : decode b_Rb_add 10 = .ok (.iload 4, 2) := by decide +kernel
theorem d_Rb_add_12 : decode b_Rb_add 12 = .ok (.iload_n 1, 1) := by decide +kernel
theorem d_Rb_add_13 : decode b_Rb_add 13 = .ok (.iastore, 1) := by decide +kernel
theorem d_Rb_add_14 : decode b_Rb_add 14 = .ok (.aload_n 0, 1) := by decide +kernel
theorem d_Rb_add_15 : decode b_Rb_add 15 = .ok (.getfield 19, 3) := by decide +kernel
theorem d_Rb_add_18 : decode b_Rb_add 18 = .ok (.iload 4, 2) := by decide +kernel
theorem d_Rb_add_20 : decode b_Rb_add 20 = .ok (.iload_n 2, 1) := by decide +kernel
theorem d_Rb_add_21 : decode b_Rb_add 21 = .ok (.bastore, 1) := by decide +kernel
theorem d_Rb_add_22 : decode b_Rb_add 22 = .ok (.aload_n 0, 1) := by decide +kernel
theorem d_Rb_add_23 : decode b_Rb_add 23 = .ok (.getfield 23, 3) := by decide +kernel
theorem d_Rb_add_26 : decode b_Rb_add 26 = .ok (.iload 4, 2) := by decide +kernel
theorem d_Rb_add_28 : decode b_Rb_add 28 = .ok (.iconst (-1), 1) := by decide +kernel
theorem d_Rb_add_29 : decode b_Rb_add 29 = .ok (.iastore, 1) := by decide +kernel
theorem d_Rb_add_30 : decode b_Rb_add 30 = .ok (.aload_n 0, 1) := by decide +kernel
theorem d_Rb_add_31 : decode b_Rb_add 31 = .ok (.getfield 26, 3) := by decide +kernel
theorem d_Rb_add_34 : decode b_Rb_add 34 = .ok (.iload 4, 2) := by decide +kernel
theorem d_Rb_add_36 : decode b_Rb_add 36 = .ok (.iconst (-1), 1) := by decide +kernel
theorem d_Rb_add_37 : decode b_Rb_add 37 = .ok (.iastore, 1) := by decide +kernel
theorem d_Rb_add_38 : decode b_Rb_add 38 = .ok (.aload_n 0, 1) := by decide +kernel
theorem d_Rb_add_39 : decode b_Rb_add 39 = .ok (.getfield 29, 3) := by decide +kernel
theorem d_Rb_add_42 : decode b_Rb_add 42 = .ok (.iload 4, 2) := by decide +kernel
theorem d_Rb_add_44 : decode b_Rb_add 44 = .ok (.iconst 0, 1) := by decide +kernel
theorem d_Rb_add_45 : decode b_Rb_add 45 = .ok (.bastore, 1) := by decide +kernel
theorem d_Rb_add_46 : decode b_Rb_add 46 = .ok (.aload_n 0, 1) := by decide +kernel
theorem d_Rb_add_47 : decode b_Rb_add 47 = .ok (.getfield 32, 3) := by decide +kernel
theorem d_Rb_add_50 : decode b_Rb_add 50 = .ok (.iload 4, 2) := by decide +kernel
theorem d_Rb_add_52 : decode b_Rb_add 52 = .ok (.iload_n 3, 1) := by decide +kernel
theorem d_Rb_add_53 : decode b_Rb_add 53 = .ok (.iastore, 1) := by decide +kernel
theorem d_Rb_add_54 : decode b_Rb_add 54 = .ok (.aload_n 0, 1) := by decide +kernel
theorem d_Rb_add_55 : decode b_Rb_add 55 = .ok (.dup, 1) := by decide +kernel
theorem d_Rb_add_56 : decode b_Rb_add 56 = .ok (.getfield 9, 3) := by decide +kernel
theorem d_Rb_add_59 : decode b_Rb_add 59 = .ok (.iconst 1, 1) := by decide +kernel
theorem d_Rb_add_60 : decode b_Rb_add 60 = .ok (.iadd, 1) := by decide +kernel
theorem d_Rb_add_61 : decode b_Rb_add 61 = .ok (.putfield 9, 3) := by decide +kernel
theorem d_Rb_add_64 : decode b_Rb_add 64 = .ok (.iload 4, 2) := by decide +kernel
theorem d_Rb_add_66 : decode b_Rb_add 66 = .ok (.ireturn, 1) := by decide +kernel
theorem d_RS_robot_0 : decode b_RS_robot 0 = .ok (.aload_n 0, 1) := by decide +kernel
theorem d_RS_robot_1 : decode b_RS_robot 1 = .ok (.iload_n 1, 1) := by decide +kernel
theorem d_RS_robot_2 : decode b_RS_robot 2 = .ok (.invokevirtual 45, 3) := by decide +kernel
theorem d_RS_robot_5 : decode b_RS_robot 5 = .ok (.aload_n 0, 1) := by decide +kernel
theorem d_RS_robot_6 : decode b_RS_robot 6 = .ok (.getfield 20, 3) := by decide +kernel
theorem d_RS_robot_9 : decode b_RS_robot 9 = .ok (.iload_n 1, 1) := by decide +kernel
theorem d_RS_robot_10 : decode b_RS_robot 10 = .ok (.baload, 1) := by decide +kernel
theorem d_RS_robot_11 : decode b_RS_robot 11 = .ok (.ifCond .ne 15, 3) := by decide +kernel
theorem d_RS_robot_14 : decode b_RS_robot 14 = .ok (.aload_n 0, 1) := by decide +kernel
theorem d_RS_robot_15 : decode b_RS_robot 15 = .ok (.getfield 27, 3) := by decide +kernel
theorem d_RS_robot_18 : decode b_RS_robot 18 = .ok (.iload_n 1, 1) := by decide +kernel
theorem d_RS_robot_19 : decode b_RS_robot 19 = .ok (.invokevirtual 60, 3) := by decide +kernel
theorem d_RS_robot_22 : decode b_RS_robot 22 = .ok (.iconst (-1), 1) := by decide +kernel
theorem d_RS_robot_23 : decode b_RS_robot 23 = .ok (.if_icmp .eq 13, 3) := by decide +kernel
theorem d_RS_robot_26 : decode b_RS_robot 26 = .ok (.new 63, 3) := by decide +kernel
theorem d_RS_robot_29 : decode b_RS_robot 29 = .ok (.dup, 1) := by decide +kernel
theorem d_RS_robot_30 : decode b_RS_robot 30 = .ok (.ldc 65, 2) := by decide +kernel
theorem d_RS_robot_32 : decode b_RS_robot 32 = .ok (.invokespecial 67, 3) := by decide +kernel
theorem d_RS_robot_35 : decode b_RS_robot 35 = .ok (.athrow, 1) := by decide +kernel
theorem d_RS_robot_36 : decode b_RS_robot 36 = .ok (.aload_n 0, 1) := by decide +kernel
theorem d_RS_robot_37 : decode b_RS_robot 37 = .ok (.getfield 27, 3) := by decide +kernel
theorem d_RS_robot_40 : decode b_RS_robot 40 = .ok (.getfield 68, 3) := by decide +kernel
theorem d_RS_robot_43 : decode b_RS_robot 43 = .ok (.bipush 6, 2) := by decide +kernel
theorem d_RS_robot_45 : decode b_RS_robot 45 = .ok (.if_icmp .lt 13, 3) := by decide +kernel
theorem d_RS_robot_48 : decode b_RS_robot 48 = .ok (.new 38, 3) := by decide +kernel
theorem d_RS_robot_51 : decode b_RS_robot 51 = .ok (.dup, 1) := by decide +kernel
theorem d_RS_robot_52 : decode b_RS_robot 52 = .ok (.ldc 71, 2) := by decide +kernel
theorem d_RS_robot_54 : decode b_RS_robot 54 = .ok (.invokespecial 42, 3) := by decide +kernel
theorem d_RS_robot_57 : decode b_RS_robot 57 = .ok (.athrow, 1) := by decide +kernel
theorem d_RS_robot_58 : decode b_RS_robot 58 = .ok (.aload_n 0, 1) := by decide +kernel
theorem d_RS_robot_59 : decode b_RS_robot 59 = .ok (.getfield 27, 3) := by decide +kernel
theorem d_RS_robot_62 : decode b_RS_robot 62 = .ok (.iload_n 1, 1) := by decide +kernel
theorem d_RS_robot_63 : decode b_RS_robot 63 = .ok (.iload_n 2, 1) := by decide +kernel
theorem d_RS_robot_64 : decode b_RS_robot 64 = .ok (.aload_n 0, 1) := by decide +kernel
theorem d_RS_robot_65 : decode b_RS_robot 65 = .ok (.getfield 7, 3) := by decide +kernel
theorem d_RS_robot_68 : decode b_RS_robot 68 = .ok (.invokevirtual 73, 3) := by decide +kernel
theorem d_RS_robot_71 : decode b_RS_robot 71 = .ok (.ireturn, 1) := by decide +kernel
theorem d_Rb_isSilent_0 : decode b_Rb_isSilent 0 = .ok (.iload_n 2, 1) := by decide +kernel
theorem d_Rb_isSilent_1 : decode b_Rb_isSilent 1 = .ok (.aload_n 0, 1) := by decide +kernel
theorem d_Rb_isSilent_2 : decode b_Rb_isSilent 2 = .ok (.getfield 32, 3) := by decide +kernel
theorem d_Rb_isSilent_5 : decode b_Rb_isSilent 5 = .ok (.iload_n 1, 1) := by decide +kernel
theorem d_Rb_isSilent_6 : decode b_Rb_isSilent 6 = .ok (.iaload, 1) := by decide +kernel
theorem d_Rb_isSilent_7 : decode b_Rb_isSilent 7 = .ok (.isub, 1) := by decide +kernel
theorem d_Rb_isSilent_8 : decode b_Rb_isSilent 8 = .ok (.bipush 30, 2) := by decide +kernel
theorem d_Rb_isSilent_10 : decode b_Rb_isSilent 10 = .ok (.if_icmp .le 7, 3) := by decide +kernel
theorem d_Rb_isSilent_13 : decode b_Rb_isSilent 13 = .ok (.iconst 1, 1) := by decide +kernel
theorem d_Rb_isSilent_14 : decode b_Rb_isSilent 14 = .ok (.goto 4, 3) := by decide +kernel
theorem d_Rb_isSilent_17 : decode b_Rb_isSilent 17 = .ok (.iconst 0, 1) := by decide +kernel
theorem d_Rb_isSilent_18 : decode b_Rb_isSilent 18 = .ok (.ireturn, 1) := by decide +kernel
theorem d_RS_needActive_0 : decode b_RS_needActive 0 = .ok (.aload_n 0, 1) := by decide +kernel
theorem d_RS_needActive_1 : decode b_RS_needActive 1 = .ok (.getfield 27, 3) := by decide +kernel
theorem d_RS_needActive_4 : decode b_RS_needActive 4 = .ok (.getfield 168, 3) := by decide +kernel
theorem d_RS_needActive_7 : decode b_RS_needActive 7 = .ok (.iload_n 1, 1) := by decide +kernel
theorem d_RS_needActive_8 : decode b_RS_needActive 8 = .ok (.baload, 1) := by decide +kernel
theorem d_RS_needActive_9 : decode b_RS_needActive 9 = .ok (.ifCond .ne 18, 3) := by decide +kernel
theorem d_RS_needActive_12 : decode b_RS_needActive 12 = .ok (.aload_n 0, 1) := by decide +kernel
theorem d_RS_needActive_13 : decode b_RS_needActive 13 = .ok (.getfield 27, 3) := by decide +kernel
theorem d_RS_needActive_16 : decode b_RS_needActive 16 = .ok (.iload_n 1, 1) := by decide +kernel
theorem d_RS_needActive_17 : decode b_RS_needActive 17 = .ok (.aload_n 0, 1) := by decide +kernel
theorem d_RS_needActive_18 : decode b_RS_needActive 18 = .ok (.getfield 7, 3) := by decide +kernel
theorem d_RS_needActive_21 : decode b_RS_needActive 21 = .ok (.invokevirtual 176, 3) := by decide +kernel
theorem d_RS_needActive_24 : decode b_RS_needActive 24 = .ok (.ifCond .eq 13, 3) := by decide +kernel
theorem d_RS_needActive_27 : decode b_RS_needActive 27 = .ok (.new 63, 3) := by decide +kernel
theorem d_RS_needActive_30 : decode b_RS_needActive 30 = .ok (.dup, 1) := by decide +kernel
theorem d_RS_needActive_31 : decode b_RS_needActive 31 = .ok (.ldc 226, 2) := by decide +kernel
theorem d_RS_needActive_33 : decode b_RS_needActive 33 = .ok (.invokespecial 67, 3) := by decide +kernel
theorem d_RS_needActive_36 : decode b_RS_needActive 36 = .ok (.athrow, 1) := by decide +kernel
theorem d_RS_needActive_37 : decode b_RS_needActive 37 = .ok (.return_, 1) := by decide +kernel
theorem d_Rb_otherStandsOn_0 : decode b_Rb_otherStandsOn 0 = .ok (.aload_n 0, 1) := by decide +kernel
theorem d_Rb_otherStandsOn_1 : decode b_Rb_otherStandsOn 1 = .ok (.iload_n 2, 1) := by decide +kernel
theorem d_Rb_otherStandsOn_2 : decode b_Rb_otherStandsOn 2 = .ok (.invokevirtual 35, 3) := by decide +kernel
theorem d_Rb_otherStandsOn_5 : decode b_Rb_otherStandsOn 5 = .ok (.istore_n 3, 1) := by decide +kernel
theorem d_Rb_otherStandsOn_6 : decode b_Rb_otherStandsOn 6 = .ok (.iload_n 3, 1) := by decide +kernel
theorem d_Rb_otherStandsOn_7 : decode b_Rb_otherStandsOn 7 = .ok (.iconst (-1), 1) := by decide +kernel
theorem d_Rb_otherStandsOn_8 : decode b_Rb_otherStandsOn 8 = .ok (.if_icmp .eq 12, 3) := by decide +kernel
theorem d_Rb_otherStandsOn_11 : decode b_Rb_otherStandsOn 11 = .ok (.iload_n 3, 1) := by decide +kernel
theorem d_Rb_otherStandsOn_12 : decode b_Rb_otherStandsOn 12 = .ok (.iload_n 1, 1) := by decide +kernel
theorem d_Rb_otherStandsOn_13 : decode b_Rb_otherStandsOn 13 = .ok (.if_icmp .eq 7, 3) := by decide +kernel
theorem d_Rb_otherStandsOn_16 : decode b_Rb_otherStandsOn 16 = .ok (.iconst 1, 1) := by decide +kernel
theorem d_Rb_otherStandsOn_17 : decode b_Rb_otherStandsOn 17 = .ok (.goto 4, 3) := by decide +kernel
theorem d_Rb_otherStandsOn_20 : decode b_Rb_otherStandsOn 20 = .ok (.iconst 0, 1) := by decide +kernel
theorem d_Rb_otherStandsOn_21 : decode b_Rb_otherStandsOn 21 = .ok (.ireturn, 1) := by decide +kernel
theorem d_Gr_hasBegun_0 : decode b_Gr_hasBegun 0 = .ok (.aload_n 0, 1) := by decide +kernel
theorem d_Gr_hasBegun_1 : decode b_Gr_hasBegun 1 = .ok (.getfield 22, 3) := by decide +kernel
theorem d_Gr_hasBegun_4 : decode b_Gr_hasBegun 4 = .ok (.iload_n 1, 1) := by decide +kernel
theorem d_Gr_hasBegun_5 : decode b_Gr_hasBegun 5 = .ok (.iaload, 1) := by decide +kernel
theorem d_Gr_hasBegun_6 : decode b_Gr_hasBegun 6 = .ok (.iload_n 2, 1) := by decide +kernel
theorem d_Gr_hasBegun_7 : decode b_Gr_hasBegun 7 = .ok (.if_icmp .gt 7, 3) := by decide +kernel
theorem d_Gr_hasBegun_10 : decode b_Gr_hasBegun 10 = .ok (.iconst 1, 1) := by decide +kernel
theorem d_Gr_hasBegun_11 : decode b_Gr_hasBegun 11 = .ok (.goto 4, 3) := by decide +kernel
theorem d_Gr_hasBegun_14 : decode b_Gr_hasBegun 14 = .ok (.iconst 0, 1) := by decide +kernel
theorem d_Gr_hasBegun_15 : decode b_Gr_hasBegun 15 = .ok (.ireturn, 1) := by decide +kernel
theorem d_Gr_isLive_0 : decode b_Gr_isLive 0 = .ok (.aload_n 0, 1) := by decide +kernel
theorem d_Gr_isLive_1 : decode b_Gr_isLive 1 = .ok (.getfield 31, 3) := by decide +kernel
theorem d_Gr_isLive_4 : decode b_Gr_isLive 4 = .ok (.iload_n 1, 1) := by decide +kernel
theorem d_Gr_isLive_5 : decode b_Gr_isLive 5 = .ok (.iaload, 1) := by decide +kernel
theorem d_Gr_isLive_6 : decode b_Gr_isLive 6 = .ok (.ifCond .ne 7, 3) := by decide +kernel
theorem d_Gr_isLive_9 : decode b_Gr_isLive 9 = .ok (.iconst 1, 1) := by decide +kernel
theorem d_Gr_isLive_10 : decode b_Gr_isLive 10 = .ok (.goto 4, 3) := by decide +kernel
theorem d_Gr_isLive_13 : decode b_Gr_isLive 13 = .ok (.iconst 0, 1) := by decide +kernel
theorem d_Gr_isLive_14 : decode b_Gr_isLive 14 = .ok (.ireturn, 1) := by decide +kernel
theorem d_Gr_isLiveFor_0 : decode b_Gr_isLiveFor 0 = .ok (.aload_n 0, 1) := by decide +kernel
theorem d_Gr_isLiveFor_1 : decode b_Gr_isLiveFor 1 = .ok (.iload_n 1, 1) := by decide +kernel
theorem d_Gr_isLiveFor_2 : decode b_Gr_isLiveFor 2 = .ok (.invokevirtual 34, 3) := by decide +kernel
theorem d_Gr_isLiveFor_5 : decode b_Gr_isLiveFor 5 = .ok (.ifCond .eq 17, 3) := by decide +kernel
theorem d_Gr_isLiveFor_8 : decode b_Gr_isLiveFor 8 = .ok (.aload_n 0, 1) := by decide +kernel
theorem d_Gr_isLiveFor_9 : decode b_Gr_isLiveFor 9 = .ok (.getfield 19, 3) := by decide +kernel
theorem d_Gr_isLiveFor_12 : decode b_Gr_isLiveFor 12 = .ok (.iload_n 1, 1) := by decide +kernel
theorem d_Gr_isLiveFor_13 : decode b_Gr_isLiveFor 13 = .ok (.iaload, 1) := by decide +kernel
theorem d_Gr_isLiveFor_14 : decode b_Gr_isLiveFor 14 = .ok (.iload_n 2, 1) := by decide +kernel
theorem d_Gr_isLiveFor_15 : decode b_Gr_isLiveFor 15 = .ok (.if_icmp .ne 7, 3) := by decide +kernel
theorem d_Gr_isLiveFor_18 : decode b_Gr_isLiveFor 18 = .ok (.iconst 1, 1) := by decide +kernel
theorem d_Gr_isLiveFor_19 : decode b_Gr_isLiveFor 19 = .ok (.goto 4, 3) := by decide +kernel
theorem d_Gr_isLiveFor_22 : decode b_Gr_isLiveFor 22 = .ok (.iconst 0, 1) := by decide +kernel
theorem d_Gr_isLiveFor_23 : decode b_Gr_isLiveFor 23 = .ok (.ireturn, 1) := by decide +kernel
theorem d_Gr_sharesTime_0 : decode b_Gr_sharesTime 0 = .ok (.aload_n 0, 1) := by decide +kernel
theorem d_Gr_sharesTime_1 : decode b_Gr_sharesTime 1 = .ok (.getfield 22, 3) := by decide +kernel
theorem d_Gr_sharesTime_4 : decode b_Gr_sharesTime 4 = .ok (.iload_n 1, 1) := by decide +kernel
theorem d_Gr_sharesTime_5 : decode b_Gr_sharesTime 5 = .ok (.iaload, 1) := by decide +kernel
theorem d_Gr_sharesTime_6 : decode b_Gr_sharesTime 6 = .ok (.iload_n 3, 1) := by decide +kernel
theorem d_Gr_sharesTime_7 : decode b_Gr_sharesTime 7 = .ok (.if_icmp .ge 17, 3) := by decide +kernel
theorem d_Gr_sharesTime_10 : decode b_Gr_sharesTime 10 = .ok (.iload_n 2, 1) := by decide +kernel
theorem d_Gr_sharesTime_11 : decode b_Gr_sharesTime 11 = .ok (.aload_n 0, 1) := by decide +kernel
theorem d_Gr_sharesTime_12 : decode b_Gr_sharesTime 12 = .ok (.getfield 25, 3) := by decide +kernel
theorem d_Gr_sharesTime_15 : decode b_Gr_sharesTime 15 = .ok (.iload_n 1, 1) := by decide +kernel
theorem d_Gr_sharesTime_16 : decode b_Gr_sharesTime 16 = .ok (.iaload, 1) := by decide +kernel
theorem d_Gr_sharesTime_17 : decode b_Gr_sharesTime 17 = .ok (.if_icmp .ge 7, 3) := by decide +kernel
theorem d_Gr_sharesTime_20 : decode b_Gr_sharesTime 20 = .ok (.iconst 1, 1) := by decide +kernel
theorem d_Gr_sharesTime_21 : decode b_Gr_sharesTime 21 = .ok (.goto 4, 3) := by decide +kernel
theorem d_Gr_sharesTime_24 : decode b_Gr_sharesTime 24 = .ok (.iconst 0, 1) := by decide +kernel
theorem d_Gr_sharesTime_25 : decode b_Gr_sharesTime 25 = .ok (.ireturn, 1) := by decide +kernel
theorem d_Gr_isRival_0 : decode b_Gr_isRival 0 = .ok (.aload_n 0, 1) := by decide +kernel
theorem d_Gr_isRival_1 : decode b_Gr_isRival 1 = .ok (.iload_n 1, 1) := by decide +kernel
theorem d_Gr_isRival_2 : decode b_Gr_isRival 2 = .ok (.iload_n 3, 1) := by decide +kernel
theorem d_Gr_isRival_3 : decode b_Gr_isRival 3 = .ok (.invokevirtual 42, 3) := by decide +kernel
theorem d_Gr_isRival_6 : decode b_Gr_isRival 6 = .ok (.ifCond .eq 29, 3) := by decide +kernel
theorem d_Gr_isRival_9 : decode b_Gr_isRival 9 = .ok (.aload_n 0, 1) := by decide +kernel
theorem d_Gr_isRival_10 : decode b_Gr_isRival 10 = .ok (.getfield 15, 3) := by decide +kernel
theorem d_Gr_isRival_13 : decode b_Gr_isRival 13 = .ok (.iload_n 1, 1) := by decide +kernel
theorem d_Gr_isRival_14 : decode b_Gr_isRival 14 = .ok (.iaload, 1) := by decide +kernel
theorem d_Gr_isRival_15 : decode b_Gr_isRival 15 = .ok (.iload_n 2, 1) := by decide +kernel
theorem d_Gr_isRival_16 : decode b_Gr_isRival 16 = .ok (.if_icmp .eq 19, 3) := by decide +kernel
theorem d_Gr_isRival_19 : decode b_Gr_isRival 19 = .ok (.aload_n 0, 1) := by decide +kernel
theorem d_Gr_isRival_20 : decode b_Gr_isRival 20 = .ok (.iload_n 1, 1) := by decide +kernel
theorem d_Gr_isRival_21 : decode b_Gr_isRival 21 = .ok (.iload 4, 2) := by decide +kernel
theorem d_Gr_isRival_23 : decode b_Gr_isRival 23 = .ok (.iload 5, 2) := by decide +kernel
theorem d_Gr_isRival_25 : decode b_Gr_isRival 25 = .ok (.invokevirtual 38, 3) := by decide +kernel
theorem d_Gr_isRival_28 : decode b_Gr_isRival 28 = .ok (.ifCond .eq 7, 3) := by decide +kernel
theorem d_Gr_isRival_31 : decode b_Gr_isRival 31 = .ok (.iconst 1, 1) := by decide +kernel
theorem d_Gr_isRival_32 : decode b_Gr_isRival 32 = .ok (.goto 4, 3) := by decide +kernel
theorem d_Gr_isRival_35 : decode b_Gr_isRival 35 = .ok (.iconst 0, 1) := by decide +kernel
theorem d_Gr_isRival_36 : decode b_Gr_isRival 36 = .ok (.ireturn, 1) := by decide +kernel
theorem d_RS_firstBar_0 : decode b_RS_firstBar 0 = .ok (.iconst 1, 1) := by decide +kernel
theorem d_RS_firstBar_1 : decode b_RS_firstBar 1 = .ok (.istore 6, 2) := by decide +kernel
theorem d_RS_firstBar_3 : decode b_RS_firstBar 3 = .ok (.iload 6, 2) := by decide +kernel
theorem d_RS_firstBar_5 : decode b_RS_firstBar 5 = .ok (.aload_n 0, 1) := by decide +kernel
theorem d_RS_firstBar_6 : decode b_RS_firstBar 6 = .ok (.getfield 34, 3) := by decide +kernel
theorem d_RS_firstBar_9 : decode b_RS_firstBar 9 = .ok (.getfield 90, 3) := by decide +kernel
theorem d_RS_firstBar_12 : decode b_RS_firstBar 12 = .ok (.if_icmp .gt 72, 3) := by decide +kernel
theorem d_RS_firstBar_15 : decode b_RS_firstBar 15 = .ok (.aload_n 0, 1) := by decide +kernel
theorem d_RS_firstBar_16 : decode b_RS_firstBar 16 = .ok (.getfield 34, 3) := by decide +kernel
theorem d_RS_firstBar_19 : decode b_RS_firstBar 19 = .ok (.getfield 198, 3) := by decide +kernel
theorem d_RS_firstBar_22 : decode b_RS_firstBar 22 = .ok (.iload 6, 2) := by decide +kernel
theorem d_RS_firstBar_24 : decode b_RS_firstBar 24 = .ok (.iaload, 1) := by decide +kernel
theorem d_RS_firstBar_25 : decode b_RS_firstBar 25 = .ok (.iload 5, 2) := by decide +kernel
theorem d_RS_firstBar_27 : decode b_RS_firstBar 27 = .ok (.if_icmp .ge 23, 3) := by decide +kernel
theorem d_RS_firstBar_30 : decode b_RS_firstBar 30 = .ok (.aload_n 0, 1) := by decide +kernel
theorem d_RS_firstBar_31 : decode b_RS_firstBar 31 = .ok (.getfield 34, 3) := by decide +kernel
theorem d_RS_firstBar_34 : decode b_RS_firstBar 34 = .ok (.iload 6, 2) := by decide +kernel
theorem d_RS_firstBar_36 : decode b_RS_firstBar 36 = .ok (.aload_n 0, 1) := by decide +kernel
theorem d_RS_firstBar_37 : decode b_RS_firstBar 37 = .ok (.getfield 7, 3) := by decide +kernel
theorem d_RS_firstBar_40 : decode b_RS_firstBar 40 = .ok (.invokevirtual 228, 3) := by decide +kernel
theorem d_RS_firstBar_43 : decode b_RS_firstBar 43 = .ok (.ifCond .ne 7, 3) := by decide +kernel
theorem d_RS_firstBar_46 : decode b_RS_firstBar 46 = .ok (.iconst 1, 1) := by decide +kernel
theorem d_RS_firstBar_47 : decode b_RS_firstBar 47 = .ok (.goto 4, 3) := by decide +kernel
theorem d_RS_firstBar_50 : decode b_RS_firstBar 50 = .ok (.iconst 0, 1) := by decide +kernel
theorem d_RS_firstBar_51 : decode b_RS_firstBar 51 = .ok (.istore 7, 2) := by decide +kernel
theorem d_RS_firstBar_53 : decode b_RS_firstBar 53 = .ok (.iload 7, 2) := by decide +kernel
theorem d_RS_firstBar_55 : decode b_RS_firstBar 55 = .ok (.ifCond .ne 23, 3) := by decide +kernel
theorem d_RS_firstBar_58 : decode b_RS_firstBar 58 = .ok (.aload_n 0, 1) := by decide +kernel
theorem d_RS_firstBar_59 : decode b_RS_firstBar 59 = .ok (.getfield 34, 3) := by decide +kernel
theorem d_RS_firstBar_62 : decode b_RS_firstBar 62 = .ok (.iload 6, 2) := by decide +kernel
theorem d_RS_firstBar_64 : decode b_RS_firstBar 64 = .ok (.iload_n 1, 1) := by decide +kernel
theorem d_RS_firstBar_65 : decode b_RS_firstBar 65 = .ok (.iload_n 2, 1) := by decide +kernel
theorem d_RS_firstBar_66 : decode b_RS_firstBar 66 = .ok (.iload_n 3, 1) := by decide +kernel
theorem d_RS_firstBar_67 : decode b_RS_firstBar 67 = .ok (.iload 4, 2) := by decide +kernel
theorem d_RS_firstBar_69 : decode b_RS_firstBar 69 = .ok (.invokevirtual 231, 3) := by decide +kernel
theorem d_RS_firstBar_72 : decode b_RS_firstBar 72 = .ok (.ifCond .eq 6, 3) := by decide +kernel
theorem d_RS_firstBar_75 : decode b_RS_firstBar 75 = .ok (.iload 6, 2) := by decide +kernel
theorem d_RS_firstBar_77 : decode b_RS_firstBar 77 = .ok (.ireturn, 1) := by decide +kernel
theorem d_RS_firstBar_78 : decode b_RS_firstBar 78 = .ok (.iinc 6 1, 3) := by decide +kernel
theorem d_RS_firstBar_81 : decode b_RS_firstBar 81 = .ok (.goto (-78), 3) := by decide +kernel
theorem d_RS_firstBar_84 : decode b_RS_firstBar 84 = .ok (.iconst 0, 1) := by decide +kernel
theorem d_RS_firstBar_85 : decode b_RS_firstBar 85 = .ok (.ireturn, 1) := by decide +kernel
theorem d_Gr_takeFromOthers_0 : decode b_Gr_takeFromOthers 0 = .ok (.iconst 1, 1) := by decide +kernel
theorem d_Gr_takeFromOthers_1 : decode b_Gr_takeFromOthers 1 = .ok (.istore 5, 2) := by decide +kernel
theorem d_Gr_takeFromOthers_3 : decode b_Gr_takeFromOthers 3 = .ok (.iload 5, 2) := by decide +kernel
theorem d_Gr_takeFromOthers_5 : decode b_Gr_takeFromOthers 5 = .ok (.aload_n 0, 1) := by decide +kernel
theorem d_Gr_takeFromOthers_6 : decode b_Gr_takeFromOthers 6 = .ok (.getfield 9, 3) := by decide +kernel
theorem d_Gr_takeFromOthers_9 : decode b_Gr_takeFromOthers 9 = .ok (.if_icmp .gt 31, 3) := by decide +kernel
theorem d_Gr_takeFromOthers_12 : decode b_Gr_takeFromOthers 12 = .ok (.aload_n 0, 1) := by decide +kernel
theorem d_Gr_takeFromOthers_13 : decode b_Gr_takeFromOthers 13 = .ok (.iload 5, 2) := by decide +kernel
theorem d_Gr_takeFromOthers_15 : decode b_Gr_takeFromOthers 15 = .ok (.iload_n 1, 1) := by decide +kernel
theorem d_Gr_takeFromOthers_16 : decode b_Gr_takeFromOthers 16 = .ok (.iload_n 2, 1) := by decide +kernel
theorem d_Gr_takeFromOthers_17 : decode b_Gr_takeFromOthers 17 = .ok (.iload_n 3, 1) := by decide +kernel
theorem d_Gr_takeFromOthers_18 : decode b_Gr_takeFromOthers 18 = .ok (.iload 4, 2) := by decide +kernel
theorem d_Gr_takeFromOthers_20 : decode b_Gr_takeFromOthers 20 = .ok (.invokevirtual 46, 3) := by decide +kernel
theorem d_Gr_takeFromOthers_23 : decode b_Gr_takeFromOthers 23 = .ok (.ifCond .eq 11, 3) := by decide +kernel
theorem d_Gr_takeFromOthers_26 : decode b_Gr_takeFromOthers 26 = .ok (.aload_n 0, 1) := by decide +kernel
theorem d_Gr_takeFromOthers_27 : decode b_Gr_takeFromOthers 27 = .ok (.getfield 31, 3) := by decide +kernel
theorem d_Gr_takeFromOthers_30 : decode b_Gr_takeFromOthers 30 = .ok (.iload 5, 2) := by decide +kernel
theorem d_Gr_takeFromOthers_32 : decode b_Gr_takeFromOthers 32 = .ok (.iconst 3, 1) := by decide +kernel
theorem d_Gr_takeFromOthers_33 : decode b_Gr_takeFromOthers 33 = .ok (.iastore, 1) := by decide +kernel
theorem d_Gr_takeFromOthers_34 : decode b_Gr_takeFromOthers 34 = .ok (.iinc 5 1, 3) := by decide +kernel
theorem d_Gr_takeFromOthers_37 : decode b_Gr_takeFromOthers 37 = .ok (.goto (-34), 3) := by decide +kernel
theorem d_Gr_takeFromOthers_40 : decode b_Gr_takeFromOthers 40 = .ok (.return_, 1) := by decide +kernel
theorem d_Gr_add_0 : decode b_Gr_add 0 = .ok (.aload_n 0, 1) := by decide +kernel
theorem d_Gr_add_1 : decode b_Gr_add 1 = .ok (.dup, 1) := by decide +kernel
theorem d_Gr_add_2 : decode b_Gr_add 2 = .ok (.getfield 9, 3) := by decide +kernel
theorem d_Gr_add_5 : decode b_Gr_add 5 = .ok (.iconst 1, 1) := by decide +kernel
theorem d_Gr_add_6 : decode b_Gr_add 6 = .ok (.iadd, 1) := by decide +kernel
theorem d_Gr_add_7 : decode b_Gr_add 7 = .ok (.putfield 9, 3) := by decide +kernel
theorem d_Gr_add_10 : decode b_Gr_add 10 = .ok (.aload_n 0, 1) := by decide +kernel
theorem d_Gr_add_11 : decode b_Gr_add 11 = .ok (.getfield 15, 3) := by decide +kernel
theorem d_Gr_add_14 : decode b_Gr_add 14 = .ok (.aload_n 0, 1) := by decide +kernel
theorem d_Gr_add_15 : decode b_Gr_add 15 = .ok (.getfield 9, 3) := by decide +kernel
theorem d_Gr_add_18 : decode b_Gr_add 18 = .ok (.iload_n 1, 1) := by decide +kernel
theorem d_Gr_add_19 : decode b_Gr_add 19 = .ok (.iastore, 1) := by decide +kernel
theorem d_Gr_add_20 : decode b_Gr_add 20 = .ok (.aload_n 0, 1) := by decide +kernel
theorem d_Gr_add_21 : decode b_Gr_add 21 = .ok (.getfield 19, 3) := by decide +kernel
theorem d_Gr_add_24 : decode b_Gr_add 24 = .ok (.aload_n 0, 1) := by decide +kernel
theorem d_Gr_add_25 : decode b_Gr_add 25 = .ok (.getfield 9, 3) := by decide +kernel
theorem d_Gr_add_28 : decode b_Gr_add 28 = .ok (.iload_n 2, 1) := by decide +kernel
theorem d_Gr_add_29 : decode b_Gr_add 29 = .ok (.iastore, 1) := by decide +kernel
theorem d_Gr_add_30 : decode b_Gr_add 30 = .ok (.aload_n 0, 1) := by decide +kernel
theorem d_Gr_add_31 : decode b_Gr_add 31 = .ok (.getfield 22, 3) := by decide +kernel
theorem d_Gr_add_34 : decode b_Gr_add 34 = .ok (.aload_n 0, 1) := by decide +kernel
theorem d_Gr_add_35 : decode b_Gr_add 35 = .ok (.getfield 9, 3) := by decide +kernel
theorem d_Gr_add_38 : decode b_Gr_add 38 = .ok (.iload_n 3, 1) := by decide +kernel
theorem d_Gr_add_39 : decode b_Gr_add 39 = .ok (.iastore, 1) := by decide +kernel
theorem d_Gr_add_40 : decode b_Gr_add 40 = .ok (.aload_n 0, 1) := by decide +kernel
theorem d_Gr_add_41 : decode b_Gr_add 41 = .ok (.getfield 25, 3) := by decide +kernel
theorem d_Gr_add_44 : decode b_Gr_add 44 = .ok (.aload_n 0, 1) := by decide +kernel
theorem d_Gr_add_45 : decode b_Gr_add 45 = .ok (.getfield 9, 3) := by decide +kernel
theorem d_Gr_add_48 : decode b_Gr_add 48 = .ok (.iload 4, 2) := by decide +kernel
theorem d_Gr_add_50 : decode b_Gr_add 50 = .ok (.iastore, 1) := by decide +kernel
theorem d_Gr_add_51 : decode b_Gr_add 51 = .ok (.aload_n 0, 1) := by decide +kernel
theorem d_Gr_add_52 : decode b_Gr_add 52 = .ok (.getfield 28, 3) := by decide +kernel
theorem d_Gr_add_55 : decode b_Gr_add 55 = .ok (.aload_n 0, 1) := by decide +kernel
theorem d_Gr_add_56 : decode b_Gr_add 56 = .ok (.getfield 9, 3) := by decide +kernel
theorem d_Gr_add_59 : decode b_Gr_add 59 = .ok (.iload 5, 2) := by decide +kernel
theorem d_Gr_add_61 : decode b_Gr_add 61 = .ok (.iastore, 1) := by decide +kernel
theorem d_Gr_add_62 : decode b_Gr_add 62 = .ok (.aload_n 0, 1) := by decide +kernel
theorem d_Gr_add_63 : decode b_Gr_add 63 = .ok (.getfield 31, 3) := by decide +kernel
theorem d_Gr_add_66 : decode b_Gr_add 66 = .ok (.aload_n 0, 1) := by decide +kernel
theorem d_Gr_add_67 : decode b_Gr_add 67 = .ok (.getfield 9, 3) := by decide +kernel
theorem d_Gr_add_70 : decode b_Gr_add 70 = .ok (.iconst 0, 1) := by decide +kernel
theorem d_Gr_add_71 : decode b_Gr_add 71 = .ok (.iastore, 1) := by decide +kernel
theorem d_Gr_add_72 : decode b_Gr_add 72 = .ok (.aload_n 0, 1) := by decide +kernel
theorem d_Gr_add_73 : decode b_Gr_add 73 = .ok (.getfield 9, 3) := by decide +kernel
theorem d_Gr_add_76 : decode b_Gr_add 76 = .ok (.ireturn, 1) := by decide +kernel
theorem d_RS_ask_0 : decode b_RS_ask 0 = .ok (.aload_n 0, 1) := by decide +kernel
theorem d_RS_ask_1 : decode b_RS_ask 1 = .ok (.iload_n 1, 1) := by decide +kernel
theorem d_RS_ask_2 : decode b_RS_ask 2 = .ok (.invokevirtual 77, 3) := by decide +kernel
theorem d_RS_ask_5 : decode b_RS_ask 5 = .ok (.aload_n 0, 1) := by decide +kernel
theorem d_RS_ask_6 : decode b_RS_ask 6 = .ok (.iload_n 2, 1) := by decide +kernel
theorem d_RS_ask_7 : decode b_RS_ask 7 = .ok (.invokevirtual 45, 3) := by decide +kernel
theorem d_RS_ask_10 : decode b_RS_ask 10 = .ok (.aload_n 0, 1) := by decide +kernel
theorem d_RS_ask_11 : decode b_RS_ask 11 = .ok (.iload_n 3, 1) := by decide +kernel
theorem d_RS_ask_12 : decode b_RS_ask 12 = .ok (.iload 4, 2) := by decide +kernel
theorem d_RS_ask_14 : decode b_RS_ask 14 = .ok (.invokevirtual 80, 3) := by decide +kernel
theorem d_RS_ask_17 : decode b_RS_ask 17 = .ok (.aload_n 0, 1) := by decide +kernel
theorem d_RS_ask_18 : decode b_RS_ask 18 = .ok (.iload 5, 2) := by decide +kernel
theorem d_RS_ask_20 : decode b_RS_ask 20 = .ok (.invokevirtual 84, 3) := by decide +kernel
theorem d_RS_ask_23 : decode b_RS_ask 23 = .ok (.aload_n 0, 1) := by decide +kernel
theorem d_RS_ask_24 : decode b_RS_ask 24 = .ok (.iload_n 1, 1) := by decide +kernel
theorem d_RS_ask_25 : decode b_RS_ask 25 = .ok (.invokevirtual 87, 3) := by decide +kernel
theorem d_RS_ask_28 : decode b_RS_ask 28 = .ok (.aload_n 0, 1) := by decide +kernel
theorem d_RS_ask_29 : decode b_RS_ask 29 = .ok (.getfield 34, 3) := by decide +kernel
theorem d_RS_ask_32 : decode b_RS_ask 32 = .ok (.getfield 90, 3) := by decide +kernel
theorem d_RS_ask_35 : decode b_RS_ask 35 = .ok (.bipush 60, 2) := by decide +kernel
theorem d_RS_ask_37 : decode b_RS_ask 37 = .ok (.if_icmp .lt 13, 3) := by decide +kernel
theorem d_RS_ask_40 : decode b_RS_ask 40 = .ok (.new 38, 3) := by decide +kernel
theorem d_RS_ask_43 : decode b_RS_ask 43 = .ok (.dup, 1) := by decide +kernel
theorem d_RS_ask_44 : decode b_RS_ask 44 = .ok (.ldc 91, 2) := by decide +kernel
theorem d_RS_ask_46 : decode b_RS_ask 46 = .ok (.invokespecial 42, 3) := by decide +kernel
theorem d_RS_ask_49 : decode b_RS_ask 49 = .ok (.athrow, 1) := by decide +kernel
theorem d_RS_ask_50 : decode b_RS_ask 50 = .ok (.aload_n 0, 1) := by decide +kernel
theorem d_RS_ask_51 : decode b_RS_ask 51 = .ok (.getfield 27, 3) := by decide +kernel
theorem d_RS_ask_54 : decode b_RS_ask 54 = .ok (.getfield 93, 3) := by decide +kernel
theorem d_RS_ask_57 : decode b_RS_ask 57 = .ok (.iload_n 1, 1) := by decide +kernel
theorem d_RS_ask_58 : decode b_RS_ask 58 = .ok (.aload_n 0, 1) := by decide +kernel
theorem d_RS_ask_59 : decode b_RS_ask 59 = .ok (.getfield 7, 3) := by decide +kernel
theorem d_RS_ask_62 : decode b_RS_ask 62 = .ok (.iastore, 1) := by decide +kernel
theorem d_RS_ask_63 : decode b_RS_ask 63 = .ok (.aload_n 0, 1) := by decide +kernel
theorem d_RS_ask_64 : decode b_RS_ask 64 = .ok (.getfield 20, 3) := by decide +kernel
theorem d_RS_ask_67 : decode b_RS_ask 67 = .ok (.iload_n 2, 1) := by decide +kernel
theorem d_RS_ask_68 : decode b_RS_ask 68 = .ok (.baload, 1) := by decide +kernel
theorem d_RS_ask_69 : decode b_RS_ask 69 = .ok (.ifCond .ne 15, 3) := by decide +kernel
theorem d_RS_ask_72 : decode b_RS_ask 72 = .ok (.aload_n 0, 1) := by decide +kernel
theorem d_RS_ask_73 : decode b_RS_ask 73 = .ok (.getfield 27, 3) := by decide +kernel
theorem d_RS_ask_76 : decode b_RS_ask 76 = .ok (.iload_n 1, 1) := by decide +kernel
theorem d_RS_ask_77 : decode b_RS_ask 77 = .ok (.iload_n 2, 1) := by decide +kernel
theorem d_RS_ask_78 : decode b_RS_ask 78 = .ok (.invokevirtual 96, 3) := by decide +kernel
theorem d_RS_ask_81 : decode b_RS_ask 81 = .ok (.ifCond .eq 5, 3) := by decide +kernel
theorem d_RS_ask_84 : decode b_RS_ask 84 = .ok (.iconst 0, 1) := by decide +kernel
theorem d_RS_ask_85 : decode b_RS_ask 85 = .ok (.ireturn, 1) := by decide +kernel
theorem d_RS_ask_86 : decode b_RS_ask 86 = .ok (.aload_n 0, 1) := by decide +kernel
theorem d_RS_ask_87 : decode b_RS_ask 87 = .ok (.iload_n 1, 1) := by decide +kernel
theorem d_RS_ask_88 : decode b_RS_ask 88 = .ok (.iload_n 2, 1) := by decide +kernel
theorem d_RS_ask_89 : decode b_RS_ask 89 = .ok (.iload_n 3, 1) := by decide +kernel
theorem d_RS_ask_90 : decode b_RS_ask 90 = .ok (.iload 4, 2) := by decide +kernel
theorem d_RS_ask_92 : decode b_RS_ask 92 = .ok (.iload 5, 2) := by decide +kernel
theorem d_RS_ask_94 : decode b_RS_ask 94 = .ok (.invokevirtual 100, 3) := by decide +kernel
theorem d_RS_ask_97 : decode b_RS_ask 97 = .ok (.istore 6, 2) := by decide +kernel
theorem d_RS_ask_99 : decode b_RS_ask 99 = .ok (.iload 6, 2) := by decide +kernel
theorem d_RS_ask_101 : decode b_RS_ask 101 = .ok (.ifCond .eq 7, 3) := by decide +kernel
theorem d_RS_ask_104 : decode b_RS_ask 104 = .ok (.iload 6, 2) := by decide +kernel
theorem d_RS_ask_106 : decode b_RS_ask 106 = .ok (.ineg, 1) := by decide +kernel
theorem d_RS_ask_107 : decode b_RS_ask 107 = .ok (.ireturn, 1) := by decide +kernel
theorem d_RS_ask_108 : decode b_RS_ask 108 = .ok (.aload_n 0, 1) := by decide +kernel
theorem d_RS_ask_109 : decode b_RS_ask 109 = .ok (.getfield 34, 3) := by decide +kernel
theorem d_RS_ask_112 : decode b_RS_ask 112 = .ok (.iload_n 1, 1) := by decide +kernel
theorem d_RS_ask_113 : decode b_RS_ask 113 = .ok (.iload_n 2, 1) := by decide +kernel
theorem d_RS_ask_114 : decode b_RS_ask 114 = .ok (.iload_n 3, 1) := by decide +kernel
theorem d_RS_ask_115 : decode b_RS_ask 115 = .ok (.iload 4, 2) := by decide +kernel
theorem d_RS_ask_117 : decode b_RS_ask 117 = .ok (.invokevirtual 104, 3) := by decide +kernel
theorem d_RS_ask_120 : decode b_RS_ask 120 = .ok (.aload_n 0, 1) := by decide +kernel
theorem d_RS_ask_121 : decode b_RS_ask 121 = .ok (.getfield 34, 3) := by decide +kernel
theorem d_RS_ask_124 : decode b_RS_ask 124 = .ok (.iload_n 1, 1) := by decide +kernel
theorem d_RS_ask_125 : decode b_RS_ask 125 = .ok (.iload_n 2, 1) := by decide +kernel
theorem d_RS_ask_126 : decode b_RS_ask 126 = .ok (.iload_n 3, 1) := by decide +kernel
theorem d_RS_ask_127 : decode b_RS_ask 127 = .ok (.iload 4, 2) := by decide +kernel
theorem d_RS_ask_129 : decode b_RS_ask 129 = .ok (.iload 5, 2) := by decide +kernel
theorem d_RS_ask_131 : decode b_RS_ask 131 = .ok (.invokevirtual 108, 3) := by decide +kernel
theorem d_RS_ask_134 : decode b_RS_ask 134 = .ok (.ireturn, 1) := by decide +kernel
theorem d_Gr_isLiveOf_0 : decode b_Gr_isLiveOf 0 = .ok (.aload_n 0, 1) := by decide +kernel
theorem d_Gr_isLiveOf_1 : decode b_Gr_isLiveOf 1 = .ok (.iload_n 1, 1) := by decide +kernel
theorem d_Gr_isLiveOf_2 : decode b_Gr_isLiveOf 2 = .ok (.invokevirtual 34, 3) := by decide +kernel
theorem d_Gr_isLiveOf_5 : decode b_Gr_isLiveOf 5 = .ok (.ifCond .eq 17, 3) := by decide +kernel
theorem d_Gr_isLiveOf_8 : decode b_Gr_isLiveOf 8 = .ok (.aload_n 0, 1) := by decide +kernel
theorem d_Gr_isLiveOf_9 : decode b_Gr_isLiveOf 9 = .ok (.getfield 15, 3) := by decide +kernel
theorem d_Gr_isLiveOf_12 : decode b_Gr_isLiveOf 12 = .ok (.iload_n 1, 1) := by decide +kernel
theorem d_Gr_isLiveOf_13 : decode b_Gr_isLiveOf 13 = .ok (.iaload, 1) := by decide +kernel
theorem d_Gr_isLiveOf_14 : decode b_Gr_isLiveOf 14 = .ok (.iload_n 2, 1) := by decide +kernel
theorem d_Gr_isLiveOf_15 : decode b_Gr_isLiveOf 15 = .ok (.if_icmp .ne 7, 3) := by decide +kernel
theorem d_Gr_isLiveOf_18 : decode b_Gr_isLiveOf 18 = .ok (.iconst 1, 1) := by decide +kernel
theorem d_Gr_isLiveOf_19 : decode b_Gr_isLiveOf 19 = .ok (.goto 4, 3) := by decide +kernel
theorem d_Gr_isLiveOf_22 : decode b_Gr_isLiveOf 22 = .ok (.iconst 0, 1) := by decide +kernel
theorem d_Gr_isLiveOf_23 : decode b_Gr_isLiveOf 23 = .ok (.ireturn, 1) := by decide +kernel
theorem d_Gr_liveOf_0 : decode b_Gr_liveOf 0 = .ok (.iconst 0, 1) := by decide +kernel
theorem d_Gr_liveOf_1 : decode b_Gr_liveOf 1 = .ok (.istore_n 2, 1) := by decide +kernel
theorem d_Gr_liveOf_2 : decode b_Gr_liveOf 2 = .ok (.iconst 1, 1) := by decide +kernel
theorem d_Gr_liveOf_3 : decode b_Gr_liveOf 3 = .ok (.istore_n 3, 1) := by decide +kernel
theorem d_Gr_liveOf_4 : decode b_Gr_liveOf 4 = .ok (.iload_n 3, 1) := by decide +kernel
theorem d_Gr_liveOf_5 : decode b_Gr_liveOf 5 = .ok (.aload_n 0, 1) := by decide +kernel
theorem d_Gr_liveOf_6 : decode b_Gr_liveOf 6 = .ok (.getfield 9, 3) := by decide +kernel
theorem d_Gr_liveOf_9 : decode b_Gr_liveOf 9 = .ok (.if_icmp .gt 21, 3) := by decide +kernel
theorem d_Gr_liveOf_12 : decode b_Gr_liveOf 12 = .ok (.aload_n 0, 1) := by decide +kernel
theorem d_Gr_liveOf_13 : decode b_Gr_liveOf 13 = .ok (.iload_n 3, 1) := by decide +kernel
theorem d_Gr_liveOf_14 : decode b_Gr_liveOf 14 = .ok (.iload_n 1, 1) := by decide +kernel
theorem d_Gr_liveOf_15 : decode b_Gr_liveOf 15 = .ok (.invokevirtual 50, 3) := by decide +kernel
theorem d_Gr_liveOf_18 : decode b_Gr_liveOf 18 = .ok (.ifCond .eq 6, 3) := by decide +kernel
theorem d_Gr_liveOf_21 : decode b_Gr_liveOf 21 = .ok (.iinc 2 1, 3) := by decide +kernel
theorem d_Gr_liveOf_24 : decode b_Gr_liveOf 24 = .ok (.iinc 3 1, 3) := by decide +kernel
theorem d_Gr_liveOf_27 : decode b_Gr_liveOf 27 = .ok (.goto (-23), 3) := by decide +kernel
theorem d_Gr_liveOf_30 : decode b_Gr_liveOf 30 = .ok (.iload_n 2, 1) := by decide +kernel
theorem d_Gr_liveOf_31 : decode b_Gr_liveOf 31 = .ok (.ireturn, 1) := by decide +kernel
theorem d_RS_free_0 : decode b_RS_free 0 = .ok (.aload_n 0, 1) := by decide +kernel
theorem d_RS_free_1 : decode b_RS_free 1 = .ok (.iload_n 1, 1) := by decide +kernel
theorem d_RS_free_2 : decode b_RS_free 2 = .ok (.invokevirtual 110, 3) := by decide +kernel
theorem d_RS_free_5 : decode b_RS_free 5 = .ok (.aload_n 0, 1) := by decide +kernel
theorem d_RS_free_6 : decode b_RS_free 6 = .ok (.getfield 34, 3) := by decide +kernel
theorem d_RS_free_9 : decode b_RS_free 9 = .ok (.iload_n 1, 1) := by decide +kernel
theorem d_RS_free_10 : decode b_RS_free 10 = .ok (.invokevirtual 113, 3) := by decide +kernel
theorem d_RS_free_13 : decode b_RS_free 13 = .ok (.ifCond .ne 13, 3) := by decide +kernel
theorem d_RS_free_16 : decode b_RS_free 16 = .ok (.new 63, 3) := by decide +kernel
theorem d_RS_free_19 : decode b_RS_free 19 = .ok (.dup, 1) := by decide +kernel
end
section
abbrev SC : Type := (Nat → Int32) × (Nat → Nat → Int32)
def uF (F : Nat → Int32) (k : Nat) (v : Int32) : Nat → Int32 := fun j => if j = k then v else F j
def uA (A : Nat → Nat → Int32) (k : Nat) (f : Nat → Int32) : Nat → Nat → Int32 := fun j => if j = k then f else A j
def exN (u : Nat) : String := match u with
  | 1 => "java/util/NoSuchElementException"
  | 2 => "java/lang/IllegalArgumentException"
  | 3 => "java/lang/IllegalStateException"
  | _ => "java/lang/UnsupportedOperationException"
def XS (A : Nat → Prop) (U : State) (H : Heap) : Prop :=
  vx_Zq Bundle.tN "UNASSIGNED_STACK" Bundle.steD A U H ∧ vx_Zq Bundle.tN "SUPPRESSED_SENTINEL" Bundle.listD A U H ∧ (∀ q ∈ xCasts, va_Nw (.castable q.1 q.2) U) ∧ (∀ x ∈ xDecls, va_Nw (.declares x) U) ∧ (∀ q ∈ xNocs, va_Nc q.1 q.2 U) ∧ ∀ q ∈ xStrs, ∃ a : Nat, vk_R q.1 q.2.1 q.2.2 a U
theorem XS.blind {A : Nat → Prop} {U : State} {g : JFrame} {mk : MethodId} {a : Array Value} (h : XS A U U.heap) : XS A (U.calling g mk a) (U.calling g mk a).heap := by
  obtain ⟨h1, h2, h3, h4, h5, h6⟩ := h
  refine ⟨vx_Zq.moved (u := U) (U := U.calling g mk a) (Vm.Alike.refl U.vm) h1, vx_Zq.moved (u := U) (U := U.calling g mk a) (Vm.Alike.refl U.vm) h2, fun q hq => va_Nw.same rfl rfl (h3 q hq), fun x hx => va_Nw.same rfl rfl (h4 x hx), fun q hq => va_Nc.moved (u := U) (U := U.calling g mk a) (Vm.Alike.refl U.vm) (h5 q hq), fun q hq => ?_⟩
  obtain ⟨b, hb⟩ := h6 q hq
  exact ⟨b, vk_R.same rfl hb⟩
theorem XS.pass {A B : Nat → Prop} {s U : State} {H : Heap} {locs : List Loc} (h : XS A s s.heap) (hS : va_S A s.heap H locs) (hB : ∀ q, B q → A q) (hU : U.heap = H) (hW : s.WarmedH U.vm) : XS B U U.heap := by
  obtain ⟨h1, h2, h3, h4, h5, h6⟩ := h
  rw [hU]
  refine ⟨(vx_Zq.moved hW.alike (h1.kept hS.2.1)).narrow hB, (vx_Zq.moved hW.alike (h2.kept hS.2.1)).narrow hB, fun q hq => va_Nw.warmC hW (h3 q hq), fun x hx => va_Nw.warmD hW (h4 x hx), fun q hq => va_Nc.moved hW.alike (h5 q hq), fun q hq => ?_⟩
  obtain ⟨b, hb⟩ := h6 q hq
  exact ⟨b, vk_R.warm hW hb⟩
def RO (D : va_G) (w : va_W) (tys : List (ClassId × FieldType)) (U : State) : Prop := va_P D classes w U.heap ∧ va_K D classes tys U
def GP (D : va_G) (w : va_W) (tys : List (ClassId × FieldType)) (sz : Nat) (U : State) : Prop := U.heap.size = sz ∧ va_P D classes w U.heap ∧ va_K D classes tys U ∧ XS (fun q => sz ≤ q) U U.heap
def SP (D : va_G) (w : va_W) (tys : List (ClassId × FieldType)) (sz : Nat) (U : State) : Prop := U.heap.size = sz ∧ va_P D classes w U.heap ∧ va_K D classes tys U ∧ va_D (fun _ => True) w
def XP (D : va_G) (w : va_W) (tys : List (ClassId × FieldType)) (sz : Nat) (U : State) : Prop := SP D w tys sz U ∧ XS (va_A w sz) U U.heap
abbrev aW (D : va_G) (tys : List (ClassId × FieldType)) (A : Nat → Prop) (w : va_W) (t : State) : Prop := va_P D classes w t.heap ∧ va_K D classes tys t ∧ va_D A w
theorem RO.blind {D : va_G} {w : va_W} {tys : List (ClassId × FieldType)} (av : List Value) : FrameBlind (va_Pc av (RO D w tys)) := by
  intro a U g mk q
  obtain ⟨q0, qP, qK⟩ := q
  exact ⟨q0, qP, va_K.moved (u := U) (U := U.calling g mk a) (Vm.Alike.refl U.vm) qK⟩
theorem GP.blind {D : va_G} {w : va_W} {tys : List (ClassId × FieldType)} {sz : Nat} (av : List Value) : FrameBlind (va_Pc av (GP D w tys sz)) := by
  intro a U g mk q
  obtain ⟨q0, q1, qP, qK, qX⟩ := q
  exact ⟨q0, q1, qP, va_K.moved (u := U) (U := U.calling g mk a) (Vm.Alike.refl U.vm) qK, qX.blind⟩
theorem SP.blind {D : va_G} {w : va_W} {tys : List (ClassId × FieldType)} {sz : Nat} (av : List Value) : FrameBlind (va_Pc av (SP D w tys sz)) := by
  intro a U g mk q
  obtain ⟨q0, q1, qP, qK, qD⟩ := q
  exact ⟨q0, q1, qP, va_K.moved (u := U) (U := U.calling g mk a) (Vm.Alike.refl U.vm) qK, qD⟩
theorem XP.blind {D : va_G} {w : va_W} {tys : List (ClassId × FieldType)} {sz : Nat} (av : List Value) : FrameBlind (va_Pc av (XP D w tys sz)) := by
  intro a U g mk q
  obtain ⟨q0, ⟨q1, qP, qK, qD⟩, qX⟩ := q
  exact ⟨q0, ⟨q1, qP, va_K.moved (u := U) (U := U.calling g mk a) (Vm.Alike.refl U.vm) qK, qD⟩, qX.blind⟩
theorem gIn {own C : String} {idx : Nat} {y : MethodName} {cy : Cond} (h1 : Cond.methodLink own idx y ∈ WALL) (h2 : Cond.instanceMethod y ∈ WALL) (h3 : Cond.selects C y y ∈ WALL) (h4 : Cond.initialized C ∈ WALL) (h5 : cy ∈ WALL) : GoodIn WALL (wsV own idx C y (cy :: WALL)) := by
  intro w hw
  have h : w ∈ WALL := by
    simp only [wsV, List.cons_append, List.nil_append, List.mem_cons] at hw
    rcases hw with rfl | rfl | rfl | rfl | rfl | h <;> assumption
  exact ⟨h, (WALL_good w h).2⟩
theorem gInS {own : String} {idx : Nat} {y : MethodName} {cy : Cond} (h1 : Cond.methodLink own idx y ∈ WALL) (h2 : Cond.static y ∈ WALL) (h4 : Cond.initialized y.cls ∈ WALL) (h5 : cy ∈ WALL) : GoodIn WALL (va_wsS own idx y (cy :: WALL)) := by
  intro w hw
  have h : w ∈ WALL := by
    simp only [va_wsS, List.cons_append, List.nil_append, List.mem_cons] at hw
    rcases hw with rfl | rfl | rfl | rfl | h <;> assumption
  exact ⟨h, (WALL_good w h).2⟩
section
variable {p : Program} {l : Launch} {e : Env} {R : Room} {s : State} {m : MethodId} {args : Array Value} {below : List Frame} {meth : Method} {c : Code} {H : Heap} {locs : List Loc} {cells slots : Nat} {Q : State → Prop}
  {y : MethodName} {bytes cc : ByteArray} {maxL nL n index mc ms pc : Nat} {ret : Option FieldType} {ws Ts : List Cond} {rm : Room} {own C : String} {b : Addr} {As rest st0 : List Value} {ls : Array Slot} {D : va_G} {w : va_W} {tys : List (ClassId × FieldType)}
theorem rdV {val : Int32} (S : CallFix p m c cc nL s args Ts own) (hM : Met l y ws rm (va_Pc (.ref b :: As) (RO D w tys)) (vp_Si (fun v => v = val)) 0 0 (fun _ => False)) (cw : CallW R s args own C index y bytes maxL ret ws rm 0 0 n) (hK : va_K D classes tys s) (hP : va_P D classes w H) (hrv : ∃ cellB : Cell, H[b]? = some cellB ∧ cellB.vm.isStatics = false ∧ s.vm.findClass C = some cellB.cls) (hn : As.length = n) (hsz : ls.size = nL) (hst : st0 = As.reverse ++ .ref b :: rest) (hW : (rest.map fun v => v.category).sum ≤ 8) (hdg : decode cc pc = .ok (.invokevirtual index, 3)) (hf : cells ≤ R.cells ∧ slots ≤ R.slots) (kk : W p l e R s m args below meth c H locs cells slots Q (F0 m (pc + 3) ls (.int val :: rest))) : W p l e R s m args below meth c H locs cells slots Q (F0 m pc ls st0) :=
  vp_callSi (W.runV S hM cw ⟨RO.blind _, hrv, fun U hU hW9 => ⟨rfl, by rw [hU]; exact hP, va_K.moved hW9.alike hK⟩⟩ rfl hn hsz hst (lv_room hW) hdg hf) (fun r hr => by have hr : r = val := hr; rw [hr]; exact kk)
theorem rdS {val : Int32} (S : CallFix p m c cc nL s args Ts own) (hM : Met l y ws rm (va_Pc As (fun _ => True)) (vp_Si (fun v => v = val)) 0 0 (fun _ => False)) (cw : CallB R s args own index y bytes maxL ret ws rm 0 0 n ∧ (Cond.static y).before args s = true) (hn : As.length = n) (hsz : ls.size = nL) (hst : st0 = As.reverse ++ rest) (hW : (rest.map fun v => v.category).sum ≤ 8) (hdg : decode cc pc = .ok (.invokestatic index, 3)) (hf : cells ≤ R.cells ∧ slots ≤ R.slots) (kk : W p l e R s m args below meth c H locs cells slots Q (F0 m (pc + 3) ls (.int val :: rest))) : W p l e R s m args below meth c H locs cells slots Q (F0 m pc ls st0) :=
  vp_callSi (W.runS S hM cw ⟨fun a U g mk q => ⟨q.1, trivial⟩, fun U hU hW9 => ⟨rfl, trivial⟩⟩ rfl hn hsz hst (lv_room hW) hdg hf) (fun r hr => by have hr : r = val := hr; rw [hr]; exact kk)
theorem frA {A : Nat → Prop} (hD : va_D A w) (hS : va_S A s.heap H locs) (hA : ∀ q : Nat, s.heap.size ≤ q → A q) : ∀ q, va_A w H.size q → A q := by
  rintro q (⟨k, x, h⟩ | h)
  · exact hD.2 k _ h
  · exact hA q (Nat.le_trans hS.1 h)
theorem rdVv (S : CallFix p m c cc nL s args Ts own) (hM : Met l y ws rm (va_Pc (.ref b :: As) (RO D w tys)) (va_Sv (fun _ => True)) 0 0 (fun _ => False)) (cw : CallW R s args own C index y bytes maxL ret ws rm 0 0 n) (hK : va_K D classes tys s) (hP : va_P D classes w H) (hrv : ∃ cellB : Cell, H[b]? = some cellB ∧ cellB.vm.isStatics = false ∧ s.vm.findClass C = some cellB.cls) (hn : As.length = n) (hsz : ls.size = nL) (hst : st0 = As.reverse ++ .ref b :: rest) (hW : (rest.map fun v => v.category).sum ≤ 8) (hdg : decode cc pc = .ok (.invokevirtual index, 3)) (hf : cells ≤ R.cells ∧ slots ≤ R.slots) (kk : W p l e R s m args below meth c H locs cells slots Q (F0 m (pc + 3) ls rest)) : W p l e R s m args below meth c H locs cells slots Q (F0 m pc ls st0) :=
  va_csv (W.runV S hM cw ⟨RO.blind _, hrv, fun U hU hW9 => ⟨rfl, by rw [hU]; exact hP, va_K.moved hW9.alike hK⟩⟩ rfl hn hsz hst (lv_room hW) hdg hf) (fun _ => kk)
theorem gdV {code : Nat} {A : Nat → Prop} (S : CallFix p m c cc nL s args Ts own) (hM : vx_Met l y ws rm (va_Pc (.ref b :: As) (GP D w tys H.size)) (va_Qv (fun _ : Unit => False) (fun _ _ => True) (fun q => H.size ≤ q)) (vx_X (fun u : Nat => u = code) (fun E u _ => E = exN u) (fun q => H.size ≤ q)) mc ms (fun q => H.size ≤ q)) (cw : CallW R s args own C index y bytes maxL ret ws rm mc ms n) (hK : va_K D classes tys s) (hP : va_P D classes w H) (hXS : XS A s s.heap) (hA : ∀ q : Nat, s.heap.size ≤ q → A q) (hrv : ∃ cellB : Cell, H[b]? = some cellB ∧ cellB.vm.isStatics = false ∧ s.vm.findClass C = some cellB.cls) (hS : va_S A s.heap H locs) (hn : As.length = n) (hsz : ls.size = nL) (hst : st0 = As.reverse ++ .ref b :: rest) (hW : (rest.map fun v => v.category).sum ≤ 8) (hdg : decode cc pc = .ok (.invokevirtual index, 3)) (hf : cells + mc ≤ R.cells ∧ slots + ms ≤ R.slots)
    (kx : ∀ (H1 : Heap) (locs1 : List Loc) (q9 : Addr) (ce : Cell), va_P D classes w H1 → va_S A s.heap H1 locs1 → H1[q9]? = some ce → ce.vm = .none → s.vm.findClass (exN code) = some ce.cls → vx_W p l e R s m args below meth c H1 locs1 (cells + mc) (slots + ms) Q (F0 m pc ls rest) q9) : W p l e R s m args below meth c H locs cells slots Q (F0 m pc ls st0) := by
  have hB : ∀ q : Nat, H.size ≤ q → A q := fun q h => hA q (Nat.le_trans hS.1 h)
  refine vx_callv (vx_runV S hM cw ⟨GP.blind _, hrv, fun U hU hW9 => ⟨rfl, by rw [hU], by rw [hU]; exact hP, va_K.moved hW9.alike hK, hXS.pass hS hB hU hW9⟩⟩ rfl hn hsz hst (lv_room hW) hdg hf) hS (fun q _ h => hB q h) hB (fun q _ h => hB q h) ?_ ?_
  · intro E ce q9 u t H1 locs1 ht hvm hpx hBX hz hk hS1 hce hcv hcl
    have hu : u = code := hpx
    subst hu
    have hE : E = exN u := hBX
    rw [hE] at hcl
    exact kx H1 locs1 q9 ce (hP.kept (fun k q hq => hk q.1 (hP k q hq).lt (Nat.not_le.mpr (hP k q hq).lt))) hS1 hce hcv hcl
  · intro u t H1 locs1 ht hvm hw hB1 hz hk hS1
    exact absurd hw id
theorem stVi {A : Nat → Prop} {wf : SC → va_W} {val : Int32 × SC} (S : CallFix p m c cc nL s args Ts own) (hM : Met l y ws rm (va_Pc (.ref b :: As) (SP D w tys H.size)) (va_Qi (fun v (u : SC) => (v, u) = val) (fun (u : SC) t => aW D tys (va_A w H.size) (wf u) t) (va_A w H.size)) 0 0 (va_A w H.size)) (cw : CallW R s args own C index y bytes maxL ret ws rm 0 0 n) (hK : va_K D classes tys s) (hP : va_P D classes w H) (hD : va_D A w) (hS : va_S A s.heap H locs) (hA : ∀ q : Nat, s.heap.size ≤ q → A q) (hrv : ∃ cellB : Cell, H[b]? = some cellB ∧ cellB.vm.isStatics = false ∧ s.vm.findClass C = some cellB.cls) (hn : As.length = n) (hsz : ls.size = nL) (hst : st0 = As.reverse ++ .ref b :: rest) (hW : (rest.map fun v => v.category).sum ≤ 8) (hdg : decode cc pc = .ok (.invokevirtual index, 3)) (hf : cells ≤ R.cells ∧ slots ≤ R.slots)
    (kk : ∀ (H1 : Heap) (locs1 : List Loc), va_P D classes (wf val.2) H1 → va_D A (wf val.2) → va_S A s.heap H1 locs1 → W p l e R s m args below meth c H1 locs1 cells slots Q (F0 m (pc + 3) ls (.int val.1 :: rest))) : W p l e R s m args below meth c H locs cells slots Q (F0 m pc ls st0) := by
  have hF := frA hD hS hA
  refine va_calli (va_runV S hM cw ⟨SP.blind _, hrv, fun U hU hW9 => ⟨rfl, by rw [hU], by rw [hU]; exact hP, va_K.moved hW9.alike hK, hD.weaken (fun _ _ _ _ => trivial)⟩⟩ rfl hn hsz hst (lv_room hW) hdg hf) hS (fun q _ h => hF q h) hF ?_
  intro r u t H1 locs1 ht hvm hw hB hz hk hS1
  have hw : (r, u) = val := hw
  subst hw
  obtain ⟨hP1, hK1, hD1⟩ := hB
  rw [ht] at hP1
  exact kk H1 locs1 hP1 (hD1.weaken (fun _ _ _ h => hF _ h)) hS1
theorem stVv {A : Nat → Prop} {wf : SC → va_W} {val : Int32 × SC} (S : CallFix p m c cc nL s args Ts own) (hM : Met l y ws rm (va_Pc (.ref b :: As) (SP D w tys H.size)) (va_Qv (fun u : SC => (0, u) = val) (fun (u : SC) t => aW D tys (va_A w H.size) (wf u) t) (va_A w H.size)) 0 0 (va_A w H.size)) (cw : CallW R s args own C index y bytes maxL ret ws rm 0 0 n) (hK : va_K D classes tys s) (hP : va_P D classes w H) (hD : va_D A w) (hS : va_S A s.heap H locs) (hA : ∀ q : Nat, s.heap.size ≤ q → A q) (hrv : ∃ cellB : Cell, H[b]? = some cellB ∧ cellB.vm.isStatics = false ∧ s.vm.findClass C = some cellB.cls) (hn : As.length = n) (hsz : ls.size = nL) (hst : st0 = As.reverse ++ .ref b :: rest) (hW : (rest.map fun v => v.category).sum ≤ 8) (hdg : decode cc pc = .ok (.invokevirtual index, 3)) (hf : cells ≤ R.cells ∧ slots ≤ R.slots)
    (kk : ∀ (H1 : Heap) (locs1 : List Loc), va_P D classes (wf val.2) H1 → va_D A (wf val.2) → va_S A s.heap H1 locs1 → W p l e R s m args below meth c H1 locs1 cells slots Q (F0 m (pc + 3) ls rest)) : W p l e R s m args below meth c H locs cells slots Q (F0 m pc ls st0) := by
  have hF := frA hD hS hA
  refine va_callv (va_runV S hM cw ⟨SP.blind _, hrv, fun U hU hW9 => ⟨rfl, by rw [hU], by rw [hU]; exact hP, va_K.moved hW9.alike hK, hD.weaken (fun _ _ _ _ => trivial)⟩⟩ rfl hn hsz hst (lv_room hW) hdg hf) hS (fun q _ h => hF q h) hF ?_
  intro u t H1 locs1 ht hvm hw hB hz hk hS1
  have hw : (0, u) = val := hw
  subst hw
  obtain ⟨hP1, hK1, hD1⟩ := hB
  rw [ht] at hP1
  exact kk H1 locs1 hP1 (hD1.weaken (fun _ _ _ h => hF _ h)) hS1
def TW (own : String) (ik is ic ix : Nat) (sx : ByteArray) (cls text : String) : Prop :=
  (Bundle.fit cls = true ∧ decode sx 0 = .ok (.aload_n 0, 1) ∧ decode sx 1 = .ok (.aload_n 1, 1) ∧ decode sx 2 = .ok (.invokespecial ix, 3) ∧ decode sx 5 = .ok (.return_, 1)) ∧ Cond.classLink own ik cls ∈ WALL ∧ Cond.initialized cls ∈ WALL ∧ (∀ w ∈ (nx_at own ic ix sx cls "java/lang/RuntimeException" ["java/lang/Exception"]).filter goodWord, w ∈ WALL) ∧ (∀ w ∈ (nx_at own ic ix sx cls "java/lang/RuntimeException" ["java/lang/Exception"]).filter (fun w => !goodWord w), w ∈ xBad) ∧ (∀ w ∈ Cond.classLink own ik cls :: Cond.initialized cls :: nx_at own ic ix sx cls "java/lang/RuntimeException" ["java/lang/Exception"], vx_ot w = true) ∧ (own, is, text) ∈ xStrs
theorem xBad_ok {A : Nat → Prop} {U : State} {H : Heap} {a : Array Value} (h : XS A U H) : ∀ w ∈ xBad, w.before a U = true := by
  intro w hw
  rcases List.mem_append.mp hw with hw | hw
  · obtain ⟨q, hq, rfl⟩ := List.mem_map.mp hw
    exact va_Nw.use rfl (h.2.2.1 q hq)
  · obtain ⟨q, hq, rfl⟩ := List.mem_map.mp hw
    exact va_Nw.use rfl (h.2.2.2.1 q hq)
theorem thr {A free : Nat → Prop} {Qc : Array Value → State → Outcome → State → Prop} {XC : String → State → State → Prop} {cls text : String} {ik is ic ix : Nat} {sx : ByteArray} (hx : p.tables.exec = Jvm.exec) (hb : c.code = cc) (hl9 : l.stackTraces = false) (hown : s.vm.findClass own = some m.cls) (hW : ∀ w ∈ WALL, w.before args s = true) (hXS : XS A s s.heap) (tw : TW own ik is ic ix sx cls text) (hS : va_S A s.heap H locs) (hsize : ls.size = c.maxLocals)
    (d0 : decode cc pc = .ok (.new ik, 3)) (d3 : decode cc (pc + 3) = .ok (.dup, 1)) (d4 : decode cc (pc + 4) = .ok (.ldc is, 2)) (d6 : decode cc (pc + 6) = .ok (.invokespecial ic, 3)) (d9 : decode cc (pc + 9) = .ok (.athrow, 1)) (hEx : ∀ x ∈ c.exceptionTable.toList, False)
    (hRf : (["java/lang/Exception"].length + 1) + 3 < R.frames) (hRl : (rest.map fun v => v.category).sum + (13 * ((["java/lang/Exception"].length + 1) + 1) + 43) ≤ R.locals) (hRc : cells + 1 ≤ R.cells) (hRs : slots + 6 ≤ R.slots) (hlocks : meth.locks = false)
    (hpost : ∀ t : State, s.vm.Alike t.vm → H.size ≤ t.heap.size → (∀ q : Nat, q < H.size → t.heap[q]? = H[q]?) → XC cls s t) (hf : ∀ z ∈ locs, free z.base) (hc : cells + 1 ≤ mc) (hs : slots + 6 ≤ ms) : W p l e R s m args below meth c H locs cells slots (vx_MQ below Qc XC args s mc ms free) (F0 m pc ls rest) := by
  obtain ⟨⟨t1, e0, e1, e2, e5⟩, t2, t3, t4, t5, t6, t7⟩ := tw
  obtain ⟨sa, hstr⟩ := hXS.2.2.2.2.2 _ t7
  exact nx_throwS (r9 := ["java/lang/Exception"]) hx hb hl9 hown t1 (by decide +kernel) (by decide +kernel) e0 e1 e2 e5 (hW _ t2) (hW _ t3) hstr (vx_hat (fun w hw => hW w (t4 w hw)) t5 (xBad_ok hXS)) t6 hXS.1 hXS.2.1 hS hsize d0 d3 d4 d6 d9 (fun x hx => (hEx x hx).elim) hRf hRl hRc hRs hlocks hpost hf hc hs
end
def LA (B i : Int32) (n : Nat) : Prop := 1 ≤ i.toInt ∧ i.toInt ≤ B.toInt + 1 ∧ B.toInt + 1 < i.toInt + n
def LB (B i : Int32) (n : Nat) : Prop := 0 ≤ i.toInt ∧ i.toInt ≤ B.toInt ∧ B.toInt < i.toInt + n
theorem add1 {i : Int32} (h0 : -1000 ≤ i.toInt) (h1 : i.toInt ≤ 1000000) : (i + 1).toInt = i.toInt + 1 := by
  rw [Int32.toInt_add, show (1 : Int32).toInt = 1 from rfl, Int.bmod_eq_of_le] <;> omega
theorem LA.z {B i : Int32} (h : LA B i 0) : False := by obtain ⟨h1, h2, h3⟩ := h; omega
theorem LB.z {B i : Int32} (h : LB B i 0) : False := by obtain ⟨h1, h2, h3⟩ := h; omega
theorem LA.i {B : Int32} (h0 : 0 ≤ B.toInt) (h1 : B.toInt ≤ 60) : LA B 1 64 := by
  have : (1 : Int32).toInt = 1 := rfl
  unfold LA; omega
theorem LB.i {B : Int32} (h0 : 0 ≤ B.toInt) (h1 : B.toInt ≤ 60) : LB B 0 64 := by
  have : (0 : Int32).toInt = 0 := rfl
  unfold LB; omega
theorem LA.s {B i : Int32} {n : Nat} (h : LA B i (n + 1)) (c : ¬ B < i) (hB : B.toInt ≤ 60) : LA B (i + 1) n := by
  obtain ⟨h1, h2, h3⟩ := h
  rw [Int32.lt_iff_toInt_lt] at c
  have := add1 (i := i) (by omega) (by omega)
  unfold LA; omega
theorem LB.s {B i : Int32} {n : Nat} (h : LB B i (n + 1)) (c : ¬ B ≤ i) (hB : B.toInt ≤ 60) : LB B (i + 1) n := by
  obtain ⟨h1, h2, h3⟩ := h
  rw [Int32.le_iff_toInt_le] at c
  have := add1 (i := i) (by omega) (by omega)
  unfold LB; omega
theorem LA.j {B i : Int32} {n : Nat} (h : LA B i (n + 1)) (c : ¬ B < i) (hB : B.toInt ≤ 60) : LA B (i + 1) 64 := by
  obtain ⟨h1, h2, h3⟩ := h
  rw [Int32.lt_iff_toInt_lt] at c
  have := add1 (i := i) (by omega) (by omega)
  unfold LA; omega
theorem LA.ix {B i : Int32} {n : Nat} (h : LA B i n) (c : ¬ B < i) (hB : B.toInt ≤ 60) : vp_in i 61 := by
  obtain ⟨h1, h2, h3⟩ := h
  rw [Int32.lt_iff_toInt_lt] at c
  rw [vp_in_iff]; omega
theorem LB.ix {B i : Int32} {n : Nat} (h : LB B i n) (c : ¬ B ≤ i) (hB : B.toInt ≤ 6) : vp_in i 6 := by
  obtain ⟨h1, h2, h3⟩ := h
  rw [Int32.le_iff_toInt_le] at c
  rw [vp_in_iff]; omega
theorem i32_ext {x y : Int32} (h : x.toInt = y.toInt) : x = y := Int32.toInt_inj.mp h
theorem tsw7 {x : Int32} (h0 : ¬ x = 0) (h1 : ¬ x = 1) (h2 : ¬ x = 2) (h3 : ¬ x = 3) (h4 : ¬ x = 4) (h5 : ¬ x = 5) (h6 : ¬ x = 6) : x.toInt < 0 ∨ 6 < x.toInt := by
  rcases Int.lt_or_le x.toInt 0 with h | h
  · exact Or.inl h
  rcases Int.lt_or_le 6 x.toInt with g | g
  · exact Or.inr g
  exfalso
  rcases (show x.toInt = 0 ∨ x.toInt = 1 ∨ x.toInt = 2 ∨ x.toInt = 3 ∨ x.toInt = 4 ∨ x.toInt = 5 ∨ x.toInt = 6 by omega) with q | q | q | q | q | q | q
  · exact h0 (i32_ext q)
  · exact h1 (i32_ext q)
  · exact h2 (i32_ext q)
  · exact h3 (i32_ext q)
  · exact h4 (i32_ext q)
  · exact h5 (i32_ext q)
  · exact h6 (i32_ext q)
theorem tsw6 {x : Int32} (h0 : ¬ x = 0) (h1 : ¬ x = 1) (h2 : ¬ x = 2) (h3 : ¬ x = 3) (h4 : ¬ x = 4) (h5 : ¬ x = 5) : x.toInt < 0 ∨ 5 < x.toInt := by
  rcases Int.lt_or_le x.toInt 0 with h | h
  · exact Or.inl h
  rcases Int.lt_or_le 5 x.toInt with g | g
  · exact Or.inr g
  exfalso
  rcases (show x.toInt = 0 ∨ x.toInt = 1 ∨ x.toInt = 2 ∨ x.toInt = 3 ∨ x.toInt = 4 ∨ x.toInt = 5 by omega) with q | q | q | q | q | q
  · exact h0 (i32_ext q)
  · exact h1 (i32_ext q)
  · exact h2 (i32_ext q)
  · exact h3 (i32_ext q)
  · exact h4 (i32_ext q)
  · exact h5 (i32_ext q)
theorem nar01 {v : Int32} (h : v = 0 ∨ v = 1) : narrow .boolean (.int v) = .int v := by
  rcases h with rfl | rfl <;> rfl
end
section
theorem pSuf {D : va_G} {wr w : va_W} {H : Heap} (h : va_P D classes (wr ++ w) H) : va_P D classes w H := by
  intro k q hk
  exact h (wr.length + k) q (by rw [List.getElem?_append_right (Nat.le_add_right _ _), Nat.add_sub_cancel_left]; exact hk)
theorem pPre {D : va_G} {wr w : va_W} {H : Heap} (h : va_P D classes (wr ++ w) H) : va_P D classes wr H := by
  intro k q hk
  exact h k q (by rw [List.getElem?_append_left (List.getElem?_eq_some_iff.mp hk).1]; exact hk)
theorem pApp {D : va_G} {wr w : va_W} {H : Heap} (h1 : va_P D classes wr H) (h2 : va_P D classes w H) : va_P D classes (wr ++ w) H := by
  intro k q hk
  rcases Nat.lt_or_ge k wr.length with h | h
  · rw [List.getElem?_append_left h] at hk; exact h1 k q hk
  · rw [List.getElem?_append_right h] at hk; exact h2 _ q hk
theorem dSuf {A : Nat → Prop} {wr w : va_W} (h : va_D A (wr ++ w)) : va_D A w := by
  have e : ∀ (k : Nat) (q : Nat × va_E), w[k]? = some q → (wr ++ w)[wr.length + k]? = some q := fun k q hk => by
    rw [List.getElem?_append_right (Nat.le_add_right _ _), Nat.add_sub_cancel_left]; exact hk
  exact ⟨fun i j p q hi hj he => by have := h.1 _ _ p q (e i p hi) (e j q hj) he; omega, fun k q hk => h.2 _ q (e k q hk)⟩
theorem dPre {A : Nat → Prop} {wr w : va_W} (h : va_D A (wr ++ w)) : va_D A wr := by
  have e : ∀ (k : Nat) (q : Nat × va_E), wr[k]? = some q → (wr ++ w)[k]? = some q := fun k q hk => by
    rw [List.getElem?_append_left (List.getElem?_eq_some_iff.mp hk).1]; exact hk
  exact ⟨fun i j p q hi hj he => h.1 _ _ p q (e i p hi) (e j q hj) he, fun k q hk => h.2 _ q (e k q hk)⟩
theorem dApart {A : Nat → Prop} {wr w : va_W} (h : va_D A (wr ++ w)) {i j : Nat} {p q : Nat × va_E} (hi : wr[i]? = some p) (hj : w[j]? = some q) : p.1 ≠ q.1 := by
  intro he
  have h1 := (List.getElem?_eq_some_iff.mp hi).1
  have := h.1 i (wr.length + j) p q (by rw [List.getElem?_append_left h1]; exact hi) (by rw [List.getElem?_append_right (Nat.le_add_right _ _), Nat.add_sub_cancel_left]; exact hj) he
  omega
theorem dSwap {A : Nat → Prop} {wr w : va_W} (h : va_D A (wr ++ w)) : va_D A (w ++ wr) :=
  va_D.app (dSuf h) (dPre h) (fun _ _ _ _ hi hj he => dApart h hj hi he.symm)
theorem nA {A : Nat → Prop} {D : va_G} {wr w : va_W} {H : Heap} (hP : va_P D classes wr H) (hD : va_D A (wr ++ w)) {k : Nat} {q : Nat × va_E} (hk : wr[k]? = some q) : ¬ va_A w H.size q.1 := by
  rintro (⟨j, x, hj⟩ | h)
  · exact dApart hD hk hj rfl
  · exact absurd h (Nat.not_le.mpr (hP k q hk).lt)
theorem joinR {A : Nat → Prop} {D : va_G} {wr w w1 : va_W} {H H1 : Heap} (hP : va_P D classes wr H) (hD : va_D A (wr ++ w)) (hk : ∀ q : Nat, q < H.size → ¬ va_A w H.size q → H1[q]? = H[q]?) (hF : ∀ q, va_A w H.size q → A q) (hD1 : va_D (va_A w H.size) w1) : va_P D classes wr H1 ∧ va_D A (wr ++ w1) := by
  refine ⟨hP.kept (fun k q hq => hk q.1 (hP k q hq).lt (nA hP hD hq)), va_D.app (dPre hD) (hD1.weaken (fun _ _ _ h => hF _ h)) ?_⟩
  intro i j p q hi hj he
  exact nA hP hD hi (he ▸ hD1.2 j q hj)
section
variable {p : Program} {l : Launch} {e : Env} {R : Room} {s : State} {m : MethodId} {args : Array Value} {below : List Frame} {meth : Method} {c : Code} {H : Heap} {locs : List Loc} {cells slots : Nat} {Q : State → Prop}
  {y : MethodName} {bytes cc : ByteArray} {maxL nL n index mc ms pc : Nat} {ret : Option FieldType} {ws Ts : List Cond} {rm : Room} {own C : String} {b : Addr} {As rest st0 : List Value} {ls : Array Slot} {D : va_G} {w wr : va_W} {tys : List (ClassId × FieldType)} {A : Nat → Prop}
theorem xcV {wf : SC → va_W} {val : Nat × Int32 × SC} {F0' : Nat → Int32} {A0' : Nat → Nat → Int32} (S : CallFix p m c cc nL s args Ts own)
    (hM : vx_Met l y ws rm (va_Pc (.ref b :: As) (XP D w tys H.size)) (va_Qi (fun _ (_ : SC) => False) (fun (u : SC) t => aW D tys (va_A w H.size) (wf u) t) (va_A w H.size)) (vx_X (fun u : Nat => val = (u, 0, F0', A0')) (fun E u t => E = exN u ∧ aW D tys (va_A w H.size) w t) (va_A w H.size)) mc ms (va_A w H.size))
    (cw : CallW R s args own C index y bytes maxL ret ws rm mc ms n) (hK : va_K D classes tys s) (hR : va_P D classes wr H) (hP : va_P D classes w H) (hD : va_D A (wr ++ w)) (hS : va_S A s.heap H locs) (hA : ∀ q : Nat, s.heap.size ≤ q → A q) (hXS : XS A s s.heap) (hrv : ∃ cellB : Cell, H[b]? = some cellB ∧ cellB.vm.isStatics = false ∧ s.vm.findClass C = some cellB.cls) (hn : As.length = n) (hsz : ls.size = nL) (hst : st0 = As.reverse ++ .ref b :: rest) (hW : (rest.map fun v => v.category).sum ≤ 8) (hdg : decode cc pc = .ok (.invokevirtual index, 3)) (hf : cells + mc ≤ R.cells ∧ slots + ms ≤ R.slots)
    (kx : ∀ u : Nat, val = (u, 0, F0', A0') → ∀ (H1 : Heap) (locs1 : List Loc) (q9 : Addr) (ce : Cell), va_P D classes wr H1 → va_P D classes w H1 → va_D A (wr ++ w) → va_S A s.heap H1 locs1 → H1[q9]? = some ce → ce.vm = .none → s.vm.findClass (exN u) = some ce.cls → vx_W p l e R s m args below meth c H1 locs1 (cells + mc) (slots + ms) Q (F0 m pc ls rest) q9) : W p l e R s m args below meth c H locs cells slots Q (F0 m pc ls st0) := by
  have hF := frA (dSuf hD) hS hA
  refine vx_calli (vx_runV S hM cw ⟨XP.blind _, hrv, fun U hU hW9 => ⟨rfl, ⟨by rw [hU], by rw [hU]; exact hP, va_K.moved hW9.alike hK, (dSuf hD).weaken (fun _ _ _ _ => trivial)⟩, hXS.pass hS hF hU hW9⟩⟩ rfl hn hsz hst (lv_room hW) hdg hf) hS (fun q _ h => hF q h) hF (fun q _ h => hF q h) ?_ ?_
  · intro E ce q9 u t H1 locs1 ht hvm hpx hBX hz hk hS1 hce hcv hcl
    have hv : val = (u, 0, F0', A0') := hpx
    obtain ⟨hE, hP1, hK1, hD1⟩ := hBX
    rw [hE] at hcl
    rw [ht] at hP1
    obtain ⟨hR1, hD2⟩ := joinR hR hD hk hF hD1
    exact kx u hv H1 locs1 q9 ce hR1 hP1 hD2 hS1 hce hcv hcl
  · intro r u t H1 locs1 ht hvm hw hB hz hk hS1
    exact absurd hw id
theorem okV {wf : SC → va_W} {val : Nat × Int32 × SC} (S : CallFix p m c cc nL s args Ts own) (hM : Met l y ws rm (va_Pc (.ref b :: As) (SP D w tys H.size)) (va_Qi (fun v (u : SC) => (0, v, u) = val) (fun (u : SC) t => aW D tys (va_A w H.size) (wf u) t) (va_A w H.size)) mc ms (va_A w H.size)) (cw : CallW R s args own C index y bytes maxL ret ws rm mc ms n) (hK : va_K D classes tys s) (hR : va_P D classes wr H) (hP : va_P D classes w H) (hD : va_D A (wr ++ w)) (hS : va_S A s.heap H locs) (hA : ∀ q : Nat, s.heap.size ≤ q → A q) (hrv : ∃ cellB : Cell, H[b]? = some cellB ∧ cellB.vm.isStatics = false ∧ s.vm.findClass C = some cellB.cls) (hn : As.length = n) (hsz : ls.size = nL) (hst : st0 = As.reverse ++ .ref b :: rest) (hW : (rest.map fun v => v.category).sum ≤ 8) (hdg : decode cc pc = .ok (.invokevirtual index, 3)) (hf : cells + mc ≤ R.cells ∧ slots + ms ≤ R.slots)
    (kk : ∀ (H1 : Heap) (locs1 : List Loc), va_P D classes wr H1 → va_P D classes (wf val.2.2) H1 → va_D A (wr ++ wf val.2.2) → va_S A s.heap H1 locs1 → W p l e R s m args below meth c H1 locs1 (cells + mc) (slots + ms) Q (F0 m (pc + 3) ls (.int val.2.1 :: rest))) : W p l e R s m args below meth c H locs cells slots Q (F0 m pc ls st0) := by
  have hF := frA (dSuf hD) hS hA
  refine va_calli (va_runV S hM cw ⟨SP.blind _, hrv, fun U hU hW9 => ⟨rfl, by rw [hU], by rw [hU]; exact hP, va_K.moved hW9.alike hK, (dSuf hD).weaken (fun _ _ _ _ => trivial)⟩⟩ rfl hn hsz hst (lv_room hW) hdg hf) hS (fun q _ h => hF q h) hF ?_
  intro r u t H1 locs1 ht hvm hw hB hz hk hS1
  have hw : (0, r, u) = val := hw
  subst hw
  obtain ⟨hP1, hK1, hD1⟩ := hB
  rw [ht] at hP1
  obtain ⟨hR1, hD2⟩ := joinR hR hD hk hF hD1
  exact kk H1 locs1 hR1 hP1 hD2 hS1
end
theorem gInI {cy : Cond} (h : cy ∈ WALL) : GoodIn WALL (cy :: WALL) := by
  intro w hw
  have h9 : w ∈ WALL := by
    rcases List.mem_cons.mp hw with rfl | h8 <;> assumption
  exact ⟨h9, (WALL_good w h9).2⟩
section
variable {p : Program} {l : Launch} {e : Env} {R : Room} {s : State} {m : MethodId} {args : Array Value} {below : List Frame} {meth : Method} {c : Code} {H : Heap} {locs : List Loc} {cells slots : Nat} {Q : State → Prop}
  {y : MethodName} {bytes cc : ByteArray} {maxL nL n index mc ms pc : Nat} {ret : Option FieldType} {ws Ts : List Cond} {rm : Room} {own C : String} {b : Addr} {As rest st0 : List Value} {ls : Array Slot} {D : va_G} {w wr : va_W} {tys : List (ClassId × FieldType)} {A : Nat → Prop}
theorem mcV {S' : Type} {wf : S' → va_W} {val : Int32 × S'} (S : CallFix p m c cc nL s args Ts own) (hM : Met l y ws rm (va_Pc (.ref b :: As) (SP D w tys H.size)) (va_Qi (fun v (u : S') => (v, u) = val) (fun (u : S') t => aW D tys (va_A w H.size) (wf u) t) (va_A w H.size)) mc ms (va_A w H.size)) (cw : CallW R s args own C index y bytes maxL ret ws rm mc ms n) (hK : va_K D classes tys s) (hR : va_P D classes wr H) (hP : va_P D classes w H) (hD : va_D A (wr ++ w)) (hS : va_S A s.heap H locs) (hA : ∀ q : Nat, s.heap.size ≤ q → A q) (hrv : ∃ cellB : Cell, H[b]? = some cellB ∧ cellB.vm.isStatics = false ∧ s.vm.findClass C = some cellB.cls) (hn : As.length = n) (hsz : ls.size = nL) (hst : st0 = As.reverse ++ .ref b :: rest) (hW : (rest.map fun v => v.category).sum ≤ 8) (hdg : decode cc pc = .ok (.invokevirtual index, 3)) (hf : cells + mc ≤ R.cells ∧ slots + ms ≤ R.slots)
    (kk : ∀ (H1 : Heap) (locs1 : List Loc), va_P D classes wr H1 → va_P D classes (wf val.2) H1 → va_D A (wr ++ wf val.2) → va_S A s.heap H1 locs1 → W p l e R s m args below meth c H1 locs1 (cells + mc) (slots + ms) Q (F0 m (pc + 3) ls (.int val.1 :: rest))) : W p l e R s m args below meth c H locs cells slots Q (F0 m pc ls st0) := by
  have hF := frA (dSuf hD) hS hA
  refine va_calli (va_runV S hM cw ⟨SP.blind _, hrv, fun U hU hW9 => ⟨rfl, by rw [hU], by rw [hU]; exact hP, va_K.moved hW9.alike hK, (dSuf hD).weaken (fun _ _ _ _ => trivial)⟩⟩ rfl hn hsz hst (lv_room hW) hdg hf) hS (fun q _ h => hF q h) hF ?_
  intro r u t H1 locs1 ht hvm hw hB hz hk hS1
  have hw : (r, u) = val := hw
  subst hw
  obtain ⟨hP1, hK1, hD1⟩ := hB
  rw [ht] at hP1
  obtain ⟨hR1, hD2⟩ := joinR hR hD hk hF hD1
  exact kk H1 locs1 hR1 hP1 hD2 hS1
theorem scS {S' : Type} {wf : S' → va_W} {val : Int32 × S'} {hh : List (Nat × Nat × Nat × Nat)} (S : CallFix p m c cc nL s args Ts own) (hM : Met l y ws rm (va_Pc As (XP D w tys H.size)) (va_Qi (fun v (u : S') => (v, u) = val) (fun (u : S') t => aW D tys (va_A w H.size) (wf u) t) (va_A w H.size)) mc ms (va_A w H.size)) (cw : vx_CSW R s args own index y bytes maxL ret hh ws rm mc ms n) (hK : va_K D classes tys s) (hR : va_P D classes wr H) (hP : va_P D classes w H) (hD : va_D A (wr ++ w)) (hS : va_S A s.heap H locs) (hA : ∀ q : Nat, s.heap.size ≤ q → A q) (hXS : XS A s s.heap) (hn : As.length = n) (hsz : ls.size = nL) (hst : st0 = As.reverse ++ rest) (hW : (rest.map fun v => v.category).sum ≤ 8) (hdg : decode cc pc = .ok (.invokestatic index, 3)) (hf : cells + mc ≤ R.cells ∧ slots + ms ≤ R.slots)
    (kk : ∀ (H1 : Heap) (locs1 : List Loc), va_P D classes wr H1 → va_P D classes (wf val.2) H1 → va_D A (wr ++ wf val.2) → va_S A s.heap H1 locs1 → W p l e R s m args below meth c H1 locs1 (cells + mc) (slots + ms) Q (F0 m (pc + 3) ls (.int val.1 :: rest))) : W p l e R s m args below meth c H locs cells slots Q (F0 m pc ls st0) := by
  have hF := frA (dSuf hD) hS hA
  refine va_calli (vx_runSW S hM cw ⟨XP.blind _, fun U hU hW9 => ⟨rfl, ⟨by rw [hU], by rw [hU]; exact hP, va_K.moved hW9.alike hK, (dSuf hD).weaken (fun _ _ _ _ => trivial)⟩, hXS.pass hS hF hU hW9⟩⟩ rfl hn hsz hst (lv_room hW) hdg hf) hS (fun q _ h => hF q h) hF ?_
  intro r u t H1 locs1 ht hvm hw hB hz hk hS1
  have hw : (r, u) = val := hw
  subst hw
  obtain ⟨hP1, hK1, hD1⟩ := hB
  rw [ht] at hP1
  obtain ⟨hR1, hD2⟩ := joinR hR hD hk hF hD1
  exact kk H1 locs1 hR1 hP1 hD2 hS1
end
end
section
def wC (r : Nat → Nat) (k : Nat → ClassId) (F : Nat → Int32) (A : Nat → Nat → Int32) : va_W := [(r 0, .inr (0, [.int (F 0), .int (F 1), .ref (r 3), .ref (r 4), .ref (r 1), .ref (r 2)])), (r 1, .inr (1, [.int (F 2), .ref (r 5), .ref (r 6), .ref (r 7), .ref (r 8), .ref (r 9), .ref (r 10)])), (r 2, .inr (2, [.int (F 3), .ref (r 11), .ref (r 12), .ref (r 13), .ref (r 14), .ref (r 15), .ref (r 16)])), (r 3, .inl (k 0, 16, .inl (A 0))), (r 4, .inl (k 1, 16, .inl (A 1))), (r 5, .inl (k 2, 6, .inl (A 2))), (r 6, .inl (k 3, 6, .inl (A 3))), (r 7, .inl (k 4, 6, .inl (A 4))), (r 8, .inl (k 5, 6, .inl (A 5))), (r 9, .inl (k 6, 6, .inl (A 6))), (r 10, .inl (k 7, 6, .inl (A 7))), (r 11, .inl (k 8, 61, .inl (A 8))), (r 12, .inl (k 9, 61, .inl (A 9))), (r 13, .inl (k 10, 61, .inl (A 10))), (r 14, .inl (k 11, 61, .inl (A 11))), (r 15, .inl (k 12, 61, .inl (A 12))), (r 16, .inl (k 13, 61, .inl (A 13)))]
def tC (k : Nat → ClassId) : List (ClassId × FieldType) := [(k 0, .int), (k 1, .boolean), (k 2, .int), (k 3, .boolean), (k 4, .int), (k 5, .int), (k 6, .boolean), (k 7, .int), (k 8, .int), (k 9, .int), (k 10, .int), (k 11, .int), (k 12, .int), (k 13, .int)]
def CI (F : Nat → Int32) : Prop := (0 ≤ (F 1).toInt ∧ (F 1).toInt ≤ 16) ∧ (0 ≤ (F 2).toInt ∧ (F 2).toInt ≤ 6) ∧ 0 ≤ (F 3).toInt ∧ (F 3).toInt ≤ 60
theorem tw_0 : TW R_RS 213 215 217 13 prog_15_method_4_code "java/util/NoSuchElementException" "no such piece" := ⟨⟨by decide +kernel, by decide +kernel, by decide +kernel, by decide +kernel, by decide +kernel⟩, k_1, k_2, xa_3, xb_3, fun w h => by rcases List.mem_cons.mp h with rfl | h; exact (by decide +kernel); rcases List.mem_cons.mp h with rfl | h; exact (by decide +kernel); exact xc_3 w h, by decide +kernel⟩
theorem tw_1 : TW R_RS 213 218 217 13 prog_15_method_4_code "java/util/NoSuchElementException" "no such robot" := ⟨⟨by decide +kernel, by decide +kernel, by decide +kernel, by decide +kernel, by decide +kernel⟩, k_1, k_2, xa_3, xb_3, fun w h => by rcases List.mem_cons.mp h with rfl | h; exact (by decide +kernel); rcases List.mem_cons.mp h with rfl | h; exact (by decide +kernel); exact xc_3 w h, by decide +kernel⟩
theorem tw_2 : TW R_RS 213 220 217 13 prog_15_method_4_code "java/util/NoSuchElementException" "no such grant" := ⟨⟨by decide +kernel, by decide +kernel, by decide +kernel, by decide +kernel, by decide +kernel⟩, k_1, k_2, xa_3, xb_3, fun w h => by rcases List.mem_cons.mp h with rfl | h; exact (by decide +kernel); rcases List.mem_cons.mp h with rfl | h; exact (by decide +kernel); exact xc_3 w h, by decide +kernel⟩
theorem tw_3 : TW R_RS 49 222 53 7 prog_7_method_2_code "java/lang/IllegalArgumentException" "the span begins before now, is empty or ends too late" := ⟨⟨by decide +kernel, by decide +kernel, by decide +kernel, by decide +kernel, by decide +kernel⟩, k_8, k_9, xa_1, xb_1, fun w h => by rcases List.mem_cons.mp h with rfl | h; exact (by decide +kernel); rcases List.mem_cons.mp h with rfl | h; exact (by decide +kernel); exact xc_1 w h, by decide +kernel⟩
theorem tw_4 : TW R_RS 49 224 53 7 prog_7_method_2_code "java/lang/IllegalArgumentException" "there is no such priority" := ⟨⟨by decide +kernel, by decide +kernel, by decide +kernel, by decide +kernel, by decide +kernel⟩, k_8, k_9, xa_1, xb_1, fun w h => by rcases List.mem_cons.mp h with rfl | h; exact (by decide +kernel); rcases List.mem_cons.mp h with rfl | h; exact (by decide +kernel); exact xc_1 w h, by decide +kernel⟩
theorem tw_5 : TW R_RS 38 40 42 7 prog_14_method_2_code "java/lang/UnsupportedOperationException" "no room for a piece" := ⟨⟨by decide +kernel, by decide +kernel, by decide +kernel, by decide +kernel, by decide +kernel⟩, k_10, k_11, xa_0, xb_0, fun w h => by rcases List.mem_cons.mp h with rfl | h; exact (by decide +kernel); rcases List.mem_cons.mp h with rfl | h; exact (by decide +kernel); exact xc_0 w h, by decide +kernel⟩
theorem tw_6 : TW R_RS 49 51 53 7 prog_7_method_2_code "java/lang/IllegalArgumentException" "a piece is not linked with itself" := ⟨⟨by decide +kernel, by decide +kernel, by decide +kernel, by decide +kernel, by decide +kernel⟩, k_8, k_9, xa_1, xb_1, fun w h => by rcases List.mem_cons.mp h with rfl | h; exact (by decide +kernel); rcases List.mem_cons.mp h with rfl | h; exact (by decide +kernel); exact xc_1 w h, by decide +kernel⟩
theorem tw_7 : TW R_RS 63 65 67 7 prog_8_method_2_code "java/lang/IllegalStateException" "the piece is closed or a robot stands on it" := ⟨⟨by decide +kernel, by decide +kernel, by decide +kernel, by decide +kernel, by decide +kernel⟩, k_39, k_40, xa_2, xb_2, fun w h => by rcases List.mem_cons.mp h with rfl | h; exact (by decide +kernel); rcases List.mem_cons.mp h with rfl | h; exact (by decide +kernel); exact xc_2 w h, by decide +kernel⟩
theorem tw_8 : TW R_RS 38 71 42 7 prog_14_method_2_code "java/lang/UnsupportedOperationException" "no room for a robot" := ⟨⟨by decide +kernel, by decide +kernel, by decide +kernel, by decide +kernel, by decide +kernel⟩, k_10, k_11, xa_0, xb_0, fun w h => by rcases List.mem_cons.mp h with rfl | h; exact (by decide +kernel); rcases List.mem_cons.mp h with rfl | h; exact (by decide +kernel); exact xc_0 w h, by decide +kernel⟩
theorem tw_9 : TW R_RS 63 226 67 7 prog_8_method_2_code "java/lang/IllegalStateException" "the robot is halted or silent" := ⟨⟨by decide +kernel, by decide +kernel, by decide +kernel, by decide +kernel, by decide +kernel⟩, k_39, k_40, xa_2, xb_2, fun w h => by rcases List.mem_cons.mp h with rfl | h; exact (by decide +kernel); rcases List.mem_cons.mp h with rfl | h; exact (by decide +kernel); exact xc_2 w h, by decide +kernel⟩
theorem tw_10 : TW R_RS 38 91 42 7 prog_14_method_2_code "java/lang/UnsupportedOperationException" "no room for a grant" := ⟨⟨by decide +kernel, by decide +kernel, by decide +kernel, by decide +kernel, by decide +kernel⟩, k_10, k_11, xa_0, xb_0, fun w h => by rcases List.mem_cons.mp h with rfl | h; exact (by decide +kernel); rcases List.mem_cons.mp h with rfl | h; exact (by decide +kernel); exact xc_0 w h, by decide +kernel⟩
theorem tw_11 : TW R_RS 63 117 67 7 prog_8_method_2_code "java/lang/IllegalStateException" "the grant is not live" := ⟨⟨by decide +kernel, by decide +kernel, by decide +kernel, by decide +kernel, by decide +kernel⟩, k_39, k_40, xa_2, xb_2, fun w h => by rcases List.mem_cons.mp h with rfl | h; exact (by decide +kernel); rcases List.mem_cons.mp h with rfl | h; exact (by decide +kernel); exact xc_2 w h, by decide +kernel⟩
theorem tw_12 : TW R_RS 49 137 53 7 prog_7_method_2_code "java/lang/IllegalArgumentException" "the pieces are not linked" := ⟨⟨by decide +kernel, by decide +kernel, by decide +kernel, by decide +kernel, by decide +kernel⟩, k_8, k_9, xa_1, xb_1, fun w h => by rcases List.mem_cons.mp h with rfl | h; exact (by decide +kernel); rcases List.mem_cons.mp h with rfl | h; exact (by decide +kernel); exact xc_1 w h, by decide +kernel⟩
theorem tw_13 : TW R_RS 63 149 67 7 prog_8_method_2_code "java/lang/IllegalStateException" "the robot stands on its own piece alone" := ⟨⟨by decide +kernel, by decide +kernel, by decide +kernel, by decide +kernel, by decide +kernel⟩, k_39, k_40, xa_2, xb_2, fun w h => by rcases List.mem_cons.mp h with rfl | h; exact (by decide +kernel); rcases List.mem_cons.mp h with rfl | h; exact (by decide +kernel); exact xc_2 w h, by decide +kernel⟩
theorem tw_14 : TW R_RS 63 151 67 7 prog_8_method_2_code "java/lang/IllegalStateException" "no other robot stands on the piece" := ⟨⟨by decide +kernel, by decide +kernel, by decide +kernel, by decide +kernel, by decide +kernel⟩, k_39, k_40, xa_2, xb_2, fun w h => by rcases List.mem_cons.mp h with rfl | h; exact (by decide +kernel); rcases List.mem_cons.mp h with rfl | h; exact (by decide +kernel); exact xc_2 w h, by decide +kernel⟩
theorem tw_15 : TW R_RS 63 163 67 7 prog_8_method_2_code "java/lang/IllegalStateException" "the zone is so already, or a robot stands on the piece" := ⟨⟨by decide +kernel, by decide +kernel, by decide +kernel, by decide +kernel, by decide +kernel⟩, k_39, k_40, xa_2, xb_2, fun w h => by rcases List.mem_cons.mp h with rfl | h; exact (by decide +kernel); rcases List.mem_cons.mp h with rfl | h; exact (by decide +kernel); exact xc_2 w h, by decide +kernel⟩
theorem tw_16 : TW R_RS 63 171 67 7 prog_8_method_2_code "java/lang/IllegalStateException" "the robot is so already" := ⟨⟨by decide +kernel, by decide +kernel, by decide +kernel, by decide +kernel, by decide +kernel⟩, k_39, k_40, xa_2, xb_2, fun w h => by rcases List.mem_cons.mp h with rfl | h; exact (by decide +kernel); rcases List.mem_cons.mp h with rfl | h; exact (by decide +kernel); exact xc_2 w h, by decide +kernel⟩
theorem tw_17 : TW R_RS 49 179 53 7 prog_7_method_2_code "java/lang/IllegalArgumentException" "the time is before now or above the last one" := ⟨⟨by decide +kernel, by decide +kernel, by decide +kernel, by decide +kernel, by decide +kernel⟩, k_8, k_9, xa_1, xb_1, fun w h => by rcases List.mem_cons.mp h with rfl | h; exact (by decide +kernel); rcases List.mem_cons.mp h with rfl | h; exact (by decide +kernel); exact xc_1 w h, by decide +kernel⟩
theorem tw_18 : TW R_RS 49 184 53 7 prog_7_method_2_code "java/lang/IllegalArgumentException" "the time is before now" := ⟨⟨by decide +kernel, by decide +kernel, by decide +kernel, by decide +kernel, by decide +kernel⟩, k_8, k_9, xa_1, xb_1, fun w h => by rcases List.mem_cons.mp h with rfl | h; exact (by decide +kernel); rcases List.mem_cons.mp h with rfl | h; exact (by decide +kernel); exact xc_1 w h, by decide +kernel⟩
theorem tw_19 : TW R_RS 49 189 53 7 prog_7_method_2_code "java/lang/IllegalArgumentException" "nothing is told of a robot by this number" := ⟨⟨by decide +kernel, by decide +kernel, by decide +kernel, by decide +kernel, by decide +kernel⟩, k_8, k_9, xa_1, xb_1, fun w h => by rcases List.mem_cons.mp h with rfl | h; exact (by decide +kernel); rcases List.mem_cons.mp h with rfl | h; exact (by decide +kernel); exact xc_1 w h, by decide +kernel⟩
theorem tw_20 : TW R_RS 49 201 53 7 prog_7_method_2_code "java/lang/IllegalArgumentException" "nothing is told of a grant by this number" := ⟨⟨by decide +kernel, by decide +kernel, by decide +kernel, by decide +kernel, by decide +kernel⟩, k_8, k_9, xa_1, xb_1, fun w h => by rcases List.mem_cons.mp h with rfl | h; exact (by decide +kernel); rcases List.mem_cons.mp h with rfl | h; exact (by decide +kernel); exact xc_1 w h, by decide +kernel⟩
end
