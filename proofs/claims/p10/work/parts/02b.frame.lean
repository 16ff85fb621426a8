theorem pSuf {D : va_G} {wr w : va_W} {H : Heap} (h : va_P D classes (wr ++ w) H) : va_P D classes w H := by
  intro k q hk
  exact h (wr.length + k) q (by rw [List.getElem?_append_right (Nat.le_add_right _ _), Nat.add_sub_cancel_left]; exact hk)
theorem pPre {D : va_G} {wr w : va_W} {H : Heap} (h : va_P D classes (wr ++ w) H) : va_P D classes wr H := by
  intro k q hk
  exact h k q (by rw [List.getElem?_append_left (List.getElem?_eq_some_iff.mp hk).1]; exact hk)
theorem pApp {D : va_G} {wr w : va_W} {H : Heap} (h1 : va_P D classes wr H) (h2 : va_P D classes w H) : va_P D classes (wr ++ w) H := by
  intro k q hk
  rcases Nat.lt_or_ge k wr.length with h | h
  · rw [List.getElem?_append_left h] at hk; exact h1 k q hk
  · rw [List.getElem?_append_right h] at hk; exact h2 _ q hk
theorem dSuf {A : Nat → Prop} {wr w : va_W} (h : va_D A (wr ++ w)) : va_D A w := by
  have e : ∀ (k : Nat) (q : Nat × va_E), w[k]? = some q → (wr ++ w)[wr.length + k]? = some q := fun k q hk => by
    rw [List.getElem?_append_right (Nat.le_add_right _ _), Nat.add_sub_cancel_left]; exact hk
  exact ⟨fun i j p q hi hj he => by have := h.1 _ _ p q (e i p hi) (e j q hj) he; omega, fun k q hk => h.2 _ q (e k q hk)⟩
theorem dPre {A : Nat → Prop} {wr w : va_W} (h : va_D A (wr ++ w)) : va_D A wr := by
  have e : ∀ (k : Nat) (q : Nat × va_E), wr[k]? = some q → (wr ++ w)[k]? = some q := fun k q hk => by
    rw [List.getElem?_append_left (List.getElem?_eq_some_iff.mp hk).1]; exact hk
  exact ⟨fun i j p q hi hj he => h.1 _ _ p q (e i p hi) (e j q hj) he, fun k q hk => h.2 _ q (e k q hk)⟩
theorem dApart {A : Nat → Prop} {wr w : va_W} (h : va_D A (wr ++ w)) {i j : Nat} {p q : Nat × va_E} (hi : wr[i]? = some p) (hj : w[j]? = some q) : p.1 ≠ q.1 := by
  intro he
  have h1 := (List.getElem?_eq_some_iff.mp hi).1
  have := h.1 i (wr.length + j) p q (by rw [List.getElem?_append_left h1]; exact hi) (by rw [List.getElem?_append_right (Nat.le_add_right _ _), Nat.add_sub_cancel_left]; exact hj) he
  omega
theorem dSwap {A : Nat → Prop} {wr w : va_W} (h : va_D A (wr ++ w)) : va_D A (w ++ wr) :=
  va_D.app (dSuf h) (dPre h) (fun _ _ _ _ hi hj he => dApart h hj hi he.symm)
theorem nA {A : Nat → Prop} {D : va_G} {wr w : va_W} {H : Heap} (hP : va_P D classes wr H) (hD : va_D A (wr ++ w)) {k : Nat} {q : Nat × va_E} (hk : wr[k]? = some q) : ¬ va_A w H.size q.1 := by
  rintro (⟨j, x, hj⟩ | h)
  · exact dApart hD hk hj rfl
  · exact absurd h (Nat.not_le.mpr (hP k q hk).lt)
theorem joinR {A : Nat → Prop} {D : va_G} {wr w w1 : va_W} {H H1 : Heap} (hP : va_P D classes wr H) (hD : va_D A (wr ++ w)) (hk : ∀ q : Nat, q < H.size → ¬ va_A w H.size q → H1[q]? = H[q]?) (hF : ∀ q, va_A w H.size q → A q) (hD1 : va_D (va_A w H.size) w1) : va_P D classes wr H1 ∧ va_D A (wr ++ w1) := by
  refine ⟨hP.kept (fun k q hq => hk q.1 (hP k q hq).lt (nA hP hD hq)), va_D.app (dPre hD) (hD1.weaken (fun _ _ _ h => hF _ h)) ?_⟩
  intro i j p q hi hj he
  exact nA hP hD hi (he ▸ hD1.2 j q hj)
section
variable {p : Program} {l : Launch} {e : Env} {R : Room} {s : State} {m : MethodId} {args : Array Value} {below : List Frame} {meth : Method} {c : Code} {H : Heap} {locs : List Loc} {cells slots : Nat} {Q : State → Prop}
  {y : MethodName} {bytes cc : ByteArray} {maxL nL n index mc ms pc : Nat} {ret : Option FieldType} {ws Ts : List Cond} {rm : Room} {own C : String} {b : Addr} {As rest st0 : List Value} {ls : Array Slot} {D : va_G} {w wr : va_W} {tys : List (ClassId × FieldType)} {A : Nat → Prop}
theorem xcV {wf : SC → va_W} {val : Nat × Int32 × SC} {F0' : Nat → Int32} {A0' : Nat → Nat → Int32} (S : CallFix p m c cc nL s args Ts own)
    (hM : vx_Met l y ws rm (va_Pc (.ref b :: As) (XP D w tys H.size)) (va_Qi (fun _ (_ : SC) => False) (fun (u : SC) t => aW D tys (va_A w H.size) (wf u) t) (va_A w H.size)) (vx_X (fun u : Nat => val = (u, 0, F0', A0')) (fun E u t => E = exN u ∧ aW D tys (va_A w H.size) w t) (va_A w H.size)) mc ms (va_A w H.size))
    (cw : CallW R s args own C index y bytes maxL ret ws rm mc ms n) (hK : va_K D classes tys s) (hR : va_P D classes wr H) (hP : va_P D classes w H) (hD : va_D A (wr ++ w)) (hS : va_S A s.heap H locs) (hA : ∀ q : Nat, s.heap.size ≤ q → A q) (hXS : XS A s s.heap) (hrv : ∃ cellB : Cell, H[b]? = some cellB ∧ cellB.vm.isStatics = false ∧ s.vm.findClass C = some cellB.cls) (hn : As.length = n) (hsz : ls.size = nL) (hst : st0 = As.reverse ++ .ref b :: rest) (hW : (rest.map fun v => v.category).sum ≤ 8) (hdg : decode cc pc = .ok (.invokevirtual index, 3)) (hf : cells + mc ≤ R.cells ∧ slots + ms ≤ R.slots)
    (kx : ∀ u : Nat, val = (u, 0, F0', A0') → ∀ (H1 : Heap) (locs1 : List Loc) (q9 : Addr) (ce : Cell), va_P D classes wr H1 → va_P D classes w H1 → va_D A (wr ++ w) → va_S A s.heap H1 locs1 → H1[q9]? = some ce → ce.vm = .none → s.vm.findClass (exN u) = some ce.cls → vx_W p l e R s m args below meth c H1 locs1 (cells + mc) (slots + ms) Q (F0 m pc ls rest) q9) : W p l e R s m args below meth c H locs cells slots Q (F0 m pc ls st0) := by
  have hF := frA (dSuf hD) hS hA
  refine vx_calli (vx_runV S hM cw ⟨XP.blind _, hrv, fun U hU hW9 => ⟨rfl, ⟨by rw [hU], by rw [hU]; exact hP, va_K.moved hW9.alike hK, (dSuf hD).weaken (fun _ _ _ _ => trivial)⟩, hXS.pass hS hF hU hW9⟩⟩ rfl hn hsz hst (lv_room hW) hdg hf) hS (fun q _ h => hF q h) hF (fun q _ h => hF q h) ?_ ?_
  · intro E ce q9 u t H1 locs1 ht hvm hpx hBX hz hk hS1 hce hcv hcl
    have hv : val = (u, 0, F0', A0') := hpx
    obtain ⟨hE, hP1, hK1, hD1⟩ := hBX
    rw [hE] at hcl
    rw [ht] at hP1
    obtain ⟨hR1, hD2⟩ := joinR hR hD hk hF hD1
    exact kx u hv H1 locs1 q9 ce hR1 hP1 hD2 hS1 hce hcv hcl
  · intro r u t H1 locs1 ht hvm hw hB hz hk hS1
    exact absurd hw id
theorem okV {wf : SC → va_W} {val : Nat × Int32 × SC} (S : CallFix p m c cc nL s args Ts own) (hM : Met l y ws rm (va_Pc (.ref b :: As) (SP D w tys H.size)) (va_Qi (fun v (u : SC) => (0, v, u) = val) (fun (u : SC) t => aW D tys (va_A w H.size) (wf u) t) (va_A w H.size)) mc ms (va_A w H.size)) (cw : CallW R s args own C index y bytes maxL ret ws rm mc ms n) (hK : va_K D classes tys s) (hR : va_P D classes wr H) (hP : va_P D classes w H) (hD : va_D A (wr ++ w)) (hS : va_S A s.heap H locs) (hA : ∀ q : Nat, s.heap.size ≤ q → A q) (hrv : ∃ cellB : Cell, H[b]? = some cellB ∧ cellB.vm.isStatics = false ∧ s.vm.findClass C = some cellB.cls) (hn : As.length = n) (hsz : ls.size = nL) (hst : st0 = As.reverse ++ .ref b :: rest) (hW : (rest.map fun v => v.category).sum ≤ 8) (hdg : decode cc pc = .ok (.invokevirtual index, 3)) (hf : cells + mc ≤ R.cells ∧ slots + ms ≤ R.slots)
    (kk : ∀ (H1 : Heap) (locs1 : List Loc), va_P D classes wr H1 → va_P D classes (wf val.2.2) H1 → va_D A (wr ++ wf val.2.2) → va_S A s.heap H1 locs1 → W p l e R s m args below meth c H1 locs1 (cells + mc) (slots + ms) Q (F0 m (pc + 3) ls (.int val.2.1 :: rest))) : W p l e R s m args below meth c H locs cells slots Q (F0 m pc ls st0) := by
  have hF := frA (dSuf hD) hS hA
  refine va_calli (va_runV S hM cw ⟨SP.blind _, hrv, fun U hU hW9 => ⟨rfl, by rw [hU], by rw [hU]; exact hP, va_K.moved hW9.alike hK, (dSuf hD).weaken (fun _ _ _ _ => trivial)⟩⟩ rfl hn hsz hst (lv_room hW) hdg hf) hS (fun q _ h => hF q h) hF ?_
  intro r u t H1 locs1 ht hvm hw hB hz hk hS1
  have hw : (0, r, u) = val := hw
  subst hw
  obtain ⟨hP1, hK1, hD1⟩ := hB
  rw [ht] at hP1
  obtain ⟨hR1, hD2⟩ := joinR hR hD hk hF hD1
  exact kk H1 locs1 hR1 hP1 hD2 hS1
end
theorem gInI {cy : Cond} (h : cy ∈ WALL) : GoodIn WALL (cy :: WALL) := by
  intro w hw
  have h9 : w ∈ WALL := by
    rcases List.mem_cons.mp hw with rfl | h8 <;> assumption
  exact ⟨h9, (WALL_good w h9).2⟩
section
variable {p : Program} {l : Launch} {e : Env} {R : Room} {s : State} {m : MethodId} {args : Array Value} {below : List Frame} {meth : Method} {c : Code} {H : Heap} {locs : List Loc} {cells slots : Nat} {Q : State → Prop}
  {y : MethodName} {bytes cc : ByteArray} {maxL nL n index mc ms pc : Nat} {ret : Option FieldType} {ws Ts : List Cond} {rm : Room} {own C : String} {b : Addr} {As rest st0 : List Value} {ls : Array Slot} {D : va_G} {w wr : va_W} {tys : List (ClassId × FieldType)} {A : Nat → Prop}
theorem mcV {S' : Type} {wf : S' → va_W} {val : Int32 × S'} (S : CallFix p m c cc nL s args Ts own) (hM : Met l y ws rm (va_Pc (.ref b :: As) (SP D w tys H.size)) (va_Qi (fun v (u : S') => (v, u) = val) (fun (u : S') t => aW D tys (va_A w H.size) (wf u) t) (va_A w H.size)) mc ms (va_A w H.size)) (cw : CallW R s args own C index y bytes maxL ret ws rm mc ms n) (hK : va_K D classes tys s) (hR : va_P D classes wr H) (hP : va_P D classes w H) (hD : va_D A (wr ++ w)) (hS : va_S A s.heap H locs) (hA : ∀ q : Nat, s.heap.size ≤ q → A q) (hrv : ∃ cellB : Cell, H[b]? = some cellB ∧ cellB.vm.isStatics = false ∧ s.vm.findClass C = some cellB.cls) (hn : As.length = n) (hsz : ls.size = nL) (hst : st0 = As.reverse ++ .ref b :: rest) (hW : (rest.map fun v => v.category).sum ≤ 8) (hdg : decode cc pc = .ok (.invokevirtual index, 3)) (hf : cells + mc ≤ R.cells ∧ slots + ms ≤ R.slots)
    (kk : ∀ (H1 : Heap) (locs1 : List Loc), va_P D classes wr H1 → va_P D classes (wf val.2) H1 → va_D A (wr ++ wf val.2) → va_S A s.heap H1 locs1 → W p l e R s m args below meth c H1 locs1 (cells + mc) (slots + ms) Q (F0 m (pc + 3) ls (.int val.1 :: rest))) : W p l e R s m args below meth c H locs cells slots Q (F0 m pc ls st0) := by
  have hF := frA (dSuf hD) hS hA
  refine va_calli (va_runV S hM cw ⟨SP.blind _, hrv, fun U hU hW9 => ⟨rfl, by rw [hU], by rw [hU]; exact hP, va_K.moved hW9.alike hK, (dSuf hD).weaken (fun _ _ _ _ => trivial)⟩⟩ rfl hn hsz hst (lv_room hW) hdg hf) hS (fun q _ h => hF q h) hF ?_
  intro r u t H1 locs1 ht hvm hw hB hz hk hS1
  have hw : (r, u) = val := hw
  subst hw
  obtain ⟨hP1, hK1, hD1⟩ := hB
  rw [ht] at hP1
  obtain ⟨hR1, hD2⟩ := joinR hR hD hk hF hD1
  exact kk H1 locs1 hR1 hP1 hD2 hS1
theorem scS {S' : Type} {wf : S' → va_W} {val : Int32 × S'} {hh : List (Nat × Nat × Nat × Nat)} (S : CallFix p m c cc nL s args Ts own) (hM : Met l y ws rm (va_Pc As (XP D w tys H.size)) (va_Qi (fun v (u : S') => (v, u) = val) (fun (u : S') t => aW D tys (va_A w H.size) (wf u) t) (va_A w H.size)) mc ms (va_A w H.size)) (cw : vx_CSW R s args own index y bytes maxL ret hh ws rm mc ms n) (hK : va_K D classes tys s) (hR : va_P D classes wr H) (hP : va_P D classes w H) (hD : va_D A (wr ++ w)) (hS : va_S A s.heap H locs) (hA : ∀ q : Nat, s.heap.size ≤ q → A q) (hXS : XS A s s.heap) (hn : As.length = n) (hsz : ls.size = nL) (hst : st0 = As.reverse ++ rest) (hW : (rest.map fun v => v.category).sum ≤ 8) (hdg : decode cc pc = .ok (.invokestatic index, 3)) (hf : cells + mc ≤ R.cells ∧ slots + ms ≤ R.slots)
    (kk : ∀ (H1 : Heap) (locs1 : List Loc), va_P D classes wr H1 → va_P D classes (wf val.2) H1 → va_D A (wr ++ wf val.2) → va_S A s.heap H1 locs1 → W p l e R s m args below meth c H1 locs1 (cells + mc) (slots + ms) Q (F0 m (pc + 3) ls (.int val.1 :: rest))) : W p l e R s m args below meth c H locs cells slots Q (F0 m pc ls st0) := by
  have hF := frA (dSuf hD) hS hA
  refine va_calli (vx_runSW S hM cw ⟨XP.blind _, fun U hU hW9 => ⟨rfl, ⟨by rw [hU], by rw [hU]; exact hP, va_K.moved hW9.alike hK, (dSuf hD).weaken (fun _ _ _ _ => trivial)⟩, hXS.pass hS hF hU hW9⟩⟩ rfl hn hsz hst (lv_room hW) hdg hf) hS (fun q _ h => hF q h) hF ?_
  intro r u t H1 locs1 ht hvm hw hB hz hk hS1
  have hw : (r, u) = val := hw
  subst hw
  obtain ⟨hP1, hK1, hD1⟩ := hB
  rw [ht] at hP1
  obtain ⟨hR1, hD2⟩ := joinR hR hD hk hF hD1
  exact kk H1 locs1 hR1 hP1 hD2 hS1
end
