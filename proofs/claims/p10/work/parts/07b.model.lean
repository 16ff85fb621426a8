def f_Mo_thrown (F : Nat → Int32) (A : Nat → Nat → Int32) : Int32 := F 0
set_option maxHeartbeats 4000000 in
set_option maxRecDepth 100000 in
theorem c_Mo_thrown (l : Launch) (dC : Nat → ClassId) (dI : Nat → Nat → Nat) (r : Nat → Nat) (k : Nat → ClassId) (F : Nat → Int32) (A : Nat → Nat → Int32) : Met l y_Mo_thrown w_Mo_thrown ({ frames := 0, cells := 0, slots := 0, locals := 0 }) (va_Pc [.ref (r 0)] (RO (dC, dI) (wM r k F A) (tM k))) (vp_Si (fun v => v = f_Mo_thrown F A)) 0 0 (fun _ => False) := by
  refine Met.ofW (cc := b_Mo_thrown) (maxL := 1) (ret := (some .int)) (by decide) rfl ?_
  intro p e s m args below meth c s₁ B hml hv0
  obtain ⟨rfl, hP, hK⟩ := hv0
  have hx := B.exec
  have hb := B.bytes
  have hr := B.returns
  have hts := atoms_spec (ws := w_Mo_thrown) B.pre
  have hW : ∀ w ∈ WALL, w.before ([.ref (r 0)] : List Value).toArray s = true := fun w h => hts w (List.mem_cons_of_mem _ h)
  have hown : s.vm.findClass R_Mo = some m.cls := findClass_of_methodNamed B.named
  have hlocks := B.notSynchronized
  have hl := lv_entry ([.ref (r 0)]) (n := 1) (Nat.le_of_ble_eq_true rfl)
  rw [lg_entry_eq]
  generalize (lg_sl ([.ref (r 0)]) ++ List.replicate (1 - (lg_sl ([.ref (r 0)])).length) Slot.unset).toArray = ls at hl ⊢
  have hl : lv_has ls 1 [(0, .ref (r 0))] := hl
  have hv := f_Mo_thrown.eq_1 F A
  refine lv_aload_n hx hb d_Mo_thrown_0 rfl (lv_at hl 0 rfl) ?_
  refine va_get (D := (dC, dI)) (ci := 3) (v := .int (F 0)) (C := R_Mo) (T := F_Mo) (N := 19) hx hb hW i_Mo hown hK hP 0 rfl rfl 0 (by decide) (hW _ k_189) (fun _ h9 => h9) rfl d_Mo_thrown_1 ?_
  exact W.iret (v := F 0) hx hb hr (fun t ht hW9 => ⟨F 0, rfl, hv.symm, ht⟩) (fun q hq => nomatch hq) d_Mo_thrown_4
def f_Mo_in (vv lo hi : Int32) : Int32 := if vv < lo then 0 else (if hi < vv then 0 else 1)
set_option maxHeartbeats 4000000 in
set_option maxRecDepth 100000 in
theorem c_Mo_in (l : Launch)  (vv lo hi : Int32) : Met l y_Mo_in w_Mo_in ({ frames := 0, cells := 0, slots := 0, locals := 0 }) (va_Pc [.int vv, .int lo, .int hi] (fun _ => True)) (vp_Si (fun v => v = f_Mo_in vv lo hi)) 0 0 (fun _ => False) := by
  refine Met.ofW (cc := b_Mo_in) (maxL := 3) (ret := (some .boolean)) (by decide) rfl ?_
  intro p e s m args below meth c s₁ B hml hv0
  obtain ⟨rfl, -⟩ := hv0
  have hx := B.exec
  have hb := B.bytes
  have hr := B.returns
  have hts := atoms_spec (ws := w_Mo_in) B.pre
  have hW : ∀ w ∈ WALL, w.before ([.int vv, .int lo, .int hi] : List Value).toArray s = true := fun w h => hts w (List.mem_cons_of_mem _ h)
  have hown : s.vm.findClass R_Mo = some m.cls := findClass_of_methodNamed B.named
  have hlocks := B.notSynchronized
  have hl := lv_entry ([.int vv, .int lo, .int hi]) (n := 3) (Nat.le_of_ble_eq_true rfl)
  rw [lg_entry_eq]
  generalize (lg_sl ([.int vv, .int lo, .int hi]) ++ List.replicate (3 - (lg_sl ([.int vv, .int lo, .int hi])).length) Slot.unset).toArray = ls at hl ⊢
  have hl : lv_has ls 3 [(0, .int vv), (1, .int lo), (2, .int hi)] := hl
  have hv := f_Mo_in.eq_1 vv lo hi
  refine lv_iload_n hx hb d_Mo_in_0 rfl (lv_at hl 0 rfl) ?_
  refine lv_iload_n hx hb d_Mo_in_1 rfl (lv_at hl 1 rfl) ?_
  refine lv_icmp_lt (tgt := 14) hx hb d_Mo_in_2 (by decide) (fun c_1 => ?_) (fun c_1 => ?_)
  · have hv := hv.trans (if_pos c_1)
    refine lv_iconst (v := 0) hx hb d_Mo_in_14 (by decide) ?_
    exact W.zret (v := 0) (ty := .boolean) hx hb hr rfl (fun t ht hW9 => ⟨0, rfl, hv.symm, ht⟩) (fun q hq => nomatch hq) d_Mo_in_15
  · have hv := hv.trans (if_neg c_1)
    refine lv_iload_n hx hb d_Mo_in_5 rfl (lv_at hl 0 rfl) ?_
    refine lv_iload_n hx hb d_Mo_in_6 rfl (lv_at hl 2 rfl) ?_
    refine lv_icmp_gt (tgt := 14) hx hb d_Mo_in_7 (by decide) (fun c_2 => ?_) (fun c_2 => ?_)
    · have hv := hv.trans (if_pos c_2)
      refine lv_iconst (v := 0) hx hb d_Mo_in_14 (by decide) ?_
      exact W.zret (v := 0) (ty := .boolean) hx hb hr rfl (fun t ht hW9 => ⟨0, rfl, hv.symm, ht⟩) (fun q hq => nomatch hq) d_Mo_in_15
    · have hv := hv.trans (if_neg c_2)
      refine lv_iconst (v := 1) hx hb d_Mo_in_10 (by decide) ?_
      refine lv_goto (tgt := 15) hx hb d_Mo_in_11 (by decide) ?_
      exact W.zret (v := 1) (ty := .boolean) hx hb hr rfl (fun t ht hW9 => ⟨1, rfl, hv.symm, ht⟩) (fun q hq => nomatch hq) d_Mo_in_15
theorem b01_f_Mo_in (v lo hi : Int32) : f_Mo_in v lo hi = 0 ∨ f_Mo_in v lo hi = 1 := by
  unfold f_Mo_in
  repeat' split
  all_goals first | exact Or.inl rfl | exact Or.inr rfl
theorem in_spec {v a b : Int32} (h : ¬ f_Mo_in v a b = 0) : a.toInt ≤ v.toInt ∧ v.toInt ≤ b.toInt := by
  unfold f_Mo_in at h
  by_cases h1 : v < a
  · rw [if_pos h1] at h; exact absurd rfl h
  · rw [if_neg h1] at h
    by_cases h2 : b < v
    · rw [if_pos h2] at h; exact absurd rfl h
    · rw [Int32.lt_iff_toInt_lt] at h1 h2; omega
def f_Mo_isPiece (F : Nat → Int32) (A : Nat → Nat → Int32) (pc : Int32) : Int32 := f_Mo_in pc 0 ((F 2) - 1)
set_option maxHeartbeats 4000000 in
set_option maxRecDepth 100000 in
theorem c_Mo_isPiece (l : Launch) (dC : Nat → ClassId) (dI : Nat → Nat → Nat) (r : Nat → Nat) (k : Nat → ClassId) (F : Nat → Int32) (A : Nat → Nat → Int32) (pc : Int32) : Met l y_Mo_isPiece w_Mo_isPiece ({ frames := 1, cells := 0, slots := 0, locals := 22 }) (va_Pc [.ref (r 0), .int pc] (RO (dC, dI) (wM r k F A) (tM k))) (vp_Si (fun v => v = f_Mo_isPiece F A pc)) 0 0 (fun _ => False) := by
  refine Met.ofW (cc := b_Mo_isPiece) (maxL := 2) (ret := (some .boolean)) (by decide) rfl ?_
  intro p e s m args below meth c s₁ B hml hv0
  obtain ⟨rfl, hP, hK⟩ := hv0
  have hx := B.exec
  have hb := B.bytes
  have hr := B.returns
  have hts := atoms_spec (ws := w_Mo_isPiece) B.pre
  have hW : ∀ w ∈ WALL, w.before ([.ref (r 0), .int pc] : List Value).toArray s = true := fun w h => hts w (List.mem_cons_of_mem _ h)
  have hown : s.vm.findClass R_Mo = some m.cls := findClass_of_methodNamed B.named
  have hlocks := B.notSynchronized
  have hl := lv_entry ([.ref (r 0), .int pc]) (n := 2) (Nat.le_of_ble_eq_true rfl)
  rw [lg_entry_eq]
  generalize (lg_sl ([.ref (r 0), .int pc]) ++ List.replicate (2 - (lg_sl ([.ref (r 0), .int pc])).length) Slot.unset).toArray = ls at hl ⊢
  have hl : lv_has ls 2 [(0, .ref (r 0)), (1, .int pc)] := hl
  have hv := f_Mo_isPiece.eq_1 F A pc
  refine lv_iload_n hx hb d_Mo_isPiece_0 rfl (lv_at hl 1 rfl) ?_
  refine lv_iconst (v := 0) hx hb d_Mo_isPiece_1 (by decide) ?_
  refine lv_aload_n hx hb d_Mo_isPiece_2 rfl (lv_at hl 0 rfl) ?_
  refine va_get (D := (dC, dI)) (ci := 3) (v := .int (F 2)) (C := R_Mo) (T := F_Mo) (N := 19) hx hb hW i_Mo hown hK hP 0 rfl rfl 2 (by decide) (hW _ k_190) (fun _ h9 => h9) rfl d_Mo_isPiece_3 ?_
  refine lv_iconst (v := 1) hx hb d_Mo_isPiece_6 (by decide) ?_
  refine lv_isub hx hb d_Mo_isPiece_7 ?_
  refine rdS (rest := []) ⟨hx, hb, hml, hown, hW⟩ (c_Mo_in l pc 0 ((F 2) - 1)) (va_cwS 3 hW (gInS k_191 k_192 k_193 k_194) rfl rfl rfl (by decide +kernel) ⟨Nat.le_of_ble_eq_true rfl, Nat.le_of_ble_eq_true rfl⟩) rfl hl.1 rfl (Nat.le_of_ble_eq_true rfl) d_Mo_isPiece_8 ⟨Nat.zero_le _, Nat.zero_le _⟩ ?_
  exact W.zret (v := f_Mo_in pc 0 ((F 2) - 1)) (ty := .boolean) hx hb hr (nar01 (b01_f_Mo_in pc 0 ((F 2) - 1))) (fun t ht hW9 => ⟨f_Mo_in pc 0 ((F 2) - 1), rfl, hv.symm, ht⟩) (fun q hq => nomatch hq) d_Mo_isPiece_11
theorem mxP {F : Nat → Int32} {A : Nat → Nat → Int32} {p : Int32} (hI : SI F) (h : ¬ f_Mo_isPiece F A p = 0) : vp_in p 16 := by
  have h2 := in_spec (v := p) (a := 0) (b := F 2 - 1) h
  obtain ⟨⟨hp0, hp1⟩, ⟨hr0, hr1⟩, hg0, hg1⟩ := hI
  have h3 := sub1 (x := F 2) (by omega) (by omega)
  have : (0 : Int32).toInt = 0 := rfl
  rw [vp_in_iff]; omega
def f_Mo_isRobot (F : Nat → Int32) (A : Nat → Nat → Int32) (rb : Int32) : Int32 := f_Mo_in rb 0 ((F 3) - 1)
set_option maxHeartbeats 4000000 in
set_option maxRecDepth 100000 in
theorem c_Mo_isRobot (l : Launch) (dC : Nat → ClassId) (dI : Nat → Nat → Nat) (r : Nat → Nat) (k : Nat → ClassId) (F : Nat → Int32) (A : Nat → Nat → Int32) (rb : Int32) : Met l y_Mo_isRobot w_Mo_isRobot ({ frames := 1, cells := 0, slots := 0, locals := 22 }) (va_Pc [.ref (r 0), .int rb] (RO (dC, dI) (wM r k F A) (tM k))) (vp_Si (fun v => v = f_Mo_isRobot F A rb)) 0 0 (fun _ => False) := by
  refine Met.ofW (cc := b_Mo_isRobot) (maxL := 2) (ret := (some .boolean)) (by decide) rfl ?_
  intro p e s m args below meth c s₁ B hml hv0
  obtain ⟨rfl, hP, hK⟩ := hv0
  have hx := B.exec
  have hb := B.bytes
  have hr := B.returns
  have hts := atoms_spec (ws := w_Mo_isRobot) B.pre
  have hW : ∀ w ∈ WALL, w.before ([.ref (r 0), .int rb] : List Value).toArray s = true := fun w h => hts w (List.mem_cons_of_mem _ h)
  have hown : s.vm.findClass R_Mo = some m.cls := findClass_of_methodNamed B.named
  have hlocks := B.notSynchronized
  have hl := lv_entry ([.ref (r 0), .int rb]) (n := 2) (Nat.le_of_ble_eq_true rfl)
  rw [lg_entry_eq]
  generalize (lg_sl ([.ref (r 0), .int rb]) ++ List.replicate (2 - (lg_sl ([.ref (r 0), .int rb])).length) Slot.unset).toArray = ls at hl ⊢
  have hl : lv_has ls 2 [(0, .ref (r 0)), (1, .int rb)] := hl
  have hv := f_Mo_isRobot.eq_1 F A rb
  refine lv_iload_n hx hb d_Mo_isRobot_0 rfl (lv_at hl 1 rfl) ?_
  refine lv_iconst (v := 0) hx hb d_Mo_isRobot_1 (by decide) ?_
  refine lv_aload_n hx hb d_Mo_isRobot_2 rfl (lv_at hl 0 rfl) ?_
  refine va_get (D := (dC, dI)) (ci := 3) (v := .int (F 3)) (C := R_Mo) (T := F_Mo) (N := 19) hx hb hW i_Mo hown hK hP 0 rfl rfl 5 (by decide) (hW _ k_195) (fun _ h9 => h9) rfl d_Mo_isRobot_3 ?_
  refine lv_iconst (v := 1) hx hb d_Mo_isRobot_6 (by decide) ?_
  refine lv_isub hx hb d_Mo_isRobot_7 ?_
  refine rdS (rest := []) ⟨hx, hb, hml, hown, hW⟩ (c_Mo_in l rb 0 ((F 3) - 1)) (va_cwS 3 hW (gInS k_191 k_192 k_193 k_194) rfl rfl rfl (by decide +kernel) ⟨Nat.le_of_ble_eq_true rfl, Nat.le_of_ble_eq_true rfl⟩) rfl hl.1 rfl (Nat.le_of_ble_eq_true rfl) d_Mo_isRobot_8 ⟨Nat.zero_le _, Nat.zero_le _⟩ ?_
  exact W.zret (v := f_Mo_in rb 0 ((F 3) - 1)) (ty := .boolean) hx hb hr (nar01 (b01_f_Mo_in rb 0 ((F 3) - 1))) (fun t ht hW9 => ⟨f_Mo_in rb 0 ((F 3) - 1), rfl, hv.symm, ht⟩) (fun q hq => nomatch hq) d_Mo_isRobot_11
theorem mxR {F : Nat → Int32} {A : Nat → Nat → Int32} {p : Int32} (hI : SI F) (h : ¬ f_Mo_isRobot F A p = 0) : vp_in p 6 := by
  have h2 := in_spec (v := p) (a := 0) (b := F 3 - 1) h
  obtain ⟨⟨hp0, hp1⟩, ⟨hr0, hr1⟩, hg0, hg1⟩ := hI
  have h3 := sub1 (x := F 3) (by omega) (by omega)
  have : (0 : Int32).toInt = 0 := rfl
  rw [vp_in_iff]; omega
theorem mxA {F : Nat → Int32} {A : Nat → Nat → Int32} {rb : Int32} (hI : SI F) (h_at : ∀ j : Nat, (j : Int) < (F 3).toInt → vp_in (A 2 j) 16) (h : ¬ f_Mo_isRobot F A rb = 0) : vp_in (A 2 rb.toNatClampNeg) 16 := by
  have h2 := in_spec (v := rb) (a := 0) (b := F 3 - 1) h
  obtain ⟨⟨hp0, hp1⟩, ⟨hr0, hr1⟩, hg0, hg1⟩ := hI
  have h3 := sub1 (x := F 3) (by omega) (by omega)
  have h0 : (0 : Int32).toInt = 0 := rfl
  have h4 : (rb.toNatClampNeg : Int) = rb.toInt := Int.toNat_of_nonneg (by omega)
  exact h_at _ (by omega)
def f_Mo_isGrant (F : Nat → Int32) (A : Nat → Nat → Int32) (gr : Int32) : Int32 := f_Mo_in gr 1 (F 4)
set_option maxHeartbeats 4000000 in
set_option maxRecDepth 100000 in
theorem c_Mo_isGrant (l : Launch) (dC : Nat → ClassId) (dI : Nat → Nat → Nat) (r : Nat → Nat) (k : Nat → ClassId) (F : Nat → Int32) (A : Nat → Nat → Int32) (gr : Int32) : Met l y_Mo_isGrant w_Mo_isGrant ({ frames := 1, cells := 0, slots := 0, locals := 22 }) (va_Pc [.ref (r 0), .int gr] (RO (dC, dI) (wM r k F A) (tM k))) (vp_Si (fun v => v = f_Mo_isGrant F A gr)) 0 0 (fun _ => False) := by
  refine Met.ofW (cc := b_Mo_isGrant) (maxL := 2) (ret := (some .boolean)) (by decide) rfl ?_
  intro p e s m args below meth c s₁ B hml hv0
  obtain ⟨rfl, hP, hK⟩ := hv0
  have hx := B.exec
  have hb := B.bytes
  have hr := B.returns
  have hts := atoms_spec (ws := w_Mo_isGrant) B.pre
  have hW : ∀ w ∈ WALL, w.before ([.ref (r 0), .int gr] : List Value).toArray s = true := fun w h => hts w (List.mem_cons_of_mem _ h)
  have hown : s.vm.findClass R_Mo = some m.cls := findClass_of_methodNamed B.named
  have hlocks := B.notSynchronized
  have hl := lv_entry ([.ref (r 0), .int gr]) (n := 2) (Nat.le_of_ble_eq_true rfl)
  rw [lg_entry_eq]
  generalize (lg_sl ([.ref (r 0), .int gr]) ++ List.replicate (2 - (lg_sl ([.ref (r 0), .int gr])).length) Slot.unset).toArray = ls at hl ⊢
  have hl : lv_has ls 2 [(0, .ref (r 0)), (1, .int gr)] := hl
  have hv := f_Mo_isGrant.eq_1 F A gr
  refine lv_iload_n hx hb d_Mo_isGrant_0 rfl (lv_at hl 1 rfl) ?_
  refine lv_iconst (v := 1) hx hb d_Mo_isGrant_1 (by decide) ?_
  refine lv_aload_n hx hb d_Mo_isGrant_2 rfl (lv_at hl 0 rfl) ?_
  refine va_get (D := (dC, dI)) (ci := 3) (v := .int (F 4)) (C := R_Mo) (T := F_Mo) (N := 19) hx hb hW i_Mo hown hK hP 0 rfl rfl 12 (by decide) (hW _ k_196) (fun _ h9 => h9) rfl d_Mo_isGrant_3 ?_
  refine rdS (rest := []) ⟨hx, hb, hml, hown, hW⟩ (c_Mo_in l gr 1 (F 4)) (va_cwS 3 hW (gInS k_191 k_192 k_193 k_194) rfl rfl rfl (by decide +kernel) ⟨Nat.le_of_ble_eq_true rfl, Nat.le_of_ble_eq_true rfl⟩) rfl hl.1 rfl (Nat.le_of_ble_eq_true rfl) d_Mo_isGrant_6 ⟨Nat.zero_le _, Nat.zero_le _⟩ ?_
  exact W.zret (v := f_Mo_in gr 1 (F 4)) (ty := .boolean) hx hb hr (nar01 (b01_f_Mo_in gr 1 (F 4))) (fun t ht hW9 => ⟨f_Mo_in gr 1 (F 4), rfl, hv.symm, ht⟩) (fun q hq => nomatch hq) d_Mo_isGrant_9
theorem mxG {F : Nat → Int32} {A : Nat → Nat → Int32} {p : Int32} (hI : SI F) (h : ¬ f_Mo_isGrant F A p = 0) : vp_in p 61 := by
  have h2 := in_spec (v := p) (a := 1) (b := F 4) h
  obtain ⟨⟨hp0, hp1⟩, ⟨hr0, hr1⟩, hg0, hg1⟩ := hI
  have : (1 : Int32).toInt = 1 := rfl
  rw [vp_in_iff]; omega
def f_Mo_piece (F : Nat → Int32) (A : Nat → Nat → Int32) : Int32 × SC := if F 2 = 16 then (0, (uF F 0 1), A) else (((F 2) + 1) - 1, (uF (uF F 0 0) 2 ((F 2) + 1)), A)
set_option maxHeartbeats 4000000 in
set_option maxRecDepth 100000 in
theorem c_Mo_piece (l : Launch) (dC : Nat → ClassId) (dI : Nat → Nat → Nat) (r : Nat → Nat) (k : Nat → ClassId) (F : Nat → Int32) (A : Nat → Nat → Int32) (sz : Nat) (hI : SI F) : Met l y_Mo_piece w_Mo_piece ({ frames := 0, cells := 0, slots := 0, locals := 0 }) (va_Pc [.ref (r 0)] (SP (dC, dI) (wM r k F A) (tM k) sz)) (va_Qi (fun v (u : SC) => (v, u) = f_Mo_piece F A) (fun (u : SC) t => aW (dC, dI) (tM k) (va_A (wM r k F A) sz) (wM r k u.1 u.2) t) (va_A (wM r k F A) sz)) 0 0 (va_A (wM r k F A) sz) := by
  refine Met.ofW (cc := b_Mo_piece) (maxL := 1) (ret := (some .int)) (by decide) rfl ?_
  intro p e s m args below meth c s₁ B hml hv0
  obtain ⟨rfl, hsz, hP, hK, hD0⟩ := hv0
  have hx := B.exec
  have hb := B.bytes
  have hr := B.returns
  have hts := atoms_spec (ws := w_Mo_piece) B.pre
  have hW : ∀ w ∈ WALL, w.before ([.ref (r 0)] : List Value).toArray s = true := fun w h => hts w (List.mem_cons_of_mem _ h)
  have hown : s.vm.findClass R_Mo = some m.cls := findClass_of_methodNamed B.named
  have hlocks := B.notSynchronized
  subst hsz
  have hD := hD0.self (sz := s.heap.size)
  generalize hAe : va_A (wM r k F A) s.heap.size = Ad at hD ⊢
  have hA : ∀ q : Nat, s.heap.size ≤ q → Ad q := fun q h => by rw [← hAe]; exact Or.inr h
  have hS : va_S Ad s.heap s.heap [] := va_S.rf
  have hl := lv_entry ([.ref (r 0)]) (n := 1) (Nat.le_of_ble_eq_true rfl)
  rw [lg_entry_eq]
  generalize (lg_sl ([.ref (r 0)]) ++ List.replicate (1 - (lg_sl ([.ref (r 0)])).length) Slot.unset).toArray = ls at hl ⊢
  have hl : lv_has ls 1 [(0, .ref (r 0))] := hl
  obtain ⟨⟨hp0, hp1⟩, ⟨hr0, hr1⟩, hg0, hg1⟩ := id hI; have hr2 : (F 3).toInt ≤ 60 := Int.le_trans hr1 (by decide); have hp2 : (F 2).toInt ≤ 60 := Int.le_trans hp1 (by decide)
  have hv := f_Mo_piece.eq_1 F A
  refine lv_aload_n hx hb d_Mo_piece_0 rfl (lv_at hl 0 rfl) ?_
  refine lv_aload_n hx hb d_Mo_piece_1 rfl (lv_at hl 0 rfl) ?_
  refine va_get (D := (dC, dI)) (ci := 3) (v := .int (F 2)) (C := R_Mo) (T := F_Mo) (N := 19) hx hb hW i_Mo hown hK hP 0 rfl rfl 2 (by decide) (hW _ k_190) (fun _ h9 => h9) rfl d_Mo_piece_2 ?_
  refine lv_bipush (v := 16) hx hb d_Mo_piece_5 (by decide) ?_
  refine lv_icmp_ne (tgt := 14) hx hb d_Mo_piece_7 (by decide) (fun c_1 => ?_) (fun c_1 => ?_)
  · have hv := hv.trans (if_neg c_1)
    refine lv_iconst (v := 0) hx hb d_Mo_piece_14 (by decide) ?_
    refine va_put (D := (dC, dI)) (ci := 3) (v := .int 0) (ty := .int) (C := R_Mo) (T := F_Mo) (N := 19) hx hb hW i_Mo t_Mo t_Mo_ok n_Mo hown hK hP hD hS 0 rfl rfl 0 (by decide) (hW _ k_189) (fun _ h9 => h9) rfl (by decide +kernel) rfl rfl (Nat.le_of_ble_eq_true rfl) d_Mo_piece_15 (fun H locs hP hD hS => ?_)
    have hP := pMF_0 hP
    have hD := dMF_0 hD
    refine lv_aload_n hx hb d_Mo_piece_18 rfl (lv_at hl 0 rfl) ?_
    refine va_get (D := (dC, dI)) (ci := 3) (v := .int 0) (C := R_Mo) (T := F_Mo) (N := 19) hx hb hW i_Mo hown hK hP 0 rfl rfl 0 (by decide) (hW _ k_189) (fun _ h9 => h9) rfl d_Mo_piece_19 ?_
    refine lv_if_le (tgt := 27) hx hb d_Mo_piece_22 (by decide) (fun _ => ?_) (fun h9 => absurd h9 (by decide))
    refine lv_aload_n hx hb d_Mo_piece_27 rfl (lv_at hl 0 rfl) ?_
    refine lv_dup hx hb d_Mo_piece_28 rfl ?_
    refine va_get (D := (dC, dI)) (ci := 3) (v := .int (F 2)) (C := R_Mo) (T := F_Mo) (N := 19) hx hb hW i_Mo hown hK hP 0 rfl rfl 2 (by decide) (hW _ k_190) (fun _ h9 => h9) rfl d_Mo_piece_29 ?_
    refine lv_iconst (v := 1) hx hb d_Mo_piece_32 (by decide) ?_
    refine lv_iadd hx hb d_Mo_piece_33 ?_
    refine va_put (D := (dC, dI)) (ci := 3) (v := .int ((F 2) + 1)) (ty := .int) (C := R_Mo) (T := F_Mo) (N := 19) hx hb hW i_Mo t_Mo t_Mo_ok n_Mo hown hK hP hD hS 0 rfl rfl 2 (by decide) (hW _ k_190) (fun _ h9 => h9) rfl (by decide +kernel) rfl rfl (Nat.le_of_ble_eq_true rfl) d_Mo_piece_34 (fun H locs hP hD hS => ?_)
    have hP := pMF_2 hP
    have hD := dMF_2 hD
    refine lv_aload_n hx hb d_Mo_piece_37 rfl (lv_at hl 0 rfl) ?_
    refine va_get (D := (dC, dI)) (ci := 3) (v := .int ((F 2) + 1)) (C := R_Mo) (T := F_Mo) (N := 19) hx hb hW i_Mo hown hK hP 0 rfl rfl 2 (by decide) (hW _ k_190) (fun _ h9 => h9) rfl d_Mo_piece_38 ?_
    refine lv_iconst (v := 1) hx hb d_Mo_piece_41 (by decide) ?_
    refine lv_isub hx hb d_Mo_piece_42 ?_
    exact W.iret (v := ((F 2) + 1) - 1) hx hb hr (fun t ht hW9 => ⟨⟨((F 2) + 1) - 1, ((uF (uF F 0 0) 2 ((F 2) + 1)), A), rfl, hv.symm, by rw [ht]; exact hP, va_K.moved hW9.alike hK, hD⟩, hS.F ht⟩) hS.2.2 d_Mo_piece_43
  · have hv := hv.trans (if_pos c_1)
    refine lv_iconst (v := 1) hx hb d_Mo_piece_10 (by decide) ?_
    refine lv_goto (tgt := 15) hx hb d_Mo_piece_11 (by decide) ?_
    refine va_put (D := (dC, dI)) (ci := 3) (v := .int 1) (ty := .int) (C := R_Mo) (T := F_Mo) (N := 19) hx hb hW i_Mo t_Mo t_Mo_ok n_Mo hown hK hP hD hS 0 rfl rfl 0 (by decide) (hW _ k_189) (fun _ h9 => h9) rfl (by decide +kernel) rfl rfl (Nat.le_of_ble_eq_true rfl) d_Mo_piece_15 (fun H locs hP hD hS => ?_)
    have hP := pMF_0 hP
    have hD := dMF_0 hD
    refine lv_aload_n hx hb d_Mo_piece_18 rfl (lv_at hl 0 rfl) ?_
    refine va_get (D := (dC, dI)) (ci := 3) (v := .int 1) (C := R_Mo) (T := F_Mo) (N := 19) hx hb hW i_Mo hown hK hP 0 rfl rfl 0 (by decide) (hW _ k_189) (fun _ h9 => h9) rfl d_Mo_piece_19 ?_
    refine lv_if_le (tgt := 27) hx hb d_Mo_piece_22 (by decide) (fun h9 => absurd h9 (by decide)) (fun _ => ?_)
    refine lv_iconst (v := 0) hx hb d_Mo_piece_25 (by decide) ?_
    exact W.iret (v := 0) hx hb hr (fun t ht hW9 => ⟨⟨0, ((uF F 0 1), A), rfl, hv.symm, by rw [ht]; exact hP, va_K.moved hW9.alike hK, hD⟩, hS.F ht⟩) hS.2.2 d_Mo_piece_26
def f_Mo_link_L73 (F : Nat → Int32) (A : Nat → Nat → Int32) (pc oth on : Int32) (A2_ : Nat → Nat → Int32) : Nat → Int32 → Int32 → Int32 × SC
  | 0, _, _ => (0, F, A)
  | n73 + 1, x4, x5 => if F 2 ≤ x5 then (x4, (uF F 0 0), A2_) else (if A2_ 1 ((16 * pc) + x5).toNatClampNeg = 0 then (f_Mo_link_L73 F A pc oth on A2_ n73 (x4 + 0) (x5 + 1)) else (f_Mo_link_L73 F A pc oth on A2_ n73 (x4 + 1) (x5 + 1)))
def f_Mo_link (F : Nat → Int32) (A : Nat → Nat → Int32) (pc oth on : Int32) : Int32 × SC := if f_Mo_isPiece F A pc = 0 then (0, (uF F 0 1), A) else (if f_Mo_isPiece F A oth = 0 then (0, (uF F 0 1), A) else (if pc = oth then (0, (uF F 0 2), A) else (f_Mo_link_L73 F A pc oth on (uA (uA A 1 (upd (A 1) ((16 * pc) + oth).toNatClampNeg (vp_nar .boolean on))) 1 (upd ((uA A 1 (upd (A 1) ((16 * pc) + oth).toNatClampNeg (vp_nar .boolean on))) 1) ((16 * oth) + pc).toNatClampNeg (vp_nar .boolean on))) 64 0 0)))
set_option maxHeartbeats 4000000 in
set_option maxRecDepth 100000 in
theorem c_Mo_link (l : Launch) (dC : Nat → ClassId) (dI : Nat → Nat → Nat) (r : Nat → Nat) (k : Nat → ClassId) (F : Nat → Int32) (A : Nat → Nat → Int32) (sz : Nat) (pc oth on : Int32) (hI : SI F) : Met l y_Mo_link w_Mo_link ({ frames := 2, cells := 0, slots := 0, locals := 43 }) (va_Pc [.ref (r 0), .int pc, .int oth, .int on] (SP (dC, dI) (wM r k F A) (tM k) sz)) (va_Qi (fun v (u : SC) => (v, u) = f_Mo_link F A pc oth on) (fun (u : SC) t => aW (dC, dI) (tM k) (va_A (wM r k F A) sz) (wM r k u.1 u.2) t) (va_A (wM r k F A) sz)) 0 0 (va_A (wM r k F A) sz) := by
  refine Met.ofW (cc := b_Mo_link) (maxL := 6) (ret := (some .int)) (by decide) rfl ?_
  intro p e s m args below meth c s₁ B hml hv0
  obtain ⟨rfl, hsz, hP, hK, hD0⟩ := hv0
  have hx := B.exec
  have hb := B.bytes
  have hr := B.returns
  have hts := atoms_spec (ws := w_Mo_link) B.pre
  have hW : ∀ w ∈ WALL, w.before ([.ref (r 0), .int pc, .int oth, .int on] : List Value).toArray s = true := fun w h => hts w (List.mem_cons_of_mem _ h)
  have hown : s.vm.findClass R_Mo = some m.cls := findClass_of_methodNamed B.named
  have hlocks := B.notSynchronized
  subst hsz
  have hD := hD0.self (sz := s.heap.size)
  generalize hAe : va_A (wM r k F A) s.heap.size = Ad at hD ⊢
  have hA : ∀ q : Nat, s.heap.size ≤ q → Ad q := fun q h => by rw [← hAe]; exact Or.inr h
  have hS : va_S Ad s.heap s.heap [] := va_S.rf
  have hl := lv_entry ([.ref (r 0), .int pc, .int oth, .int on]) (n := 6) (Nat.le_of_ble_eq_true rfl)
  rw [lg_entry_eq]
  generalize (lg_sl ([.ref (r 0), .int pc, .int oth, .int on]) ++ List.replicate (6 - (lg_sl ([.ref (r 0), .int pc, .int oth, .int on])).length) Slot.unset).toArray = ls at hl ⊢
  have hl : lv_has ls 6 [(0, .ref (r 0)), (1, .int pc), (2, .int oth), (3, .int on)] := hl
  obtain ⟨⟨hp0, hp1⟩, ⟨hr0, hr1⟩, hg0, hg1⟩ := id hI; have hr2 : (F 3).toInt ≤ 60 := Int.le_trans hr1 (by decide); have hp2 : (F 2).toInt ≤ 60 := Int.le_trans hp1 (by decide)
  have hv := f_Mo_link.eq_1 F A pc oth on
  refine lv_aload_n hx hb d_Mo_link_0 rfl (lv_at hl 0 rfl) ?_
  refine lv_aload_n hx hb d_Mo_link_1 rfl (lv_at hl 0 rfl) ?_
  refine lv_iload_n hx hb d_Mo_link_2 rfl (lv_at hl 1 rfl) ?_
  refine rdV ⟨hx, hb, hml, hown, hW⟩ (c_Mo_isPiece l dC dI r k F A pc  ) (cwV 1 hW (gIn k_197 k_198 k_199 k_193 k_200) rfl rfl rfl (by decide +kernel) ⟨Nat.le_of_ble_eq_true rfl, Nat.le_of_ble_eq_true rfl⟩) hK hP (va_recv hK hP (ci := 3) (q0 := 0) rfl rfl) rfl hl.1 rfl (Nat.le_of_ble_eq_true rfl) d_Mo_link_3 ⟨Nat.zero_le _, Nat.zero_le _⟩ ?_
  refine lv_if_eq (tgt := 17) hx hb d_Mo_link_6 (by decide) (fun c_1 => ?_) (fun c_1 => ?_)
  · have hv := hv.trans (if_pos c_1)
    refine lv_iconst (v := 1) hx hb d_Mo_link_17 (by decide) ?_
    refine lv_goto (tgt := 31) hx hb d_Mo_link_18 (by decide) ?_
    refine va_put (D := (dC, dI)) (ci := 3) (v := .int 1) (ty := .int) (C := R_Mo) (T := F_Mo) (N := 19) hx hb hW i_Mo t_Mo t_Mo_ok n_Mo hown hK hP hD hS 0 rfl rfl 0 (by decide) (hW _ k_189) (fun _ h9 => h9) rfl (by decide +kernel) rfl rfl (Nat.le_of_ble_eq_true rfl) d_Mo_link_31 (fun H locs hP hD hS => ?_)
    have hP := pMF_0 hP
    have hD := dMF_0 hD
    refine lv_aload_n hx hb d_Mo_link_34 rfl (lv_at hl 0 rfl) ?_
    refine va_get (D := (dC, dI)) (ci := 3) (v := .int 1) (C := R_Mo) (T := F_Mo) (N := 19) hx hb hW i_Mo hown hK hP 0 rfl rfl 0 (by decide) (hW _ k_189) (fun _ h9 => h9) rfl d_Mo_link_35 ?_
    refine lv_if_le (tgt := 43) hx hb d_Mo_link_38 (by decide) (fun h9 => absurd h9 (by decide)) (fun _ => ?_)
    refine lv_iconst (v := 0) hx hb d_Mo_link_41 (by decide) ?_
    exact W.iret (v := 0) hx hb hr (fun t ht hW9 => ⟨⟨0, ((uF F 0 1), A), rfl, hv.symm, by rw [ht]; exact hP, va_K.moved hW9.alike hK, hD⟩, hS.F ht⟩) hS.2.2 d_Mo_link_42
  · have hv := hv.trans (if_neg c_1)
    refine lv_aload_n hx hb d_Mo_link_9 rfl (lv_at hl 0 rfl) ?_
    refine lv_iload_n hx hb d_Mo_link_10 rfl (lv_at hl 2 rfl) ?_
    refine rdV ⟨hx, hb, hml, hown, hW⟩ (c_Mo_isPiece l dC dI r k F A oth  ) (cwV 1 hW (gIn k_197 k_198 k_199 k_193 k_200) rfl rfl rfl (by decide +kernel) ⟨Nat.le_of_ble_eq_true rfl, Nat.le_of_ble_eq_true rfl⟩) hK hP (va_recv hK hP (ci := 3) (q0 := 0) rfl rfl) rfl hl.1 rfl (Nat.le_of_ble_eq_true rfl) d_Mo_link_11 ⟨Nat.zero_le _, Nat.zero_le _⟩ ?_
    refine lv_if_ne (tgt := 21) hx hb d_Mo_link_14 (by decide) (fun c_2 => ?_) (fun c_2 => ?_)
    · have hv := hv.trans (if_neg c_2)
      refine lv_iload_n hx hb d_Mo_link_21 rfl (lv_at hl 1 rfl) ?_
      refine lv_iload_n hx hb d_Mo_link_22 rfl (lv_at hl 2 rfl) ?_
      refine lv_icmp_ne (tgt := 30) hx hb d_Mo_link_23 (by decide) (fun c_3 => ?_) (fun c_3 => ?_)
      · have hv := hv.trans (if_neg c_3)
        refine lv_iconst (v := 0) hx hb d_Mo_link_30 (by decide) ?_
        refine va_put (D := (dC, dI)) (ci := 3) (v := .int 0) (ty := .int) (C := R_Mo) (T := F_Mo) (N := 19) hx hb hW i_Mo t_Mo t_Mo_ok n_Mo hown hK hP hD hS 0 rfl rfl 0 (by decide) (hW _ k_189) (fun _ h9 => h9) rfl (by decide +kernel) rfl rfl (Nat.le_of_ble_eq_true rfl) d_Mo_link_31 (fun H locs hP hD hS => ?_)
        have hP := pMF_0 hP
        have hD := dMF_0 hD
        refine lv_aload_n hx hb d_Mo_link_34 rfl (lv_at hl 0 rfl) ?_
        refine va_get (D := (dC, dI)) (ci := 3) (v := .int 0) (C := R_Mo) (T := F_Mo) (N := 19) hx hb hW i_Mo hown hK hP 0 rfl rfl 0 (by decide) (hW _ k_189) (fun _ h9 => h9) rfl d_Mo_link_35 ?_
        refine lv_if_le (tgt := 43) hx hb d_Mo_link_38 (by decide) (fun _ => ?_) (fun h9 => absurd h9 (by decide))
        refine lv_aload_n hx hb d_Mo_link_43 rfl (lv_at hl 0 rfl) ?_
        refine va_get (D := (dC, dI)) (ci := 3) (v := .ref (r 2)) (C := R_Mo) (T := F_Mo) (N := 19) hx hb hW i_Mo hown hK hP 0 rfl rfl 4 (by decide) (hW _ k_201) (fun _ h9 => h9) rfl d_Mo_link_44 ?_
        refine lv_bipush (v := 16) hx hb d_Mo_link_47 (by decide) ?_
        refine lv_iload_n hx hb d_Mo_link_49 rfl (lv_at hl 1 rfl) ?_
        refine lv_imul hx hb d_Mo_link_50 ?_
        refine lv_iload_n hx hb d_Mo_link_51 rfl (lv_at hl 2 rfl) ?_
        refine lv_iadd hx hb d_Mo_link_52 ?_
        refine lv_iload_n hx hb d_Mo_link_53 rfl (lv_at hl 3 rfl) ?_
        refine va_zast hx hb hK hP hD hS 2 1 rfl rfl (mxK (mxP hI c_1) (mxP hI c_2)) d_Mo_link_54 (fun H locs hP hD hS => ?_)
        have hP := pMA_1 hP
        have hD := dMA_1 hD
        generalize hAg1 : (uA A 1 (upd (A 1) ((16 * pc) + oth).toNatClampNeg (vp_nar .boolean on))) = A1_ at hP hD hv
        refine lv_aload_n hx hb d_Mo_link_55 rfl (lv_at hl 0 rfl) ?_
        refine va_get (D := (dC, dI)) (ci := 3) (v := .ref (r 2)) (C := R_Mo) (T := F_Mo) (N := 19) hx hb hW i_Mo hown hK hP 0 rfl rfl 4 (by decide) (hW _ k_201) (fun _ h9 => h9) rfl d_Mo_link_56 ?_
        refine lv_bipush (v := 16) hx hb d_Mo_link_59 (by decide) ?_
        refine lv_iload_n hx hb d_Mo_link_61 rfl (lv_at hl 2 rfl) ?_
        refine lv_imul hx hb d_Mo_link_62 ?_
        refine lv_iload_n hx hb d_Mo_link_63 rfl (lv_at hl 1 rfl) ?_
        refine lv_iadd hx hb d_Mo_link_64 ?_
        refine lv_iload_n hx hb d_Mo_link_65 rfl (lv_at hl 3 rfl) ?_
        refine va_zast hx hb hK hP hD hS 2 1 rfl rfl (mxK (mxP hI c_2) (mxP hI c_1)) d_Mo_link_66 (fun H locs hP hD hS => ?_)
        have hP := pMA_1 hP
        have hD := dMA_1 hD
        generalize hAg2 : (uA A1_ 1 (upd (A1_ 1) ((16 * oth) + pc).toNatClampNeg (vp_nar .boolean on))) = A2_ at hP hD hv
        refine lv_iconst (v := 0) hx hb d_Mo_link_67 (by decide) ?_
        refine lv_istore (lv' := [(4, .int 0), (0, .ref (r 0)), (1, .int pc), (2, .int oth), (3, .int on)]) hx hb d_Mo_link_68 hl (by decide) rfl (fun ls hl => ?_)
        refine lv_iconst (v := 0) hx hb d_Mo_link_70 (by decide) ?_
        refine lv_istore (lv' := [(5, .int 0), (4, .int 0), (0, .ref (r 0)), (1, .int pc), (2, .int oth), (3, .int on)]) hx hb d_Mo_link_71 hl (by decide) rfl (fun ls hl => ?_)
        have loop73 : ∀ (n73 : Nat) (x4 : Int32) (x5 : Int32) (ls : Array Slot), LB (F 2) x5 n73 → f_Mo_link F A pc oth on = f_Mo_link_L73 F A pc oth on A2_ n73 x4 x5 → lv_has ls 6 [(0, .ref (r 0)), (1, .int pc), (2, .int oth), (3, .int on), (4, .int x4), (5, .int x5)] → W p l e (headSpec w_Mo_link ({ frames := 2, cells := 0, slots := 0, locals := 43 })).room s m ([.ref (r 0), .int pc, .int oth, .int on] : List Value).toArray below meth c H locs 0 0 (MQ below (va_Qi (fun v (u : SC) => (v, u) = f_Mo_link F A pc oth on) (fun (u : SC) t => aW (dC, dI) (tM k) Ad (wM r k u.1 u.2) t) Ad) ([.ref (r 0), .int pc, .int oth, .int on] : List Value).toArray s 0 0 Ad) (F0 m 73 ls []) := by
          intro n73
          induction n73 with
          | zero => intro x4 x5 ls hlp; exact (hlp.z).elim
          | succ n73 ih73 =>
            intro x4 x5 ls hlp73 hv hl
            rw [f_Mo_link_L73] at hv
            refine lv_iload hx hb d_Mo_link_73 (lv_at hl 5 rfl) ?_
            refine lv_aload_n hx hb d_Mo_link_75 rfl (lv_at hl 0 rfl) ?_
            refine va_get (D := (dC, dI)) (ci := 3) (v := .int (F 2)) (C := R_Mo) (T := F_Mo) (N := 19) hx hb hW i_Mo hown hK hP 0 rfl rfl 2 (by decide) (hW _ k_190) (fun _ h9 => h9) rfl d_Mo_link_76 ?_
            refine lv_icmp_ge (tgt := 113) hx hb d_Mo_link_79 (by decide) (fun c_4 => ?_) (fun c_4 => ?_)
            · have hv := hv.trans (if_pos c_4)
              refine lv_iload hx hb d_Mo_link_113 (lv_at hl 4 rfl) ?_
              exact W.iret (v := x4) hx hb hr (fun t ht hW9 => ⟨⟨x4, ((uF F 0 0), A2_), rfl, hv.symm, by rw [ht]; exact hP, va_K.moved hW9.alike hK, hD⟩, hS.F ht⟩) hS.2.2 d_Mo_link_115
            · have hv := hv.trans (if_neg c_4)
              refine lv_iload hx hb d_Mo_link_82 (lv_at hl 4 rfl) ?_
              refine lv_aload_n hx hb d_Mo_link_84 rfl (lv_at hl 0 rfl) ?_
              refine va_get (D := (dC, dI)) (ci := 3) (v := .ref (r 2)) (C := R_Mo) (T := F_Mo) (N := 19) hx hb hW i_Mo hown hK hP 0 rfl rfl 4 (by decide) (hW _ k_201) (fun _ h9 => h9) rfl d_Mo_link_85 ?_
              refine lv_bipush (v := 16) hx hb d_Mo_link_88 (by decide) ?_
              refine lv_iload_n hx hb d_Mo_link_90 rfl (lv_at hl 1 rfl) ?_
              refine lv_imul hx hb d_Mo_link_91 ?_
              refine lv_iload hx hb d_Mo_link_92 (lv_at hl 5 rfl) ?_
              refine lv_iadd hx hb d_Mo_link_94 ?_
              refine va_zald hx hb hK hP 2 1 rfl rfl (mxK (mxP hI c_1) (LB.ixn hlp73 c_4 hp1)) d_Mo_link_95 ?_
              refine lv_if_eq (tgt := 103) hx hb d_Mo_link_96 (by decide) (fun c_5 => ?_) (fun c_5 => ?_)
              · have hv := hv.trans (if_pos c_5)
                refine lv_iconst (v := 0) hx hb d_Mo_link_103 (by decide) ?_
                refine lv_iadd hx hb d_Mo_link_104 ?_
                refine lv_istore (lv' := [(4, .int (x4 + 0)), (0, .ref (r 0)), (1, .int pc), (2, .int oth), (3, .int on), (5, .int x5)]) hx hb d_Mo_link_105 hl (by decide) rfl (fun ls hl => ?_)
                refine lv_iinc (v := x5 + 1) (lv' := [(5, .int (x5 + 1)), (4, .int (x4 + 0)), (0, .ref (r 0)), (1, .int pc), (2, .int oth), (3, .int on)]) hx hb d_Mo_link_107 hl (k := 5) rfl rfl (by decide) rfl (fun ls hl => ?_)
                refine lv_goto (tgt := 73) hx hb d_Mo_link_110 (by decide) ?_
                exact ih73 (x4 + 0) (x5 + 1) ls (LB.s hlp73 c_4 hp2) hv (lv_sub hl [2, 3, 4, 5, 1, 0] rfl)
              · have hv := hv.trans (if_neg c_5)
                refine lv_iconst (v := 1) hx hb d_Mo_link_99 (by decide) ?_
                refine lv_goto (tgt := 104) hx hb d_Mo_link_100 (by decide) ?_
                refine lv_iadd hx hb d_Mo_link_104 ?_
                refine lv_istore (lv' := [(4, .int (x4 + 1)), (0, .ref (r 0)), (1, .int pc), (2, .int oth), (3, .int on), (5, .int x5)]) hx hb d_Mo_link_105 hl (by decide) rfl (fun ls hl => ?_)
                refine lv_iinc (v := x5 + 1) (lv' := [(5, .int (x5 + 1)), (4, .int (x4 + 1)), (0, .ref (r 0)), (1, .int pc), (2, .int oth), (3, .int on)]) hx hb d_Mo_link_107 hl (k := 5) rfl rfl (by decide) rfl (fun ls hl => ?_)
                refine lv_goto (tgt := 73) hx hb d_Mo_link_110 (by decide) ?_
                exact ih73 (x4 + 1) (x5 + 1) ls (LB.s hlp73 c_4 hp2) hv (lv_sub hl [2, 3, 4, 5, 1, 0] rfl)
        exact loop73 64 0 0 ls (LB.i hp0 hp2) hv (lv_sub hl [2, 3, 4, 5, 1, 0] rfl)
      · have hv := hv.trans (if_pos c_3)
        refine lv_iconst (v := 2) hx hb d_Mo_link_26 (by decide) ?_
        refine lv_goto (tgt := 31) hx hb d_Mo_link_27 (by decide) ?_
        refine va_put (D := (dC, dI)) (ci := 3) (v := .int 2) (ty := .int) (C := R_Mo) (T := F_Mo) (N := 19) hx hb hW i_Mo t_Mo t_Mo_ok n_Mo hown hK hP hD hS 0 rfl rfl 0 (by decide) (hW _ k_189) (fun _ h9 => h9) rfl (by decide +kernel) rfl rfl (Nat.le_of_ble_eq_true rfl) d_Mo_link_31 (fun H locs hP hD hS => ?_)
        have hP := pMF_0 hP
        have hD := dMF_0 hD
        refine lv_aload_n hx hb d_Mo_link_34 rfl (lv_at hl 0 rfl) ?_
        refine va_get (D := (dC, dI)) (ci := 3) (v := .int 2) (C := R_Mo) (T := F_Mo) (N := 19) hx hb hW i_Mo hown hK hP 0 rfl rfl 0 (by decide) (hW _ k_189) (fun _ h9 => h9) rfl d_Mo_link_35 ?_
        refine lv_if_le (tgt := 43) hx hb d_Mo_link_38 (by decide) (fun h9 => absurd h9 (by decide)) (fun _ => ?_)
        refine lv_iconst (v := 0) hx hb d_Mo_link_41 (by decide) ?_
        exact W.iret (v := 0) hx hb hr (fun t ht hW9 => ⟨⟨0, ((uF F 0 2), A), rfl, hv.symm, by rw [ht]; exact hP, va_K.moved hW9.alike hK, hD⟩, hS.F ht⟩) hS.2.2 d_Mo_link_42
    · have hv := hv.trans (if_pos c_2)
      refine lv_iconst (v := 1) hx hb d_Mo_link_17 (by decide) ?_
      refine lv_goto (tgt := 31) hx hb d_Mo_link_18 (by decide) ?_
      refine va_put (D := (dC, dI)) (ci := 3) (v := .int 1) (ty := .int) (C := R_Mo) (T := F_Mo) (N := 19) hx hb hW i_Mo t_Mo t_Mo_ok n_Mo hown hK hP hD hS 0 rfl rfl 0 (by decide) (hW _ k_189) (fun _ h9 => h9) rfl (by decide +kernel) rfl rfl (Nat.le_of_ble_eq_true rfl) d_Mo_link_31 (fun H locs hP hD hS => ?_)
      have hP := pMF_0 hP
      have hD := dMF_0 hD
      refine lv_aload_n hx hb d_Mo_link_34 rfl (lv_at hl 0 rfl) ?_
      refine va_get (D := (dC, dI)) (ci := 3) (v := .int 1) (C := R_Mo) (T := F_Mo) (N := 19) hx hb hW i_Mo hown hK hP 0 rfl rfl 0 (by decide) (hW _ k_189) (fun _ h9 => h9) rfl d_Mo_link_35 ?_
      refine lv_if_le (tgt := 43) hx hb d_Mo_link_38 (by decide) (fun h9 => absurd h9 (by decide)) (fun _ => ?_)
      refine lv_iconst (v := 0) hx hb d_Mo_link_41 (by decide) ?_
      exact W.iret (v := 0) hx hb hr (fun t ht hW9 => ⟨⟨0, ((uF F 0 1), A), rfl, hv.symm, by rw [ht]; exact hP, va_K.moved hW9.alike hK, hD⟩, hS.F ht⟩) hS.2.2 d_Mo_link_42
def f_Mo_standing_L2 (F : Nat → Int32) (A : Nat → Nat → Int32) (pc : Int32) : Nat → Int32 → Int32
  | 0, _ => 0
  | n2 + 1, x2 => if F 3 ≤ x2 then (-1) else (if A 2 x2.toNatClampNeg = pc then x2 else (if A 4 x2.toNatClampNeg = pc then x2 else (f_Mo_standing_L2 F A pc n2 (x2 + 1))))
def f_Mo_standing (F : Nat → Int32) (A : Nat → Nat → Int32) (pc : Int32) : Int32 := f_Mo_standing_L2 F A pc 64 0
set_option maxHeartbeats 4000000 in
set_option maxRecDepth 100000 in
theorem c_Mo_standing (l : Launch) (dC : Nat → ClassId) (dI : Nat → Nat → Nat) (r : Nat → Nat) (k : Nat → ClassId) (F : Nat → Int32) (A : Nat → Nat → Int32) (pc : Int32) (hI : SI F) : Met l y_Mo_standing w_Mo_standing ({ frames := 0, cells := 0, slots := 0, locals := 0 }) (va_Pc [.ref (r 0), .int pc] (RO (dC, dI) (wM r k F A) (tM k))) (vp_Si (fun v => v = f_Mo_standing F A pc)) 0 0 (fun _ => False) := by
  refine Met.ofW (cc := b_Mo_standing) (maxL := 3) (ret := (some .int)) (by decide) rfl ?_
  intro p e s m args below meth c s₁ B hml hv0
  obtain ⟨rfl, hP, hK⟩ := hv0
  have hx := B.exec
  have hb := B.bytes
  have hr := B.returns
  have hts := atoms_spec (ws := w_Mo_standing) B.pre
  have hW : ∀ w ∈ WALL, w.before ([.ref (r 0), .int pc] : List Value).toArray s = true := fun w h => hts w (List.mem_cons_of_mem _ h)
  have hown : s.vm.findClass R_Mo = some m.cls := findClass_of_methodNamed B.named
  have hlocks := B.notSynchronized
  have hl := lv_entry ([.ref (r 0), .int pc]) (n := 3) (Nat.le_of_ble_eq_true rfl)
  rw [lg_entry_eq]
  generalize (lg_sl ([.ref (r 0), .int pc]) ++ List.replicate (3 - (lg_sl ([.ref (r 0), .int pc])).length) Slot.unset).toArray = ls at hl ⊢
  have hl : lv_has ls 3 [(0, .ref (r 0)), (1, .int pc)] := hl
  obtain ⟨⟨hp0, hp1⟩, ⟨hr0, hr1⟩, hg0, hg1⟩ := id hI; have hr2 : (F 3).toInt ≤ 60 := Int.le_trans hr1 (by decide); have hp2 : (F 2).toInt ≤ 60 := Int.le_trans hp1 (by decide)
  have hv := f_Mo_standing.eq_1 F A pc
  refine lv_iconst (v := 0) hx hb d_Mo_standing_0 (by decide) ?_
  refine lv_istore_n (lv' := [(2, .int 0), (0, .ref (r 0)), (1, .int pc)]) hx hb d_Mo_standing_1 rfl hl (by decide) rfl (fun ls hl => ?_)
  have loop2 : ∀ (n2 : Nat) (x2 : Int32) (ls : Array Slot), LB (F 3) x2 n2 → f_Mo_standing F A pc = f_Mo_standing_L2 F A pc n2 x2 → lv_has ls 3 [(0, .ref (r 0)), (1, .int pc), (2, .int x2)] → W p l e (headSpec w_Mo_standing ({ frames := 0, cells := 0, slots := 0, locals := 0 })).room s m ([.ref (r 0), .int pc] : List Value).toArray below meth c s.heap [] 0 0 (MQ below (vp_Si (fun v => v = f_Mo_standing F A pc)) ([.ref (r 0), .int pc] : List Value).toArray s 0 0 (fun _ => False)) (F0 m 2 ls []) := by
    intro n2
    induction n2 with
    | zero => intro x2 ls hlp; exact (hlp.z).elim
    | succ n2 ih2 =>
      intro x2 ls hlp2 hv hl
      rw [f_Mo_standing_L2] at hv
      refine lv_iload_n hx hb d_Mo_standing_2 rfl (lv_at hl 2 rfl) ?_
      refine lv_aload_n hx hb d_Mo_standing_3 rfl (lv_at hl 0 rfl) ?_
      refine va_get (D := (dC, dI)) (ci := 3) (v := .int (F 3)) (C := R_Mo) (T := F_Mo) (N := 19) hx hb hW i_Mo hown hK hP 0 rfl rfl 5 (by decide) (hW _ k_195) (fun _ h9 => h9) rfl d_Mo_standing_4 ?_
      refine lv_icmp_ge (tgt := 38) hx hb d_Mo_standing_7 (by decide) (fun c_1 => ?_) (fun c_1 => ?_)
      · have hv := hv.trans (if_pos c_1)
        refine lv_iconst (v := (-1)) hx hb d_Mo_standing_38 (by decide) ?_
        exact W.iret (v := (-1)) hx hb hr (fun t ht hW9 => ⟨(-1), rfl, hv.symm, ht⟩) (fun q hq => nomatch hq) d_Mo_standing_39
      · have hv := hv.trans (if_neg c_1)
        refine lv_aload_n hx hb d_Mo_standing_10 rfl (lv_at hl 0 rfl) ?_
        refine va_get (D := (dC, dI)) (ci := 3) (v := .ref (r 3)) (C := R_Mo) (T := F_Mo) (N := 19) hx hb hW i_Mo hown hK hP 0 rfl rfl 6 (by decide) (hW _ k_202) (fun _ h9 => h9) rfl d_Mo_standing_11 ?_
        refine lv_iload_n hx hb d_Mo_standing_14 rfl (lv_at hl 2 rfl) ?_
        refine va_iald hx hb hK hP 3 2 rfl rfl (LB.ixn hlp2 c_1 hr1) d_Mo_standing_15 ?_
        refine lv_iload_n hx hb d_Mo_standing_16 rfl (lv_at hl 1 rfl) ?_
        refine lv_icmp_eq (tgt := 30) hx hb d_Mo_standing_17 (by decide) (fun c_2 => ?_) (fun c_2 => ?_)
        · have hv := hv.trans (if_pos c_2)
          refine lv_iload_n hx hb d_Mo_standing_30 rfl (lv_at hl 2 rfl) ?_
          exact W.iret (v := x2) hx hb hr (fun t ht hW9 => ⟨x2, rfl, hv.symm, ht⟩) (fun q hq => nomatch hq) d_Mo_standing_31
        · have hv := hv.trans (if_neg c_2)
          refine lv_aload_n hx hb d_Mo_standing_20 rfl (lv_at hl 0 rfl) ?_
          refine va_get (D := (dC, dI)) (ci := 3) (v := .ref (r 5)) (C := R_Mo) (T := F_Mo) (N := 19) hx hb hW i_Mo hown hK hP 0 rfl rfl 8 (by decide) (hW _ k_203) (fun _ h9 => h9) rfl d_Mo_standing_21 ?_
          refine lv_iload_n hx hb d_Mo_standing_24 rfl (lv_at hl 2 rfl) ?_
          refine va_iald hx hb hK hP 5 4 rfl rfl (LB.ixn hlp2 c_1 hr1) d_Mo_standing_25 ?_
          refine lv_iload_n hx hb d_Mo_standing_26 rfl (lv_at hl 1 rfl) ?_
          refine lv_icmp_ne (tgt := 32) hx hb d_Mo_standing_27 (by decide) (fun c_3 => ?_) (fun c_3 => ?_)
          · have hv := hv.trans (if_neg c_3)
            refine lv_iinc (v := x2 + 1) (lv' := [(2, .int (x2 + 1)), (0, .ref (r 0)), (1, .int pc)]) hx hb d_Mo_standing_32 hl (k := 2) rfl rfl (by decide) rfl (fun ls hl => ?_)
            refine lv_goto (tgt := 2) hx hb d_Mo_standing_35 (by decide) ?_
            exact ih2 (x2 + 1) ls (LB.s hlp2 c_1 hr2) hv (lv_sub hl [1, 2, 0] rfl)
          · have hv := hv.trans (if_pos c_3)
            refine lv_iload_n hx hb d_Mo_standing_30 rfl (lv_at hl 2 rfl) ?_
            exact W.iret (v := x2) hx hb hr (fun t ht hW9 => ⟨x2, rfl, hv.symm, ht⟩) (fun q hq => nomatch hq) d_Mo_standing_31
  exact loop2 64 0 ls (LB.i hr0 hr2) hv (lv_sub hl [1, 2, 0] rfl)
theorem stM_L {F : Nat → Int32} {A : Nat → Nat → Int32} {p : Int32} (hr1 : (F 3).toInt ≤ 6) : ∀ (n : Nat) (i : Int32), LB (F 3) i n → f_Mo_standing_L2 F A p n i = -1 ∨ vp_in (f_Mo_standing_L2 F A p n i) 6 := by
  intro n
  induction n with
  | zero => intro i h; exact h.z.elim
  | succ n ih =>
    intro i h
    rw [f_Mo_standing_L2]
    by_cases c : F 3 ≤ i
    · rw [if_pos c]; exact Or.inl rfl
    · rw [if_neg c]
      have hi := LB.ixn h c hr1
      have hs := ih (i + 1) (h.s c (Int.le_trans hr1 (by decide)))
      repeat' split
      all_goals first | exact Or.inr hi | exact hs
theorem st_okM {F : Nat → Int32} {A : Nat → Nat → Int32} {p v : Int32} (hI : SI F) (h : v = f_Mo_standing F A p) : v = -1 ∨ vp_in v 6 := by
  obtain ⟨⟨hp0, hp1⟩, ⟨hr0, hr1⟩, hg0, hg1⟩ := hI
  rw [h]
  exact stM_L (A := A) (p := p) hr1 64 0 (LB.i hr0 (Int.le_trans hr1 (by decide)))
def f_Mo_robot (F : Nat → Int32) (A : Nat → Nat → Int32) (pc tl : Int32) : Int32 × SC := if f_Mo_isPiece F A pc = 0 then (0, (uF F 0 1), A) else (if f_Mo_standing (uF F 0 0) A pc = (-1) then (if A 0 pc.toNatClampNeg = 0 then (if F 3 = 6 then (0, (uF (uF F 0 0) 0 3), A) else (((F 3) + 1) - 1, (uF (uF (uF F 0 0) 0 0) 3 ((F 3) + 1)), (uA (uA (uA (uA (uA A 2 (upd (A 2) (F 3).toNatClampNeg pc)) 3 (upd ((uA A 2 (upd (A 2) (F 3).toNatClampNeg pc)) 3) (F 3).toNatClampNeg (vp_nar .boolean tl))) 4 (upd ((uA (uA A 2 (upd (A 2) (F 3).toNatClampNeg pc)) 3 (upd ((uA A 2 (upd (A 2) (F 3).toNatClampNeg pc)) 3) (F 3).toNatClampNeg (vp_nar .boolean tl))) 4) (F 3).toNatClampNeg (-1))) 5 (upd ((uA (uA (uA A 2 (upd (A 2) (F 3).toNatClampNeg pc)) 3 (upd ((uA A 2 (upd (A 2) (F 3).toNatClampNeg pc)) 3) (F 3).toNatClampNeg (vp_nar .boolean tl))) 4 (upd ((uA (uA A 2 (upd (A 2) (F 3).toNatClampNeg pc)) 3 (upd ((uA A 2 (upd (A 2) (F 3).toNatClampNeg pc)) 3) (F 3).toNatClampNeg (vp_nar .boolean tl))) 4) (F 3).toNatClampNeg (-1))) 5) (F 3).toNatClampNeg (-1))) 6 (upd ((uA (uA (uA (uA A 2 (upd (A 2) (F 3).toNatClampNeg pc)) 3 (upd ((uA A 2 (upd (A 2) (F 3).toNatClampNeg pc)) 3) (F 3).toNatClampNeg (vp_nar .boolean tl))) 4 (upd ((uA (uA A 2 (upd (A 2) (F 3).toNatClampNeg pc)) 3 (upd ((uA A 2 (upd (A 2) (F 3).toNatClampNeg pc)) 3) (F 3).toNatClampNeg (vp_nar .boolean tl))) 4) (F 3).toNatClampNeg (-1))) 5 (upd ((uA (uA (uA A 2 (upd (A 2) (F 3).toNatClampNeg pc)) 3 (upd ((uA A 2 (upd (A 2) (F 3).toNatClampNeg pc)) 3) (F 3).toNatClampNeg (vp_nar .boolean tl))) 4 (upd ((uA (uA A 2 (upd (A 2) (F 3).toNatClampNeg pc)) 3 (upd ((uA A 2 (upd (A 2) (F 3).toNatClampNeg pc)) 3) (F 3).toNatClampNeg (vp_nar .boolean tl))) 4) (F 3).toNatClampNeg (-1))) 5) (F 3).toNatClampNeg (-1))) 6) (F 3).toNatClampNeg (F 1))))) else (0, (uF (uF F 0 0) 0 2), A)) else (0, (uF (uF F 0 0) 0 2), A))
set_option maxHeartbeats 4000000 in
set_option maxRecDepth 100000 in
theorem c_Mo_robot (l : Launch) (dC : Nat → ClassId) (dI : Nat → Nat → Nat) (r : Nat → Nat) (k : Nat → ClassId) (F : Nat → Int32) (A : Nat → Nat → Int32) (sz : Nat) (pc tl : Int32) (hI : SI F) : Met l y_Mo_robot w_Mo_robot ({ frames := 2, cells := 0, slots := 0, locals := 43 }) (va_Pc [.ref (r 0), .int pc, .int tl] (SP (dC, dI) (wM r k F A) (tM k) sz)) (va_Qi (fun v (u : SC) => (v, u) = f_Mo_robot F A pc tl) (fun (u : SC) t => aW (dC, dI) (tM k) (va_A (wM r k F A) sz) (wM r k u.1 u.2) t) (va_A (wM r k F A) sz)) 0 0 (va_A (wM r k F A) sz) := by
  refine Met.ofW (cc := b_Mo_robot) (maxL := 3) (ret := (some .int)) (by decide) rfl ?_
  intro p e s m args below meth c s₁ B hml hv0
  obtain ⟨rfl, hsz, hP, hK, hD0⟩ := hv0
  have hx := B.exec
  have hb := B.bytes
  have hr := B.returns
  have hts := atoms_spec (ws := w_Mo_robot) B.pre
  have hW : ∀ w ∈ WALL, w.before ([.ref (r 0), .int pc, .int tl] : List Value).toArray s = true := fun w h => hts w (List.mem_cons_of_mem _ h)
  have hown : s.vm.findClass R_Mo = some m.cls := findClass_of_methodNamed B.named
  have hlocks := B.notSynchronized
  subst hsz
  have hD := hD0.self (sz := s.heap.size)
  generalize hAe : va_A (wM r k F A) s.heap.size = Ad at hD ⊢
  have hA : ∀ q : Nat, s.heap.size ≤ q → Ad q := fun q h => by rw [← hAe]; exact Or.inr h
  have hS : va_S Ad s.heap s.heap [] := va_S.rf
  have hl := lv_entry ([.ref (r 0), .int pc, .int tl]) (n := 3) (Nat.le_of_ble_eq_true rfl)
  rw [lg_entry_eq]
  generalize (lg_sl ([.ref (r 0), .int pc, .int tl]) ++ List.replicate (3 - (lg_sl ([.ref (r 0), .int pc, .int tl])).length) Slot.unset).toArray = ls at hl ⊢
  have hl : lv_has ls 3 [(0, .ref (r 0)), (1, .int pc), (2, .int tl)] := hl
  obtain ⟨⟨hp0, hp1⟩, ⟨hr0, hr1⟩, hg0, hg1⟩ := id hI; have hr2 : (F 3).toInt ≤ 60 := Int.le_trans hr1 (by decide); have hp2 : (F 2).toInt ≤ 60 := Int.le_trans hp1 (by decide)
  have hv := f_Mo_robot.eq_1 F A pc tl
  refine lv_aload_n hx hb d_Mo_robot_0 rfl (lv_at hl 0 rfl) ?_
  refine lv_aload_n hx hb d_Mo_robot_1 rfl (lv_at hl 0 rfl) ?_
  refine lv_iload_n hx hb d_Mo_robot_2 rfl (lv_at hl 1 rfl) ?_
  refine rdV ⟨hx, hb, hml, hown, hW⟩ (c_Mo_isPiece l dC dI r k F A pc  ) (cwV 1 hW (gIn k_197 k_198 k_199 k_193 k_200) rfl rfl rfl (by decide +kernel) ⟨Nat.le_of_ble_eq_true rfl, Nat.le_of_ble_eq_true rfl⟩) hK hP (va_recv hK hP (ci := 3) (q0 := 0) rfl rfl) rfl hl.1 rfl (Nat.le_of_ble_eq_true rfl) d_Mo_robot_3 ⟨Nat.zero_le _, Nat.zero_le _⟩ ?_
  refine lv_if_ne (tgt := 13) hx hb d_Mo_robot_6 (by decide) (fun c_1 => ?_) (fun c_1 => ?_)
  · have hv := hv.trans (if_neg c_1)
    refine lv_iconst (v := 0) hx hb d_Mo_robot_13 (by decide) ?_
    refine va_put (D := (dC, dI)) (ci := 3) (v := .int 0) (ty := .int) (C := R_Mo) (T := F_Mo) (N := 19) hx hb hW i_Mo t_Mo t_Mo_ok n_Mo hown hK hP hD hS 0 rfl rfl 0 (by decide) (hW _ k_189) (fun _ h9 => h9) rfl (by decide +kernel) rfl rfl (Nat.le_of_ble_eq_true rfl) d_Mo_robot_14 (fun H locs hP hD hS => ?_)
    have hP := pMF_0 hP
    have hD := dMF_0 hD
    refine lv_aload_n hx hb d_Mo_robot_17 rfl (lv_at hl 0 rfl) ?_
    refine va_get (D := (dC, dI)) (ci := 3) (v := .int 0) (C := R_Mo) (T := F_Mo) (N := 19) hx hb hW i_Mo hown hK hP 0 rfl rfl 0 (by decide) (hW _ k_189) (fun _ h9 => h9) rfl d_Mo_robot_18 ?_
    refine lv_if_ne (tgt := 64) hx hb d_Mo_robot_21 (by decide) (fun h9 => absurd h9 (by decide)) (fun _ => ?_)
    refine lv_aload_n hx hb d_Mo_robot_24 rfl (lv_at hl 0 rfl) ?_
    refine lv_aload_n hx hb d_Mo_robot_25 rfl (lv_at hl 0 rfl) ?_
    refine lv_iload_n hx hb d_Mo_robot_26 rfl (lv_at hl 1 rfl) ?_
    refine rdV ⟨hx, hb, hml, hown, hW⟩ (c_Mo_standing l dC dI r k (uF F 0 0) A pc hI ) (cwV 1 hW (gIn k_204 k_205 k_206 k_193 k_207) rfl rfl rfl (by decide +kernel) ⟨Nat.le_of_ble_eq_true rfl, Nat.le_of_ble_eq_true rfl⟩) hK hP (va_recv hK hP (ci := 3) (q0 := 0) rfl rfl) rfl hl.1 rfl (Nat.le_of_ble_eq_true rfl) d_Mo_robot_27 ⟨Nat.zero_le _, Nat.zero_le _⟩ ?_
    refine lv_iconst (v := (-1)) hx hb d_Mo_robot_30 (by decide) ?_
    refine lv_icmp_ne (tgt := 43) hx hb d_Mo_robot_31 (by decide) (fun c_2 => ?_) (fun c_2 => ?_)
    · have hv := hv.trans (if_neg c_2)
      refine lv_iconst (v := 2) hx hb d_Mo_robot_43 (by decide) ?_
      refine lv_goto (tgt := 61) hx hb d_Mo_robot_44 (by decide) ?_
      refine va_put (D := (dC, dI)) (ci := 3) (v := .int 2) (ty := .int) (C := R_Mo) (T := F_Mo) (N := 19) hx hb hW i_Mo t_Mo t_Mo_ok n_Mo hown hK hP hD hS 0 rfl rfl 0 (by decide) (hW _ k_189) (fun _ h9 => h9) rfl (by decide +kernel) rfl rfl (Nat.le_of_ble_eq_true rfl) d_Mo_robot_61 (fun H locs hP hD hS => ?_)
      have hP := pMF_0 hP
      have hD := dMF_0 hD
      refine lv_aload_n hx hb d_Mo_robot_64 rfl (lv_at hl 0 rfl) ?_
      refine va_get (D := (dC, dI)) (ci := 3) (v := .int 2) (C := R_Mo) (T := F_Mo) (N := 19) hx hb hW i_Mo hown hK hP 0 rfl rfl 0 (by decide) (hW _ k_189) (fun _ h9 => h9) rfl d_Mo_robot_65 ?_
      refine lv_if_le (tgt := 73) hx hb d_Mo_robot_68 (by decide) (fun h9 => absurd h9 (by decide)) (fun _ => ?_)
      refine lv_iconst (v := 0) hx hb d_Mo_robot_71 (by decide) ?_
      exact W.iret (v := 0) hx hb hr (fun t ht hW9 => ⟨⟨0, ((uF (uF F 0 0) 0 2), A), rfl, hv.symm, by rw [ht]; exact hP, va_K.moved hW9.alike hK, hD⟩, hS.F ht⟩) hS.2.2 d_Mo_robot_72
    · have hv := hv.trans (if_pos c_2)
      refine lv_aload_n hx hb d_Mo_robot_34 rfl (lv_at hl 0 rfl) ?_
      refine va_get (D := (dC, dI)) (ci := 3) (v := .ref (r 1)) (C := R_Mo) (T := F_Mo) (N := 19) hx hb hW i_Mo hown hK hP 0 rfl rfl 3 (by decide) (hW _ k_208) (fun _ h9 => h9) rfl d_Mo_robot_35 ?_
      refine lv_iload_n hx hb d_Mo_robot_38 rfl (lv_at hl 1 rfl) ?_
      refine va_zald hx hb hK hP 1 0 rfl rfl (mxP hI c_1) d_Mo_robot_39 ?_
      refine lv_if_eq (tgt := 47) hx hb d_Mo_robot_40 (by decide) (fun c_3 => ?_) (fun c_3 => ?_)
      · have hv := hv.trans (if_pos c_3)
        refine lv_aload_n hx hb d_Mo_robot_47 rfl (lv_at hl 0 rfl) ?_
        refine va_get (D := (dC, dI)) (ci := 3) (v := .int (F 3)) (C := R_Mo) (T := F_Mo) (N := 19) hx hb hW i_Mo hown hK hP 0 rfl rfl 5 (by decide) (hW _ k_195) (fun _ h9 => h9) rfl d_Mo_robot_48 ?_
        refine lv_bipush (v := 6) hx hb d_Mo_robot_51 (by decide) ?_
        refine lv_icmp_ne (tgt := 60) hx hb d_Mo_robot_53 (by decide) (fun c_4 => ?_) (fun c_4 => ?_)
        · have hv := hv.trans (if_neg c_4)
          refine lv_iconst (v := 0) hx hb d_Mo_robot_60 (by decide) ?_
          refine va_put (D := (dC, dI)) (ci := 3) (v := .int 0) (ty := .int) (C := R_Mo) (T := F_Mo) (N := 19) hx hb hW i_Mo t_Mo t_Mo_ok n_Mo hown hK hP hD hS 0 rfl rfl 0 (by decide) (hW _ k_189) (fun _ h9 => h9) rfl (by decide +kernel) rfl rfl (Nat.le_of_ble_eq_true rfl) d_Mo_robot_61 (fun H locs hP hD hS => ?_)
          have hP := pMF_0 hP
          have hD := dMF_0 hD
          refine lv_aload_n hx hb d_Mo_robot_64 rfl (lv_at hl 0 rfl) ?_
          refine va_get (D := (dC, dI)) (ci := 3) (v := .int 0) (C := R_Mo) (T := F_Mo) (N := 19) hx hb hW i_Mo hown hK hP 0 rfl rfl 0 (by decide) (hW _ k_189) (fun _ h9 => h9) rfl d_Mo_robot_65 ?_
          refine lv_if_le (tgt := 73) hx hb d_Mo_robot_68 (by decide) (fun _ => ?_) (fun h9 => absurd h9 (by decide))
          refine lv_aload_n hx hb d_Mo_robot_73 rfl (lv_at hl 0 rfl) ?_
          refine va_get (D := (dC, dI)) (ci := 3) (v := .ref (r 3)) (C := R_Mo) (T := F_Mo) (N := 19) hx hb hW i_Mo hown hK hP 0 rfl rfl 6 (by decide) (hW _ k_202) (fun _ h9 => h9) rfl d_Mo_robot_74 ?_
          refine lv_aload_n hx hb d_Mo_robot_77 rfl (lv_at hl 0 rfl) ?_
          refine va_get (D := (dC, dI)) (ci := 3) (v := .int (F 3)) (C := R_Mo) (T := F_Mo) (N := 19) hx hb hW i_Mo hown hK hP 0 rfl rfl 5 (by decide) (hW _ k_195) (fun _ h9 => h9) rfl d_Mo_robot_78 ?_
          refine lv_iload_n hx hb d_Mo_robot_81 rfl (lv_at hl 1 rfl) ?_
          refine va_iast hx hb hK hP hD hS 3 2 rfl rfl (mxN hI c_4) d_Mo_robot_82 (fun H locs hP hD hS => ?_)
          have hP := pMA_2 hP
          have hD := dMA_2 hD
          generalize hAg1 : (uA A 2 (upd (A 2) (F 3).toNatClampNeg pc)) = A1_ at hP hD hv
          refine lv_aload_n hx hb d_Mo_robot_83 rfl (lv_at hl 0 rfl) ?_
          refine va_get (D := (dC, dI)) (ci := 3) (v := .ref (r 4)) (C := R_Mo) (T := F_Mo) (N := 19) hx hb hW i_Mo hown hK hP 0 rfl rfl 7 (by decide) (hW _ k_209) (fun _ h9 => h9) rfl d_Mo_robot_84 ?_
          refine lv_aload_n hx hb d_Mo_robot_87 rfl (lv_at hl 0 rfl) ?_
          refine va_get (D := (dC, dI)) (ci := 3) (v := .int (F 3)) (C := R_Mo) (T := F_Mo) (N := 19) hx hb hW i_Mo hown hK hP 0 rfl rfl 5 (by decide) (hW _ k_195) (fun _ h9 => h9) rfl d_Mo_robot_88 ?_
          refine lv_iload_n hx hb d_Mo_robot_91 rfl (lv_at hl 2 rfl) ?_
          refine va_zast hx hb hK hP hD hS 4 3 rfl rfl (mxN hI c_4) d_Mo_robot_92 (fun H locs hP hD hS => ?_)
          have hP := pMA_3 hP
          have hD := dMA_3 hD
          generalize hAg2 : (uA A1_ 3 (upd (A1_ 3) (F 3).toNatClampNeg (vp_nar .boolean tl))) = A2_ at hP hD hv
          refine lv_aload_n hx hb d_Mo_robot_93 rfl (lv_at hl 0 rfl) ?_
          refine va_get (D := (dC, dI)) (ci := 3) (v := .ref (r 5)) (C := R_Mo) (T := F_Mo) (N := 19) hx hb hW i_Mo hown hK hP 0 rfl rfl 8 (by decide) (hW _ k_203) (fun _ h9 => h9) rfl d_Mo_robot_94 ?_
          refine lv_aload_n hx hb d_Mo_robot_97 rfl (lv_at hl 0 rfl) ?_
          refine va_get (D := (dC, dI)) (ci := 3) (v := .int (F 3)) (C := R_Mo) (T := F_Mo) (N := 19) hx hb hW i_Mo hown hK hP 0 rfl rfl 5 (by decide) (hW _ k_195) (fun _ h9 => h9) rfl d_Mo_robot_98 ?_
          refine lv_iconst (v := (-1)) hx hb d_Mo_robot_101 (by decide) ?_
          refine va_iast hx hb hK hP hD hS 5 4 rfl rfl (mxN hI c_4) d_Mo_robot_102 (fun H locs hP hD hS => ?_)
          have hP := pMA_4 hP
          have hD := dMA_4 hD
          generalize hAg3 : (uA A2_ 4 (upd (A2_ 4) (F 3).toNatClampNeg (-1))) = A3_ at hP hD hv
          refine lv_aload_n hx hb d_Mo_robot_103 rfl (lv_at hl 0 rfl) ?_
          refine va_get (D := (dC, dI)) (ci := 3) (v := .ref (r 6)) (C := R_Mo) (T := F_Mo) (N := 19) hx hb hW i_Mo hown hK hP 0 rfl rfl 9 (by decide) (hW _ k_210) (fun _ h9 => h9) rfl d_Mo_robot_104 ?_
          refine lv_aload_n hx hb d_Mo_robot_107 rfl (lv_at hl 0 rfl) ?_
          refine va_get (D := (dC, dI)) (ci := 3) (v := .int (F 3)) (C := R_Mo) (T := F_Mo) (N := 19) hx hb hW i_Mo hown hK hP 0 rfl rfl 5 (by decide) (hW _ k_195) (fun _ h9 => h9) rfl d_Mo_robot_108 ?_
          refine lv_iconst (v := (-1)) hx hb d_Mo_robot_111 (by decide) ?_
          refine va_iast hx hb hK hP hD hS 6 5 rfl rfl (mxN hI c_4) d_Mo_robot_112 (fun H locs hP hD hS => ?_)
          have hP := pMA_5 hP
          have hD := dMA_5 hD
          generalize hAg4 : (uA A3_ 5 (upd (A3_ 5) (F 3).toNatClampNeg (-1))) = A4_ at hP hD hv
          refine lv_aload_n hx hb d_Mo_robot_113 rfl (lv_at hl 0 rfl) ?_
          refine va_get (D := (dC, dI)) (ci := 3) (v := .ref (r 7)) (C := R_Mo) (T := F_Mo) (N := 19) hx hb hW i_Mo hown hK hP 0 rfl rfl 10 (by decide) (hW _ k_211) (fun _ h9 => h9) rfl d_Mo_robot_114 ?_
          refine lv_aload_n hx hb d_Mo_robot_117 rfl (lv_at hl 0 rfl) ?_
          refine va_get (D := (dC, dI)) (ci := 3) (v := .int (F 3)) (C := R_Mo) (T := F_Mo) (N := 19) hx hb hW i_Mo hown hK hP 0 rfl rfl 5 (by decide) (hW _ k_195) (fun _ h9 => h9) rfl d_Mo_robot_118 ?_
          refine lv_aload_n hx hb d_Mo_robot_121 rfl (lv_at hl 0 rfl) ?_
          refine va_get (D := (dC, dI)) (ci := 3) (v := .int (F 1)) (C := R_Mo) (T := F_Mo) (N := 19) hx hb hW i_Mo hown hK hP 0 rfl rfl 1 (by decide) (hW _ k_212) (fun _ h9 => h9) rfl d_Mo_robot_122 ?_
          refine va_iast hx hb hK hP hD hS 7 6 rfl rfl (mxN hI c_4) d_Mo_robot_125 (fun H locs hP hD hS => ?_)
          have hP := pMA_6 hP
          have hD := dMA_6 hD
          generalize hAg5 : (uA A4_ 6 (upd (A4_ 6) (F 3).toNatClampNeg (F 1))) = A5_ at hP hD hv
          refine lv_aload_n hx hb d_Mo_robot_126 rfl (lv_at hl 0 rfl) ?_
          refine lv_dup hx hb d_Mo_robot_127 rfl ?_
          refine va_get (D := (dC, dI)) (ci := 3) (v := .int (F 3)) (C := R_Mo) (T := F_Mo) (N := 19) hx hb hW i_Mo hown hK hP 0 rfl rfl 5 (by decide) (hW _ k_195) (fun _ h9 => h9) rfl d_Mo_robot_128 ?_
          refine lv_iconst (v := 1) hx hb d_Mo_robot_131 (by decide) ?_
          refine lv_iadd hx hb d_Mo_robot_132 ?_
          refine va_put (D := (dC, dI)) (ci := 3) (v := .int ((F 3) + 1)) (ty := .int) (C := R_Mo) (T := F_Mo) (N := 19) hx hb hW i_Mo t_Mo t_Mo_ok n_Mo hown hK hP hD hS 0 rfl rfl 5 (by decide) (hW _ k_195) (fun _ h9 => h9) rfl (by decide +kernel) rfl rfl (Nat.le_of_ble_eq_true rfl) d_Mo_robot_133 (fun H locs hP hD hS => ?_)
          have hP := pMF_3 hP
          have hD := dMF_3 hD
          refine lv_aload_n hx hb d_Mo_robot_136 rfl (lv_at hl 0 rfl) ?_
          refine va_get (D := (dC, dI)) (ci := 3) (v := .int ((F 3) + 1)) (C := R_Mo) (T := F_Mo) (N := 19) hx hb hW i_Mo hown hK hP 0 rfl rfl 5 (by decide) (hW _ k_195) (fun _ h9 => h9) rfl d_Mo_robot_137 ?_
          refine lv_iconst (v := 1) hx hb d_Mo_robot_140 (by decide) ?_
          refine lv_isub hx hb d_Mo_robot_141 ?_
          exact W.iret (v := ((F 3) + 1) - 1) hx hb hr (fun t ht hW9 => ⟨⟨((F 3) + 1) - 1, ((uF (uF (uF F 0 0) 0 0) 3 ((F 3) + 1)), A5_), rfl, hv.symm, by rw [ht]; exact hP, va_K.moved hW9.alike hK, hD⟩, hS.F ht⟩) hS.2.2 d_Mo_robot_142
        · have hv := hv.trans (if_pos c_4)
          refine lv_iconst (v := 3) hx hb d_Mo_robot_56 (by decide) ?_
          refine lv_goto (tgt := 61) hx hb d_Mo_robot_57 (by decide) ?_
          refine va_put (D := (dC, dI)) (ci := 3) (v := .int 3) (ty := .int) (C := R_Mo) (T := F_Mo) (N := 19) hx hb hW i_Mo t_Mo t_Mo_ok n_Mo hown hK hP hD hS 0 rfl rfl 0 (by decide) (hW _ k_189) (fun _ h9 => h9) rfl (by decide +kernel) rfl rfl (Nat.le_of_ble_eq_true rfl) d_Mo_robot_61 (fun H locs hP hD hS => ?_)
          have hP := pMF_0 hP
          have hD := dMF_0 hD
          refine lv_aload_n hx hb d_Mo_robot_64 rfl (lv_at hl 0 rfl) ?_
          refine va_get (D := (dC, dI)) (ci := 3) (v := .int 3) (C := R_Mo) (T := F_Mo) (N := 19) hx hb hW i_Mo hown hK hP 0 rfl rfl 0 (by decide) (hW _ k_189) (fun _ h9 => h9) rfl d_Mo_robot_65 ?_
          refine lv_if_le (tgt := 73) hx hb d_Mo_robot_68 (by decide) (fun h9 => absurd h9 (by decide)) (fun _ => ?_)
          refine lv_iconst (v := 0) hx hb d_Mo_robot_71 (by decide) ?_
          exact W.iret (v := 0) hx hb hr (fun t ht hW9 => ⟨⟨0, ((uF (uF F 0 0) 0 3), A), rfl, hv.symm, by rw [ht]; exact hP, va_K.moved hW9.alike hK, hD⟩, hS.F ht⟩) hS.2.2 d_Mo_robot_72
      · have hv := hv.trans (if_neg c_3)
        refine lv_iconst (v := 2) hx hb d_Mo_robot_43 (by decide) ?_
        refine lv_goto (tgt := 61) hx hb d_Mo_robot_44 (by decide) ?_
        refine va_put (D := (dC, dI)) (ci := 3) (v := .int 2) (ty := .int) (C := R_Mo) (T := F_Mo) (N := 19) hx hb hW i_Mo t_Mo t_Mo_ok n_Mo hown hK hP hD hS 0 rfl rfl 0 (by decide) (hW _ k_189) (fun _ h9 => h9) rfl (by decide +kernel) rfl rfl (Nat.le_of_ble_eq_true rfl) d_Mo_robot_61 (fun H locs hP hD hS => ?_)
        have hP := pMF_0 hP
        have hD := dMF_0 hD
        refine lv_aload_n hx hb d_Mo_robot_64 rfl (lv_at hl 0 rfl) ?_
        refine va_get (D := (dC, dI)) (ci := 3) (v := .int 2) (C := R_Mo) (T := F_Mo) (N := 19) hx hb hW i_Mo hown hK hP 0 rfl rfl 0 (by decide) (hW _ k_189) (fun _ h9 => h9) rfl d_Mo_robot_65 ?_
        refine lv_if_le (tgt := 73) hx hb d_Mo_robot_68 (by decide) (fun h9 => absurd h9 (by decide)) (fun _ => ?_)
        refine lv_iconst (v := 0) hx hb d_Mo_robot_71 (by decide) ?_
        exact W.iret (v := 0) hx hb hr (fun t ht hW9 => ⟨⟨0, ((uF (uF F 0 0) 0 2), A), rfl, hv.symm, by rw [ht]; exact hP, va_K.moved hW9.alike hK, hD⟩, hS.F ht⟩) hS.2.2 d_Mo_robot_72
  · have hv := hv.trans (if_pos c_1)
    refine lv_iconst (v := 1) hx hb d_Mo_robot_9 (by decide) ?_
    refine lv_goto (tgt := 14) hx hb d_Mo_robot_10 (by decide) ?_
    refine va_put (D := (dC, dI)) (ci := 3) (v := .int 1) (ty := .int) (C := R_Mo) (T := F_Mo) (N := 19) hx hb hW i_Mo t_Mo t_Mo_ok n_Mo hown hK hP hD hS 0 rfl rfl 0 (by decide) (hW _ k_189) (fun _ h9 => h9) rfl (by decide +kernel) rfl rfl (Nat.le_of_ble_eq_true rfl) d_Mo_robot_14 (fun H locs hP hD hS => ?_)
    have hP := pMF_0 hP
    have hD := dMF_0 hD
    refine lv_aload_n hx hb d_Mo_robot_17 rfl (lv_at hl 0 rfl) ?_
    refine va_get (D := (dC, dI)) (ci := 3) (v := .int 1) (C := R_Mo) (T := F_Mo) (N := 19) hx hb hW i_Mo hown hK hP 0 rfl rfl 0 (by decide) (hW _ k_189) (fun _ h9 => h9) rfl d_Mo_robot_18 ?_
    refine lv_if_ne (tgt := 64) hx hb d_Mo_robot_21 (by decide) (fun _ => ?_) (fun h9 => absurd h9 (by decide))
    refine lv_aload_n hx hb d_Mo_robot_64 rfl (lv_at hl 0 rfl) ?_
    refine va_get (D := (dC, dI)) (ci := 3) (v := .int 1) (C := R_Mo) (T := F_Mo) (N := 19) hx hb hW i_Mo hown hK hP 0 rfl rfl 0 (by decide) (hW _ k_189) (fun _ h9 => h9) rfl d_Mo_robot_65 ?_
    refine lv_if_le (tgt := 73) hx hb d_Mo_robot_68 (by decide) (fun h9 => absurd h9 (by decide)) (fun _ => ?_)
    refine lv_iconst (v := 0) hx hb d_Mo_robot_71 (by decide) ?_
    exact W.iret (v := 0) hx hb hr (fun t ht hW9 => ⟨⟨0, ((uF F 0 1), A), rfl, hv.symm, by rw [ht]; exact hP, va_K.moved hW9.alike hK, hD⟩, hS.F ht⟩) hS.2.2 d_Mo_robot_72
def f_Mo_isSilent (F : Nat → Int32) (A : Nat → Nat → Int32) (rb : Int32) : Int32 := if (F 1) - (A 6 rb.toNatClampNeg) ≤ 30 then 0 else 1
set_option maxHeartbeats 4000000 in
set_option maxRecDepth 100000 in
theorem c_Mo_isSilent (l : Launch) (dC : Nat → ClassId) (dI : Nat → Nat → Nat) (r : Nat → Nat) (k : Nat → ClassId) (F : Nat → Int32) (A : Nat → Nat → Int32) (rb : Int32) (h_rb : vp_in rb 6) : Met l y_Mo_isSilent w_Mo_isSilent ({ frames := 0, cells := 0, slots := 0, locals := 0 }) (va_Pc [.ref (r 0), .int rb] (RO (dC, dI) (wM r k F A) (tM k))) (vp_Si (fun v => v = f_Mo_isSilent F A rb)) 0 0 (fun _ => False) := by
  refine Met.ofW (cc := b_Mo_isSilent) (maxL := 2) (ret := (some .boolean)) (by decide) rfl ?_
  intro p e s m args below meth c s₁ B hml hv0
  obtain ⟨rfl, hP, hK⟩ := hv0
  have hx := B.exec
  have hb := B.bytes
  have hr := B.returns
  have hts := atoms_spec (ws := w_Mo_isSilent) B.pre
  have hW : ∀ w ∈ WALL, w.before ([.ref (r 0), .int rb] : List Value).toArray s = true := fun w h => hts w (List.mem_cons_of_mem _ h)
  have hown : s.vm.findClass R_Mo = some m.cls := findClass_of_methodNamed B.named
  have hlocks := B.notSynchronized
  have hl := lv_entry ([.ref (r 0), .int rb]) (n := 2) (Nat.le_of_ble_eq_true rfl)
  rw [lg_entry_eq]
  generalize (lg_sl ([.ref (r 0), .int rb]) ++ List.replicate (2 - (lg_sl ([.ref (r 0), .int rb])).length) Slot.unset).toArray = ls at hl ⊢
  have hl : lv_has ls 2 [(0, .ref (r 0)), (1, .int rb)] := hl
  have hv := f_Mo_isSilent.eq_1 F A rb
  refine lv_aload_n hx hb d_Mo_isSilent_0 rfl (lv_at hl 0 rfl) ?_
  refine va_get (D := (dC, dI)) (ci := 3) (v := .int (F 1)) (C := R_Mo) (T := F_Mo) (N := 19) hx hb hW i_Mo hown hK hP 0 rfl rfl 1 (by decide) (hW _ k_212) (fun _ h9 => h9) rfl d_Mo_isSilent_1 ?_
  refine lv_aload_n hx hb d_Mo_isSilent_4 rfl (lv_at hl 0 rfl) ?_
  refine va_get (D := (dC, dI)) (ci := 3) (v := .ref (r 7)) (C := R_Mo) (T := F_Mo) (N := 19) hx hb hW i_Mo hown hK hP 0 rfl rfl 10 (by decide) (hW _ k_211) (fun _ h9 => h9) rfl d_Mo_isSilent_5 ?_
  refine lv_iload_n hx hb d_Mo_isSilent_8 rfl (lv_at hl 1 rfl) ?_
  refine va_iald hx hb hK hP 7 6 rfl rfl h_rb d_Mo_isSilent_9 ?_
  refine lv_isub hx hb d_Mo_isSilent_10 ?_
  refine lv_bipush (v := 30) hx hb d_Mo_isSilent_11 (by decide) ?_
  refine lv_icmp_le (tgt := 20) hx hb d_Mo_isSilent_13 (by decide) (fun c_1 => ?_) (fun c_1 => ?_)
  · have hv := hv.trans (if_pos c_1)
    refine lv_iconst (v := 0) hx hb d_Mo_isSilent_20 (by decide) ?_
    exact W.zret (v := 0) (ty := .boolean) hx hb hr rfl (fun t ht hW9 => ⟨0, rfl, hv.symm, ht⟩) (fun q hq => nomatch hq) d_Mo_isSilent_21
  · have hv := hv.trans (if_neg c_1)
    refine lv_iconst (v := 1) hx hb d_Mo_isSilent_16 (by decide) ?_
    refine lv_goto (tgt := 21) hx hb d_Mo_isSilent_17 (by decide) ?_
    exact W.zret (v := 1) (ty := .boolean) hx hb hr rfl (fun t ht hW9 => ⟨1, rfl, hv.symm, ht⟩) (fun q hq => nomatch hq) d_Mo_isSilent_21
theorem b01_f_Mo_isSilent (F : Nat → Int32) (A : Nat → Nat → Int32) (rb : Int32) : f_Mo_isSilent F A rb = 0 ∨ f_Mo_isSilent F A rb = 1 := by
  unfold f_Mo_isSilent
  repeat' split
  all_goals first | exact Or.inl rfl | exact Or.inr rfl
def f_Mo_meet (F : Nat → Int32) (A : Nat → Nat → Int32) (gr oth : Int32) : Int32 := if A 9 gr.toNatClampNeg = A 9 oth.toNatClampNeg then (if A 11 oth.toNatClampNeg ≤ A 10 gr.toNatClampNeg then 0 else (if A 11 gr.toNatClampNeg ≤ A 10 oth.toNatClampNeg then 0 else 1)) else 0
set_option maxHeartbeats 4000000 in
set_option maxRecDepth 100000 in
theorem c_Mo_meet (l : Launch) (dC : Nat → ClassId) (dI : Nat → Nat → Nat) (r : Nat → Nat) (k : Nat → ClassId) (F : Nat → Int32) (A : Nat → Nat → Int32) (gr oth : Int32) (h_gr : vp_in gr 61) (h_oth : vp_in oth 61) : Met l y_Mo_meet w_Mo_meet ({ frames := 0, cells := 0, slots := 0, locals := 0 }) (va_Pc [.ref (r 0), .int gr, .int oth] (RO (dC, dI) (wM r k F A) (tM k))) (vp_Si (fun v => v = f_Mo_meet F A gr oth)) 0 0 (fun _ => False) := by
  refine Met.ofW (cc := b_Mo_meet) (maxL := 3) (ret := (some .boolean)) (by decide) rfl ?_
  intro p e s m args below meth c s₁ B hml hv0
  obtain ⟨rfl, hP, hK⟩ := hv0
  have hx := B.exec
  have hb := B.bytes
  have hr := B.returns
  have hts := atoms_spec (ws := w_Mo_meet) B.pre
  have hW : ∀ w ∈ WALL, w.before ([.ref (r 0), .int gr, .int oth] : List Value).toArray s = true := fun w h => hts w (List.mem_cons_of_mem _ h)
  have hown : s.vm.findClass R_Mo = some m.cls := findClass_of_methodNamed B.named
  have hlocks := B.notSynchronized
  have hl := lv_entry ([.ref (r 0), .int gr, .int oth]) (n := 3) (Nat.le_of_ble_eq_true rfl)
  rw [lg_entry_eq]
  generalize (lg_sl ([.ref (r 0), .int gr, .int oth]) ++ List.replicate (3 - (lg_sl ([.ref (r 0), .int gr, .int oth])).length) Slot.unset).toArray = ls at hl ⊢
  have hl : lv_has ls 3 [(0, .ref (r 0)), (1, .int gr), (2, .int oth)] := hl
  have hv := f_Mo_meet.eq_1 F A gr oth
  refine lv_aload_n hx hb d_Mo_meet_0 rfl (lv_at hl 0 rfl) ?_
  refine va_get (D := (dC, dI)) (ci := 3) (v := .ref (r 10)) (C := R_Mo) (T := F_Mo) (N := 19) hx hb hW i_Mo hown hK hP 0 rfl rfl 14 (by decide) (hW _ k_213) (fun _ h9 => h9) rfl d_Mo_meet_1 ?_
  refine lv_iload_n hx hb d_Mo_meet_4 rfl (lv_at hl 1 rfl) ?_
  refine va_iald hx hb hK hP 10 9 rfl rfl h_gr d_Mo_meet_5 ?_
  refine lv_aload_n hx hb d_Mo_meet_6 rfl (lv_at hl 0 rfl) ?_
  refine va_get (D := (dC, dI)) (ci := 3) (v := .ref (r 10)) (C := R_Mo) (T := F_Mo) (N := 19) hx hb hW i_Mo hown hK hP 0 rfl rfl 14 (by decide) (hW _ k_213) (fun _ h9 => h9) rfl d_Mo_meet_7 ?_
  refine lv_iload_n hx hb d_Mo_meet_10 rfl (lv_at hl 2 rfl) ?_
  refine va_iald hx hb hK hP 10 9 rfl rfl h_oth d_Mo_meet_11 ?_
  refine lv_icmp_ne (tgt := 49) hx hb d_Mo_meet_12 (by decide) (fun c_1 => ?_) (fun c_1 => ?_)
  · have hv := hv.trans (if_neg c_1)
    refine lv_iconst (v := 0) hx hb d_Mo_meet_49 (by decide) ?_
    exact W.zret (v := 0) (ty := .boolean) hx hb hr rfl (fun t ht hW9 => ⟨0, rfl, hv.symm, ht⟩) (fun q hq => nomatch hq) d_Mo_meet_50
  · have hv := hv.trans (if_pos c_1)
    refine lv_aload_n hx hb d_Mo_meet_15 rfl (lv_at hl 0 rfl) ?_
    refine va_get (D := (dC, dI)) (ci := 3) (v := .ref (r 11)) (C := R_Mo) (T := F_Mo) (N := 19) hx hb hW i_Mo hown hK hP 0 rfl rfl 15 (by decide) (hW _ k_214) (fun _ h9 => h9) rfl d_Mo_meet_16 ?_
    refine lv_iload_n hx hb d_Mo_meet_19 rfl (lv_at hl 1 rfl) ?_
    refine va_iald hx hb hK hP 11 10 rfl rfl h_gr d_Mo_meet_20 ?_
    refine lv_aload_n hx hb d_Mo_meet_21 rfl (lv_at hl 0 rfl) ?_
    refine va_get (D := (dC, dI)) (ci := 3) (v := .ref (r 12)) (C := R_Mo) (T := F_Mo) (N := 19) hx hb hW i_Mo hown hK hP 0 rfl rfl 16 (by decide) (hW _ k_215) (fun _ h9 => h9) rfl d_Mo_meet_22 ?_
    refine lv_iload_n hx hb d_Mo_meet_25 rfl (lv_at hl 2 rfl) ?_
    refine va_iald hx hb hK hP 12 11 rfl rfl h_oth d_Mo_meet_26 ?_
    refine lv_icmp_ge (tgt := 49) hx hb d_Mo_meet_27 (by decide) (fun c_2 => ?_) (fun c_2 => ?_)
    · have hv := hv.trans (if_pos c_2)
      refine lv_iconst (v := 0) hx hb d_Mo_meet_49 (by decide) ?_
      exact W.zret (v := 0) (ty := .boolean) hx hb hr rfl (fun t ht hW9 => ⟨0, rfl, hv.symm, ht⟩) (fun q hq => nomatch hq) d_Mo_meet_50
    · have hv := hv.trans (if_neg c_2)
      refine lv_aload_n hx hb d_Mo_meet_30 rfl (lv_at hl 0 rfl) ?_
      refine va_get (D := (dC, dI)) (ci := 3) (v := .ref (r 11)) (C := R_Mo) (T := F_Mo) (N := 19) hx hb hW i_Mo hown hK hP 0 rfl rfl 15 (by decide) (hW _ k_214) (fun _ h9 => h9) rfl d_Mo_meet_31 ?_
      refine lv_iload_n hx hb d_Mo_meet_34 rfl (lv_at hl 2 rfl) ?_
      refine va_iald hx hb hK hP 11 10 rfl rfl h_oth d_Mo_meet_35 ?_
      refine lv_aload_n hx hb d_Mo_meet_36 rfl (lv_at hl 0 rfl) ?_
      refine va_get (D := (dC, dI)) (ci := 3) (v := .ref (r 12)) (C := R_Mo) (T := F_Mo) (N := 19) hx hb hW i_Mo hown hK hP 0 rfl rfl 16 (by decide) (hW _ k_215) (fun _ h9 => h9) rfl d_Mo_meet_37 ?_
      refine lv_iload_n hx hb d_Mo_meet_40 rfl (lv_at hl 1 rfl) ?_
      refine va_iald hx hb hK hP 12 11 rfl rfl h_gr d_Mo_meet_41 ?_
      refine lv_icmp_ge (tgt := 49) hx hb d_Mo_meet_42 (by decide) (fun c_3 => ?_) (fun c_3 => ?_)
      · have hv := hv.trans (if_pos c_3)
        refine lv_iconst (v := 0) hx hb d_Mo_meet_49 (by decide) ?_
        exact W.zret (v := 0) (ty := .boolean) hx hb hr rfl (fun t ht hW9 => ⟨0, rfl, hv.symm, ht⟩) (fun q hq => nomatch hq) d_Mo_meet_50
      · have hv := hv.trans (if_neg c_3)
        refine lv_iconst (v := 1) hx hb d_Mo_meet_45 (by decide) ?_
        refine lv_goto (tgt := 50) hx hb d_Mo_meet_46 (by decide) ?_
        exact W.zret (v := 1) (ty := .boolean) hx hb hr rfl (fun t ht hW9 => ⟨1, rfl, hv.symm, ht⟩) (fun q hq => nomatch hq) d_Mo_meet_50
