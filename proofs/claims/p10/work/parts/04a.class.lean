def f_RS_needPiece (F : Nat → Int32) (A : Nat → Nat → Int32) (pc : Int32) : Nat := if pc < 0 then 1 else (if pc < F 1 then 0 else 1)
set_option maxHeartbeats 4000000 in
set_option maxRecDepth 100000 in
theorem c_RS_needPiece_k (l : Launch) (dC : Nat → ClassId) (dI : Nat → Nat → Nat) (r : Nat → Nat) (k : Nat → ClassId) (F : Nat → Int32) (A : Nat → Nat → Int32) (pc : Int32) (hk : f_RS_needPiece F A pc = 0) : Met l y_RS_needPiece w_RS_needPiece ({ frames := 0, cells := 0, slots := 0, locals := 0 }) (va_Pc [.ref (r 0), .int pc] (RO (dC, dI) (wC r k F A) (tC k))) (va_Sv (fun _ => True)) 0 0 (fun _ => False) := by
  refine Met.ofW (cc := b_RS_needPiece) (maxL := 2) (ret := none) (by decide) rfl ?_
  intro p e s m args below meth c s₁ B hml hv0
  obtain ⟨rfl, hP, hK⟩ := hv0
  have hx := B.exec
  have hb := B.bytes
  have hr := B.returns
  have hts := atoms_spec (ws := w_RS_needPiece) B.pre
  have hW : ∀ w ∈ WALL, w.before ([.ref (r 0), .int pc] : List Value).toArray s = true := fun w h => hts w (List.mem_cons_of_mem _ h)
  have hown : s.vm.findClass R_RS = some m.cls := findClass_of_methodNamed B.named
  have hlocks := B.notSynchronized
  have hl := lv_entry ([.ref (r 0), .int pc]) (n := 2) (Nat.le_of_ble_eq_true rfl)
  rw [lg_entry_eq]
  generalize (lg_sl ([.ref (r 0), .int pc]) ++ List.replicate (2 - (lg_sl ([.ref (r 0), .int pc])).length) Slot.unset).toArray = ls at hl ⊢
  have hl : lv_has ls 2 [(0, .ref (r 0)), (1, .int pc)] := hl
  have hv := f_RS_needPiece.eq_1 F A pc
  refine lv_iload_n hx hb d_RS_needPiece_0 rfl (lv_at hl 1 rfl) ?_
  refine lv_if_lt (tgt := 12) hx hb d_RS_needPiece_1 (by decide) (fun c_1 => ?_) (fun c_1 => ?_)
  · have hv := hv.trans (if_pos c_1)
    exact absurd (hk.symm.trans hv) (by decide)
  · have hv := hv.trans (if_neg c_1)
    refine lv_iload_n hx hb d_RS_needPiece_4 rfl (lv_at hl 1 rfl) ?_
    refine lv_aload_n hx hb d_RS_needPiece_5 rfl (lv_at hl 0 rfl) ?_
    refine va_get (D := (dC, dI)) (ci := 0) (v := .int (F 1)) (C := R_RS) (T := F_RS) (N := 6) hx hb hW i_RS hown hK hP 0 rfl rfl 1 (by decide) (hW _ k_0) (fun _ h9 => h9) rfl d_RS_needPiece_6 ?_
    refine lv_icmp_lt (tgt := 22) hx hb d_RS_needPiece_9 (by decide) (fun c_2 => ?_) (fun c_2 => ?_)
    · have hv := hv.trans (if_pos c_2)
      exact W.vret hx hb hr (fun t ht hW9 => ⟨rfl, trivial, ht⟩) (fun q hq => nomatch hq) d_RS_needPiece_22
    · have hv := hv.trans (if_neg c_2)
      exact absurd (hk.symm.trans hv) (by decide)
set_option maxHeartbeats 4000000 in
set_option maxRecDepth 100000 in
theorem c_RS_needPiece_x (l : Launch) (hl9 : l.stackTraces = false) (dC : Nat → ClassId) (dI : Nat → Nat → Nat) (r : Nat → Nat) (k : Nat → ClassId) (F : Nat → Int32) (A : Nat → Nat → Int32) (sz : Nat) (pc : Int32) (hk : ¬ f_RS_needPiece F A pc = 0) : vx_Met l y_RS_needPiece w_RS_needPiece ({ frames := 6, cells := 1, slots := 6, locals := 82 }) (va_Pc [.ref (r 0), .int pc] (GP (dC, dI) (wC r k F A) (tC k) sz)) (va_Qv (fun _ : Unit => False) (fun _ _ => True) (fun q => sz ≤ q)) (vx_X (fun u : Nat => u = f_RS_needPiece F A pc) (fun E u _ => E = exN u) (fun q => sz ≤ q)) 1 6 (fun q => sz ≤ q) := by
  refine vx_ofW (cc := b_RS_needPiece) (maxL := 2) (ret := none) (by decide) rfl ?_
  intro p e s m args below meth c s₁ B hml hEx hv0
  obtain ⟨rfl, hsz, hP, hK, hXS⟩ := hv0
  have hx := B.exec
  have hb := B.bytes
  have hr := B.returns
  have hts := atoms_spec (ws := w_RS_needPiece) B.pre
  have hW : ∀ w ∈ WALL, w.before ([.ref (r 0), .int pc] : List Value).toArray s = true := fun w h => hts w (List.mem_cons_of_mem _ h)
  have hown : s.vm.findClass R_RS = some m.cls := findClass_of_methodNamed B.named
  have hlocks := B.notSynchronized
  subst hsz
  generalize hAe : (fun q : Nat => s.heap.size ≤ q) = Ad at hXS ⊢
  have hA : ∀ q : Nat, s.heap.size ≤ q → Ad q := fun q h => by rw [← hAe]; exact h
  have hS : va_S Ad s.heap s.heap [] := va_S.rf
  have hl := lv_entry ([.ref (r 0), .int pc]) (n := 2) (Nat.le_of_ble_eq_true rfl)
  rw [lg_entry_eq]
  generalize (lg_sl ([.ref (r 0), .int pc]) ++ List.replicate (2 - (lg_sl ([.ref (r 0), .int pc])).length) Slot.unset).toArray = ls at hl ⊢
  have hl : lv_has ls 2 [(0, .ref (r 0)), (1, .int pc)] := hl
  have hv := f_RS_needPiece.eq_1 F A pc
  refine lv_iload_n hx hb d_RS_needPiece_0 rfl (lv_at hl 1 rfl) ?_
  refine lv_if_lt (tgt := 12) hx hb d_RS_needPiece_1 (by decide) (fun c_1 => ?_) (fun c_1 => ?_)
  · have hv := hv.trans (if_pos c_1)
    exact thr hx hb hl9 hown hW hXS tw_0 hS (hl.1.trans hml.symm) d_RS_needPiece_12 d_RS_needPiece_15 d_RS_needPiece_16 d_RS_needPiece_18 d_RS_needPiece_21 hEx (Nat.le_of_ble_eq_true rfl) (Nat.le_of_ble_eq_true rfl) (Nat.le_of_ble_eq_true rfl) (Nat.le_of_ble_eq_true rfl) hlocks (fun t ha hsz hk9 => ⟨1, hv.symm, rfl, Nat.le_trans hS.1 hsz, fun q h1 h2 => (hk9 q (Nat.lt_of_lt_of_le h1 hS.1)).trans (hS.2.1 q h1 h2)⟩) hS.2.2 (Nat.le_of_ble_eq_true rfl) (Nat.le_of_ble_eq_true rfl)
  · have hv := hv.trans (if_neg c_1)
    refine lv_iload_n hx hb d_RS_needPiece_4 rfl (lv_at hl 1 rfl) ?_
    refine lv_aload_n hx hb d_RS_needPiece_5 rfl (lv_at hl 0 rfl) ?_
    refine va_get (D := (dC, dI)) (ci := 0) (v := .int (F 1)) (C := R_RS) (T := F_RS) (N := 6) hx hb hW i_RS hown hK hP 0 rfl rfl 1 (by decide) (hW _ k_0) (fun _ h9 => h9) rfl d_RS_needPiece_6 ?_
    refine lv_icmp_lt (tgt := 22) hx hb d_RS_needPiece_9 (by decide) (fun c_2 => ?_) (fun c_2 => ?_)
    · have hv := hv.trans (if_pos c_2)
      exact absurd hv hk
    · have hv := hv.trans (if_neg c_2)
      exact thr hx hb hl9 hown hW hXS tw_0 hS (hl.1.trans hml.symm) d_RS_needPiece_12 d_RS_needPiece_15 d_RS_needPiece_16 d_RS_needPiece_18 d_RS_needPiece_21 hEx (Nat.le_of_ble_eq_true rfl) (Nat.le_of_ble_eq_true rfl) (Nat.le_of_ble_eq_true rfl) (Nat.le_of_ble_eq_true rfl) hlocks (fun t ha hsz hk9 => ⟨1, hv.symm, rfl, Nat.le_trans hS.1 hsz, fun q h1 h2 => (hk9 q (Nat.lt_of_lt_of_le h1 hS.1)).trans (hS.2.1 q h1 h2)⟩) hS.2.2 (Nat.le_of_ble_eq_true rfl) (Nat.le_of_ble_eq_true rfl)
def f_RS_needRobot (F : Nat → Int32) (A : Nat → Nat → Int32) (rb : Int32) : Nat := if rb < 0 then 1 else (if rb < F 2 then 0 else 1)
set_option maxHeartbeats 4000000 in
set_option maxRecDepth 100000 in
theorem c_RS_needRobot_k (l : Launch) (dC : Nat → ClassId) (dI : Nat → Nat → Nat) (r : Nat → Nat) (k : Nat → ClassId) (F : Nat → Int32) (A : Nat → Nat → Int32) (rb : Int32) (hk : f_RS_needRobot F A rb = 0) : Met l y_RS_needRobot w_RS_needRobot ({ frames := 0, cells := 0, slots := 0, locals := 0 }) (va_Pc [.ref (r 0), .int rb] (RO (dC, dI) (wC r k F A) (tC k))) (va_Sv (fun _ => True)) 0 0 (fun _ => False) := by
  refine Met.ofW (cc := b_RS_needRobot) (maxL := 2) (ret := none) (by decide) rfl ?_
  intro p e s m args below meth c s₁ B hml hv0
  obtain ⟨rfl, hP, hK⟩ := hv0
  have hx := B.exec
  have hb := B.bytes
  have hr := B.returns
  have hts := atoms_spec (ws := w_RS_needRobot) B.pre
  have hW : ∀ w ∈ WALL, w.before ([.ref (r 0), .int rb] : List Value).toArray s = true := fun w h => hts w (List.mem_cons_of_mem _ h)
  have hown : s.vm.findClass R_RS = some m.cls := findClass_of_methodNamed B.named
  have hlocks := B.notSynchronized
  have hl := lv_entry ([.ref (r 0), .int rb]) (n := 2) (Nat.le_of_ble_eq_true rfl)
  rw [lg_entry_eq]
  generalize (lg_sl ([.ref (r 0), .int rb]) ++ List.replicate (2 - (lg_sl ([.ref (r 0), .int rb])).length) Slot.unset).toArray = ls at hl ⊢
  have hl : lv_has ls 2 [(0, .ref (r 0)), (1, .int rb)] := hl
  have hv := f_RS_needRobot.eq_1 F A rb
  refine lv_iload_n hx hb d_RS_needRobot_0 rfl (lv_at hl 1 rfl) ?_
  refine lv_if_lt (tgt := 15) hx hb d_RS_needRobot_1 (by decide) (fun c_1 => ?_) (fun c_1 => ?_)
  · have hv := hv.trans (if_pos c_1)
    exact absurd (hk.symm.trans hv) (by decide)
  · have hv := hv.trans (if_neg c_1)
    refine lv_iload_n hx hb d_RS_needRobot_4 rfl (lv_at hl 1 rfl) ?_
    refine lv_aload_n hx hb d_RS_needRobot_5 rfl (lv_at hl 0 rfl) ?_
    refine va_get (D := (dC, dI)) (ci := 0) (v := .ref (r 1)) (C := R_RS) (T := F_RS) (N := 6) hx hb hW i_RS hown hK hP 0 rfl rfl 4 (by decide) (hW _ k_3) (fun _ h9 => h9) rfl d_RS_needRobot_6 ?_
    refine va_get (D := (dC, dI)) (ci := 1) (v := .int (F 2)) (C := R_Rb) (T := F_Rb) (N := 7) hx hb hW i_Rb hown hK hP 1 rfl rfl 0 (by decide) (hW _ k_4) (fun _ h9 => h9) rfl d_RS_needRobot_9 ?_
    refine lv_icmp_lt (tgt := 25) hx hb d_RS_needRobot_12 (by decide) (fun c_2 => ?_) (fun c_2 => ?_)
    · have hv := hv.trans (if_pos c_2)
      exact W.vret hx hb hr (fun t ht hW9 => ⟨rfl, trivial, ht⟩) (fun q hq => nomatch hq) d_RS_needRobot_25
    · have hv := hv.trans (if_neg c_2)
      exact absurd (hk.symm.trans hv) (by decide)
set_option maxHeartbeats 4000000 in
set_option maxRecDepth 100000 in
theorem c_RS_needRobot_x (l : Launch) (hl9 : l.stackTraces = false) (dC : Nat → ClassId) (dI : Nat → Nat → Nat) (r : Nat → Nat) (k : Nat → ClassId) (F : Nat → Int32) (A : Nat → Nat → Int32) (sz : Nat) (rb : Int32) (hk : ¬ f_RS_needRobot F A rb = 0) : vx_Met l y_RS_needRobot w_RS_needRobot ({ frames := 6, cells := 1, slots := 6, locals := 82 }) (va_Pc [.ref (r 0), .int rb] (GP (dC, dI) (wC r k F A) (tC k) sz)) (va_Qv (fun _ : Unit => False) (fun _ _ => True) (fun q => sz ≤ q)) (vx_X (fun u : Nat => u = f_RS_needRobot F A rb) (fun E u _ => E = exN u) (fun q => sz ≤ q)) 1 6 (fun q => sz ≤ q) := by
  refine vx_ofW (cc := b_RS_needRobot) (maxL := 2) (ret := none) (by decide) rfl ?_
  intro p e s m args below meth c s₁ B hml hEx hv0
  obtain ⟨rfl, hsz, hP, hK, hXS⟩ := hv0
  have hx := B.exec
  have hb := B.bytes
  have hr := B.returns
  have hts := atoms_spec (ws := w_RS_needRobot) B.pre
  have hW : ∀ w ∈ WALL, w.before ([.ref (r 0), .int rb] : List Value).toArray s = true := fun w h => hts w (List.mem_cons_of_mem _ h)
  have hown : s.vm.findClass R_RS = some m.cls := findClass_of_methodNamed B.named
  have hlocks := B.notSynchronized
  subst hsz
  generalize hAe : (fun q : Nat => s.heap.size ≤ q) = Ad at hXS ⊢
  have hA : ∀ q : Nat, s.heap.size ≤ q → Ad q := fun q h => by rw [← hAe]; exact h
  have hS : va_S Ad s.heap s.heap [] := va_S.rf
  have hl := lv_entry ([.ref (r 0), .int rb]) (n := 2) (Nat.le_of_ble_eq_true rfl)
  rw [lg_entry_eq]
  generalize (lg_sl ([.ref (r 0), .int rb]) ++ List.replicate (2 - (lg_sl ([.ref (r 0), .int rb])).length) Slot.unset).toArray = ls at hl ⊢
  have hl : lv_has ls 2 [(0, .ref (r 0)), (1, .int rb)] := hl
  have hv := f_RS_needRobot.eq_1 F A rb
  refine lv_iload_n hx hb d_RS_needRobot_0 rfl (lv_at hl 1 rfl) ?_
  refine lv_if_lt (tgt := 15) hx hb d_RS_needRobot_1 (by decide) (fun c_1 => ?_) (fun c_1 => ?_)
  · have hv := hv.trans (if_pos c_1)
    exact thr hx hb hl9 hown hW hXS tw_1 hS (hl.1.trans hml.symm) d_RS_needRobot_15 d_RS_needRobot_18 d_RS_needRobot_19 d_RS_needRobot_21 d_RS_needRobot_24 hEx (Nat.le_of_ble_eq_true rfl) (Nat.le_of_ble_eq_true rfl) (Nat.le_of_ble_eq_true rfl) (Nat.le_of_ble_eq_true rfl) hlocks (fun t ha hsz hk9 => ⟨1, hv.symm, rfl, Nat.le_trans hS.1 hsz, fun q h1 h2 => (hk9 q (Nat.lt_of_lt_of_le h1 hS.1)).trans (hS.2.1 q h1 h2)⟩) hS.2.2 (Nat.le_of_ble_eq_true rfl) (Nat.le_of_ble_eq_true rfl)
  · have hv := hv.trans (if_neg c_1)
    refine lv_iload_n hx hb d_RS_needRobot_4 rfl (lv_at hl 1 rfl) ?_
    refine lv_aload_n hx hb d_RS_needRobot_5 rfl (lv_at hl 0 rfl) ?_
    refine va_get (D := (dC, dI)) (ci := 0) (v := .ref (r 1)) (C := R_RS) (T := F_RS) (N := 6) hx hb hW i_RS hown hK hP 0 rfl rfl 4 (by decide) (hW _ k_3) (fun _ h9 => h9) rfl d_RS_needRobot_6 ?_
    refine va_get (D := (dC, dI)) (ci := 1) (v := .int (F 2)) (C := R_Rb) (T := F_Rb) (N := 7) hx hb hW i_Rb hown hK hP 1 rfl rfl 0 (by decide) (hW _ k_4) (fun _ h9 => h9) rfl d_RS_needRobot_9 ?_
    refine lv_icmp_lt (tgt := 25) hx hb d_RS_needRobot_12 (by decide) (fun c_2 => ?_) (fun c_2 => ?_)
    · have hv := hv.trans (if_pos c_2)
      exact absurd hv hk
    · have hv := hv.trans (if_neg c_2)
      exact thr hx hb hl9 hown hW hXS tw_1 hS (hl.1.trans hml.symm) d_RS_needRobot_15 d_RS_needRobot_18 d_RS_needRobot_19 d_RS_needRobot_21 d_RS_needRobot_24 hEx (Nat.le_of_ble_eq_true rfl) (Nat.le_of_ble_eq_true rfl) (Nat.le_of_ble_eq_true rfl) (Nat.le_of_ble_eq_true rfl) hlocks (fun t ha hsz hk9 => ⟨1, hv.symm, rfl, Nat.le_trans hS.1 hsz, fun q h1 h2 => (hk9 q (Nat.lt_of_lt_of_le h1 hS.1)).trans (hS.2.1 q h1 h2)⟩) hS.2.2 (Nat.le_of_ble_eq_true rfl) (Nat.le_of_ble_eq_true rfl)
def f_RS_needGrant (F : Nat → Int32) (A : Nat → Nat → Int32) (gr : Int32) : Nat := if gr < 1 then 1 else (if gr ≤ F 3 then 0 else 1)
set_option maxHeartbeats 4000000 in
set_option maxRecDepth 100000 in
theorem c_RS_needGrant_k (l : Launch) (dC : Nat → ClassId) (dI : Nat → Nat → Nat) (r : Nat → Nat) (k : Nat → ClassId) (F : Nat → Int32) (A : Nat → Nat → Int32) (gr : Int32) (hk : f_RS_needGrant F A gr = 0) : Met l y_RS_needGrant w_RS_needGrant ({ frames := 0, cells := 0, slots := 0, locals := 0 }) (va_Pc [.ref (r 0), .int gr] (RO (dC, dI) (wC r k F A) (tC k))) (va_Sv (fun _ => True)) 0 0 (fun _ => False) := by
  refine Met.ofW (cc := b_RS_needGrant) (maxL := 2) (ret := none) (by decide) rfl ?_
  intro p e s m args below meth c s₁ B hml hv0
  obtain ⟨rfl, hP, hK⟩ := hv0
  have hx := B.exec
  have hb := B.bytes
  have hr := B.returns
  have hts := atoms_spec (ws := w_RS_needGrant) B.pre
  have hW : ∀ w ∈ WALL, w.before ([.ref (r 0), .int gr] : List Value).toArray s = true := fun w h => hts w (List.mem_cons_of_mem _ h)
  have hown : s.vm.findClass R_RS = some m.cls := findClass_of_methodNamed B.named
  have hlocks := B.notSynchronized
  have hl := lv_entry ([.ref (r 0), .int gr]) (n := 2) (Nat.le_of_ble_eq_true rfl)
  rw [lg_entry_eq]
  generalize (lg_sl ([.ref (r 0), .int gr]) ++ List.replicate (2 - (lg_sl ([.ref (r 0), .int gr])).length) Slot.unset).toArray = ls at hl ⊢
  have hl : lv_has ls 2 [(0, .ref (r 0)), (1, .int gr)] := hl
  have hv := f_RS_needGrant.eq_1 F A gr
  refine lv_iload_n hx hb d_RS_needGrant_0 rfl (lv_at hl 1 rfl) ?_
  refine lv_iconst (v := 1) hx hb d_RS_needGrant_1 (by decide) ?_
  refine lv_icmp_lt (tgt := 16) hx hb d_RS_needGrant_2 (by decide) (fun c_1 => ?_) (fun c_1 => ?_)
  · have hv := hv.trans (if_pos c_1)
    exact absurd (hk.symm.trans hv) (by decide)
  · have hv := hv.trans (if_neg c_1)
    refine lv_iload_n hx hb d_RS_needGrant_5 rfl (lv_at hl 1 rfl) ?_
    refine lv_aload_n hx hb d_RS_needGrant_6 rfl (lv_at hl 0 rfl) ?_
    refine va_get (D := (dC, dI)) (ci := 0) (v := .ref (r 2)) (C := R_RS) (T := F_RS) (N := 6) hx hb hW i_RS hown hK hP 0 rfl rfl 5 (by decide) (hW _ k_5) (fun _ h9 => h9) rfl d_RS_needGrant_7 ?_
    refine va_get (D := (dC, dI)) (ci := 2) (v := .int (F 3)) (C := R_Gr) (T := F_Gr) (N := 7) hx hb hW i_Gr hown hK hP 2 rfl rfl 0 (by decide) (hW _ k_6) (fun _ h9 => h9) rfl d_RS_needGrant_10 ?_
    refine lv_icmp_le (tgt := 26) hx hb d_RS_needGrant_13 (by decide) (fun c_2 => ?_) (fun c_2 => ?_)
    · have hv := hv.trans (if_pos c_2)
      exact W.vret hx hb hr (fun t ht hW9 => ⟨rfl, trivial, ht⟩) (fun q hq => nomatch hq) d_RS_needGrant_26
    · have hv := hv.trans (if_neg c_2)
      exact absurd (hk.symm.trans hv) (by decide)
set_option maxHeartbeats 4000000 in
set_option maxRecDepth 100000 in
theorem c_RS_needGrant_x (l : Launch) (hl9 : l.stackTraces = false) (dC : Nat → ClassId) (dI : Nat → Nat → Nat) (r : Nat → Nat) (k : Nat → ClassId) (F : Nat → Int32) (A : Nat → Nat → Int32) (sz : Nat) (gr : Int32) (hk : ¬ f_RS_needGrant F A gr = 0) : vx_Met l y_RS_needGrant w_RS_needGrant ({ frames := 6, cells := 1, slots := 6, locals := 82 }) (va_Pc [.ref (r 0), .int gr] (GP (dC, dI) (wC r k F A) (tC k) sz)) (va_Qv (fun _ : Unit => False) (fun _ _ => True) (fun q => sz ≤ q)) (vx_X (fun u : Nat => u = f_RS_needGrant F A gr) (fun E u _ => E = exN u) (fun q => sz ≤ q)) 1 6 (fun q => sz ≤ q) := by
  refine vx_ofW (cc := b_RS_needGrant) (maxL := 2) (ret := none) (by decide) rfl ?_
  intro p e s m args below meth c s₁ B hml hEx hv0
  obtain ⟨rfl, hsz, hP, hK, hXS⟩ := hv0
  have hx := B.exec
  have hb := B.bytes
  have hr := B.returns
  have hts := atoms_spec (ws := w_RS_needGrant) B.pre
  have hW : ∀ w ∈ WALL, w.before ([.ref (r 0), .int gr] : List Value).toArray s = true := fun w h => hts w (List.mem_cons_of_mem _ h)
  have hown : s.vm.findClass R_RS = some m.cls := findClass_of_methodNamed B.named
  have hlocks := B.notSynchronized
  subst hsz
  generalize hAe : (fun q : Nat => s.heap.size ≤ q) = Ad at hXS ⊢
  have hA : ∀ q : Nat, s.heap.size ≤ q → Ad q := fun q h => by rw [← hAe]; exact h
  have hS : va_S Ad s.heap s.heap [] := va_S.rf
  have hl := lv_entry ([.ref (r 0), .int gr]) (n := 2) (Nat.le_of_ble_eq_true rfl)
  rw [lg_entry_eq]
  generalize (lg_sl ([.ref (r 0), .int gr]) ++ List.replicate (2 - (lg_sl ([.ref (r 0), .int gr])).length) Slot.unset).toArray = ls at hl ⊢
  have hl : lv_has ls 2 [(0, .ref (r 0)), (1, .int gr)] := hl
  have hv := f_RS_needGrant.eq_1 F A gr
  refine lv_iload_n hx hb d_RS_needGrant_0 rfl (lv_at hl 1 rfl) ?_
  refine lv_iconst (v := 1) hx hb d_RS_needGrant_1 (by decide) ?_
  refine lv_icmp_lt (tgt := 16) hx hb d_RS_needGrant_2 (by decide) (fun c_1 => ?_) (fun c_1 => ?_)
  · have hv := hv.trans (if_pos c_1)
    exact thr hx hb hl9 hown hW hXS tw_2 hS (hl.1.trans hml.symm) d_RS_needGrant_16 d_RS_needGrant_19 d_RS_needGrant_20 d_RS_needGrant_22 d_RS_needGrant_25 hEx (Nat.le_of_ble_eq_true rfl) (Nat.le_of_ble_eq_true rfl) (Nat.le_of_ble_eq_true rfl) (Nat.le_of_ble_eq_true rfl) hlocks (fun t ha hsz hk9 => ⟨1, hv.symm, rfl, Nat.le_trans hS.1 hsz, fun q h1 h2 => (hk9 q (Nat.lt_of_lt_of_le h1 hS.1)).trans (hS.2.1 q h1 h2)⟩) hS.2.2 (Nat.le_of_ble_eq_true rfl) (Nat.le_of_ble_eq_true rfl)
  · have hv := hv.trans (if_neg c_1)
    refine lv_iload_n hx hb d_RS_needGrant_5 rfl (lv_at hl 1 rfl) ?_
    refine lv_aload_n hx hb d_RS_needGrant_6 rfl (lv_at hl 0 rfl) ?_
    refine va_get (D := (dC, dI)) (ci := 0) (v := .ref (r 2)) (C := R_RS) (T := F_RS) (N := 6) hx hb hW i_RS hown hK hP 0 rfl rfl 5 (by decide) (hW _ k_5) (fun _ h9 => h9) rfl d_RS_needGrant_7 ?_
    refine va_get (D := (dC, dI)) (ci := 2) (v := .int (F 3)) (C := R_Gr) (T := F_Gr) (N := 7) hx hb hW i_Gr hown hK hP 2 rfl rfl 0 (by decide) (hW _ k_6) (fun _ h9 => h9) rfl d_RS_needGrant_10 ?_
    refine lv_icmp_le (tgt := 26) hx hb d_RS_needGrant_13 (by decide) (fun c_2 => ?_) (fun c_2 => ?_)
    · have hv := hv.trans (if_pos c_2)
      exact absurd hv hk
    · have hv := hv.trans (if_neg c_2)
      exact thr hx hb hl9 hown hW hXS tw_2 hS (hl.1.trans hml.symm) d_RS_needGrant_16 d_RS_needGrant_19 d_RS_needGrant_20 d_RS_needGrant_22 d_RS_needGrant_25 hEx (Nat.le_of_ble_eq_true rfl) (Nat.le_of_ble_eq_true rfl) (Nat.le_of_ble_eq_true rfl) (Nat.le_of_ble_eq_true rfl) hlocks (fun t ha hsz hk9 => ⟨1, hv.symm, rfl, Nat.le_trans hS.1 hsz, fun q h1 h2 => (hk9 q (Nat.lt_of_lt_of_le h1 hS.1)).trans (hS.2.1 q h1 h2)⟩) hS.2.2 (Nat.le_of_ble_eq_true rfl) (Nat.le_of_ble_eq_true rfl)
def f_RS_needSpan (F : Nat → Int32) (A : Nat → Nat → Int32) (fr tt : Int32) : Nat := if fr < F 0 then 2 else (if tt ≤ fr then 2 else (if tt ≤ (F 0) + 100 then 0 else 2))
set_option maxHeartbeats 4000000 in
set_option maxRecDepth 100000 in
theorem c_RS_needSpan_k (l : Launch) (dC : Nat → ClassId) (dI : Nat → Nat → Nat) (r : Nat → Nat) (k : Nat → ClassId) (F : Nat → Int32) (A : Nat → Nat → Int32) (fr tt : Int32) (hk : f_RS_needSpan F A fr tt = 0) : Met l y_RS_needSpan w_RS_needSpan ({ frames := 0, cells := 0, slots := 0, locals := 0 }) (va_Pc [.ref (r 0), .int fr, .int tt] (RO (dC, dI) (wC r k F A) (tC k))) (va_Sv (fun _ => True)) 0 0 (fun _ => False) := by
  refine Met.ofW (cc := b_RS_needSpan) (maxL := 3) (ret := none) (by decide) rfl ?_
  intro p e s m args below meth c s₁ B hml hv0
  obtain ⟨rfl, hP, hK⟩ := hv0
  have hx := B.exec
  have hb := B.bytes
  have hr := B.returns
  have hts := atoms_spec (ws := w_RS_needSpan) B.pre
  have hW : ∀ w ∈ WALL, w.before ([.ref (r 0), .int fr, .int tt] : List Value).toArray s = true := fun w h => hts w (List.mem_cons_of_mem _ h)
  have hown : s.vm.findClass R_RS = some m.cls := findClass_of_methodNamed B.named
  have hlocks := B.notSynchronized
  have hl := lv_entry ([.ref (r 0), .int fr, .int tt]) (n := 3) (Nat.le_of_ble_eq_true rfl)
  rw [lg_entry_eq]
  generalize (lg_sl ([.ref (r 0), .int fr, .int tt]) ++ List.replicate (3 - (lg_sl ([.ref (r 0), .int fr, .int tt])).length) Slot.unset).toArray = ls at hl ⊢
  have hl : lv_has ls 3 [(0, .ref (r 0)), (1, .int fr), (2, .int tt)] := hl
  have hv := f_RS_needSpan.eq_1 F A fr tt
  refine lv_iload_n hx hb d_RS_needSpan_0 rfl (lv_at hl 1 rfl) ?_
  refine lv_aload_n hx hb d_RS_needSpan_1 rfl (lv_at hl 0 rfl) ?_
  refine va_get (D := (dC, dI)) (ci := 0) (v := .int (F 0)) (C := R_RS) (T := F_RS) (N := 6) hx hb hW i_RS hown hK hP 0 rfl rfl 0 (by decide) (hW _ k_7) (fun _ h9 => h9) rfl d_RS_needSpan_2 ?_
  refine lv_icmp_lt (tgt := 24) hx hb d_RS_needSpan_5 (by decide) (fun c_1 => ?_) (fun c_1 => ?_)
  · have hv := hv.trans (if_pos c_1)
    exact absurd (hk.symm.trans hv) (by decide)
  · have hv := hv.trans (if_neg c_1)
    refine lv_iload_n hx hb d_RS_needSpan_8 rfl (lv_at hl 2 rfl) ?_
    refine lv_iload_n hx hb d_RS_needSpan_9 rfl (lv_at hl 1 rfl) ?_
    refine lv_icmp_le (tgt := 24) hx hb d_RS_needSpan_10 (by decide) (fun c_2 => ?_) (fun c_2 => ?_)
    · have hv := hv.trans (if_pos c_2)
      exact absurd (hk.symm.trans hv) (by decide)
    · have hv := hv.trans (if_neg c_2)
      refine lv_iload_n hx hb d_RS_needSpan_13 rfl (lv_at hl 2 rfl) ?_
      refine lv_aload_n hx hb d_RS_needSpan_14 rfl (lv_at hl 0 rfl) ?_
      refine va_get (D := (dC, dI)) (ci := 0) (v := .int (F 0)) (C := R_RS) (T := F_RS) (N := 6) hx hb hW i_RS hown hK hP 0 rfl rfl 0 (by decide) (hW _ k_7) (fun _ h9 => h9) rfl d_RS_needSpan_15 ?_
      refine lv_bipush (v := 100) hx hb d_RS_needSpan_18 (by decide) ?_
      refine lv_iadd hx hb d_RS_needSpan_20 ?_
      refine lv_icmp_le (tgt := 34) hx hb d_RS_needSpan_21 (by decide) (fun c_3 => ?_) (fun c_3 => ?_)
      · have hv := hv.trans (if_pos c_3)
        exact W.vret hx hb hr (fun t ht hW9 => ⟨rfl, trivial, ht⟩) (fun q hq => nomatch hq) d_RS_needSpan_34
      · have hv := hv.trans (if_neg c_3)
        exact absurd (hk.symm.trans hv) (by decide)
set_option maxHeartbeats 4000000 in
set_option maxRecDepth 100000 in
theorem c_RS_needSpan_x (l : Launch) (hl9 : l.stackTraces = false) (dC : Nat → ClassId) (dI : Nat → Nat → Nat) (r : Nat → Nat) (k : Nat → ClassId) (F : Nat → Int32) (A : Nat → Nat → Int32) (sz : Nat) (fr tt : Int32) (hk : ¬ f_RS_needSpan F A fr tt = 0) : vx_Met l y_RS_needSpan w_RS_needSpan ({ frames := 6, cells := 1, slots := 6, locals := 82 }) (va_Pc [.ref (r 0), .int fr, .int tt] (GP (dC, dI) (wC r k F A) (tC k) sz)) (va_Qv (fun _ : Unit => False) (fun _ _ => True) (fun q => sz ≤ q)) (vx_X (fun u : Nat => u = f_RS_needSpan F A fr tt) (fun E u _ => E = exN u) (fun q => sz ≤ q)) 1 6 (fun q => sz ≤ q) := by
  refine vx_ofW (cc := b_RS_needSpan) (maxL := 3) (ret := none) (by decide) rfl ?_
  intro p e s m args below meth c s₁ B hml hEx hv0
  obtain ⟨rfl, hsz, hP, hK, hXS⟩ := hv0
  have hx := B.exec
  have hb := B.bytes
  have hr := B.returns
  have hts := atoms_spec (ws := w_RS_needSpan) B.pre
  have hW : ∀ w ∈ WALL, w.before ([.ref (r 0), .int fr, .int tt] : List Value).toArray s = true := fun w h => hts w (List.mem_cons_of_mem _ h)
  have hown : s.vm.findClass R_RS = some m.cls := findClass_of_methodNamed B.named
  have hlocks := B.notSynchronized
  subst hsz
  generalize hAe : (fun q : Nat => s.heap.size ≤ q) = Ad at hXS ⊢
  have hA : ∀ q : Nat, s.heap.size ≤ q → Ad q := fun q h => by rw [← hAe]; exact h
  have hS : va_S Ad s.heap s.heap [] := va_S.rf
  have hl := lv_entry ([.ref (r 0), .int fr, .int tt]) (n := 3) (Nat.le_of_ble_eq_true rfl)
  rw [lg_entry_eq]
  generalize (lg_sl ([.ref (r 0), .int fr, .int tt]) ++ List.replicate (3 - (lg_sl ([.ref (r 0), .int fr, .int tt])).length) Slot.unset).toArray = ls at hl ⊢
  have hl : lv_has ls 3 [(0, .ref (r 0)), (1, .int fr), (2, .int tt)] := hl
  have hv := f_RS_needSpan.eq_1 F A fr tt
  refine lv_iload_n hx hb d_RS_needSpan_0 rfl (lv_at hl 1 rfl) ?_
  refine lv_aload_n hx hb d_RS_needSpan_1 rfl (lv_at hl 0 rfl) ?_
  refine va_get (D := (dC, dI)) (ci := 0) (v := .int (F 0)) (C := R_RS) (T := F_RS) (N := 6) hx hb hW i_RS hown hK hP 0 rfl rfl 0 (by decide) (hW _ k_7) (fun _ h9 => h9) rfl d_RS_needSpan_2 ?_
  refine lv_icmp_lt (tgt := 24) hx hb d_RS_needSpan_5 (by decide) (fun c_1 => ?_) (fun c_1 => ?_)
  · have hv := hv.trans (if_pos c_1)
    exact thr hx hb hl9 hown hW hXS tw_3 hS (hl.1.trans hml.symm) d_RS_needSpan_24 d_RS_needSpan_27 d_RS_needSpan_28 d_RS_needSpan_30 d_RS_needSpan_33 hEx (Nat.le_of_ble_eq_true rfl) (Nat.le_of_ble_eq_true rfl) (Nat.le_of_ble_eq_true rfl) (Nat.le_of_ble_eq_true rfl) hlocks (fun t ha hsz hk9 => ⟨2, hv.symm, rfl, Nat.le_trans hS.1 hsz, fun q h1 h2 => (hk9 q (Nat.lt_of_lt_of_le h1 hS.1)).trans (hS.2.1 q h1 h2)⟩) hS.2.2 (Nat.le_of_ble_eq_true rfl) (Nat.le_of_ble_eq_true rfl)
  · have hv := hv.trans (if_neg c_1)
    refine lv_iload_n hx hb d_RS_needSpan_8 rfl (lv_at hl 2 rfl) ?_
    refine lv_iload_n hx hb d_RS_needSpan_9 rfl (lv_at hl 1 rfl) ?_
    refine lv_icmp_le (tgt := 24) hx hb d_RS_needSpan_10 (by decide) (fun c_2 => ?_) (fun c_2 => ?_)
    · have hv := hv.trans (if_pos c_2)
      exact thr hx hb hl9 hown hW hXS tw_3 hS (hl.1.trans hml.symm) d_RS_needSpan_24 d_RS_needSpan_27 d_RS_needSpan_28 d_RS_needSpan_30 d_RS_needSpan_33 hEx (Nat.le_of_ble_eq_true rfl) (Nat.le_of_ble_eq_true rfl) (Nat.le_of_ble_eq_true rfl) (Nat.le_of_ble_eq_true rfl) hlocks (fun t ha hsz hk9 => ⟨2, hv.symm, rfl, Nat.le_trans hS.1 hsz, fun q h1 h2 => (hk9 q (Nat.lt_of_lt_of_le h1 hS.1)).trans (hS.2.1 q h1 h2)⟩) hS.2.2 (Nat.le_of_ble_eq_true rfl) (Nat.le_of_ble_eq_true rfl)
    · have hv := hv.trans (if_neg c_2)
      refine lv_iload_n hx hb d_RS_needSpan_13 rfl (lv_at hl 2 rfl) ?_
      refine lv_aload_n hx hb d_RS_needSpan_14 rfl (lv_at hl 0 rfl) ?_
      refine va_get (D := (dC, dI)) (ci := 0) (v := .int (F 0)) (C := R_RS) (T := F_RS) (N := 6) hx hb hW i_RS hown hK hP 0 rfl rfl 0 (by decide) (hW _ k_7) (fun _ h9 => h9) rfl d_RS_needSpan_15 ?_
      refine lv_bipush (v := 100) hx hb d_RS_needSpan_18 (by decide) ?_
      refine lv_iadd hx hb d_RS_needSpan_20 ?_
      refine lv_icmp_le (tgt := 34) hx hb d_RS_needSpan_21 (by decide) (fun c_3 => ?_) (fun c_3 => ?_)
      · have hv := hv.trans (if_pos c_3)
        exact absurd hv hk
      · have hv := hv.trans (if_neg c_3)
        exact thr hx hb hl9 hown hW hXS tw_3 hS (hl.1.trans hml.symm) d_RS_needSpan_24 d_RS_needSpan_27 d_RS_needSpan_28 d_RS_needSpan_30 d_RS_needSpan_33 hEx (Nat.le_of_ble_eq_true rfl) (Nat.le_of_ble_eq_true rfl) (Nat.le_of_ble_eq_true rfl) (Nat.le_of_ble_eq_true rfl) hlocks (fun t ha hsz hk9 => ⟨2, hv.symm, rfl, Nat.le_trans hS.1 hsz, fun q h1 h2 => (hk9 q (Nat.lt_of_lt_of_le h1 hS.1)).trans (hS.2.1 q h1 h2)⟩) hS.2.2 (Nat.le_of_ble_eq_true rfl) (Nat.le_of_ble_eq_true rfl)
def f_RS_needPriority (F : Nat → Int32) (A : Nat → Nat → Int32) (pr : Int32) : Nat := if pr < 1 then 2 else (if pr ≤ 9 then 0 else 2)
set_option maxHeartbeats 4000000 in
set_option maxRecDepth 100000 in
theorem c_RS_needPriority_k (l : Launch) (dC : Nat → ClassId) (dI : Nat → Nat → Nat) (r : Nat → Nat) (k : Nat → ClassId) (F : Nat → Int32) (A : Nat → Nat → Int32) (pr : Int32) (hk : f_RS_needPriority F A pr = 0) : Met l y_RS_needPriority w_RS_needPriority ({ frames := 0, cells := 0, slots := 0, locals := 0 }) (va_Pc [.ref (r 0), .int pr] (RO (dC, dI) (wC r k F A) (tC k))) (va_Sv (fun _ => True)) 0 0 (fun _ => False) := by
  refine Met.ofW (cc := b_RS_needPriority) (maxL := 2) (ret := none) (by decide) rfl ?_
  intro p e s m args below meth c s₁ B hml hv0
  obtain ⟨rfl, hP, hK⟩ := hv0
  have hx := B.exec
  have hb := B.bytes
  have hr := B.returns
  have hts := atoms_spec (ws := w_RS_needPriority) B.pre
  have hW : ∀ w ∈ WALL, w.before ([.ref (r 0), .int pr] : List Value).toArray s = true := fun w h => hts w (List.mem_cons_of_mem _ h)
  have hown : s.vm.findClass R_RS = some m.cls := findClass_of_methodNamed B.named
  have hlocks := B.notSynchronized
  have hl := lv_entry ([.ref (r 0), .int pr]) (n := 2) (Nat.le_of_ble_eq_true rfl)
  rw [lg_entry_eq]
  generalize (lg_sl ([.ref (r 0), .int pr]) ++ List.replicate (2 - (lg_sl ([.ref (r 0), .int pr])).length) Slot.unset).toArray = ls at hl ⊢
  have hl : lv_has ls 2 [(0, .ref (r 0)), (1, .int pr)] := hl
  have hv := f_RS_needPriority.eq_1 F A pr
  refine lv_iload_n hx hb d_RS_needPriority_0 rfl (lv_at hl 1 rfl) ?_
  refine lv_iconst (v := 1) hx hb d_RS_needPriority_1 (by decide) ?_
  refine lv_icmp_lt (tgt := 11) hx hb d_RS_needPriority_2 (by decide) (fun c_1 => ?_) (fun c_1 => ?_)
  · have hv := hv.trans (if_pos c_1)
    exact absurd (hk.symm.trans hv) (by decide)
  · have hv := hv.trans (if_neg c_1)
    refine lv_iload_n hx hb d_RS_needPriority_5 rfl (lv_at hl 1 rfl) ?_
    refine lv_bipush (v := 9) hx hb d_RS_needPriority_6 (by decide) ?_
    refine lv_icmp_le (tgt := 21) hx hb d_RS_needPriority_8 (by decide) (fun c_2 => ?_) (fun c_2 => ?_)
    · have hv := hv.trans (if_pos c_2)
      exact W.vret hx hb hr (fun t ht hW9 => ⟨rfl, trivial, ht⟩) (fun q hq => nomatch hq) d_RS_needPriority_21
    · have hv := hv.trans (if_neg c_2)
      exact absurd (hk.symm.trans hv) (by decide)
set_option maxHeartbeats 4000000 in
set_option maxRecDepth 100000 in
theorem c_RS_needPriority_x (l : Launch) (hl9 : l.stackTraces = false) (dC : Nat → ClassId) (dI : Nat → Nat → Nat) (r : Nat → Nat) (k : Nat → ClassId) (F : Nat → Int32) (A : Nat → Nat → Int32) (sz : Nat) (pr : Int32) (hk : ¬ f_RS_needPriority F A pr = 0) : vx_Met l y_RS_needPriority w_RS_needPriority ({ frames := 6, cells := 1, slots := 6, locals := 82 }) (va_Pc [.ref (r 0), .int pr] (GP (dC, dI) (wC r k F A) (tC k) sz)) (va_Qv (fun _ : Unit => False) (fun _ _ => True) (fun q => sz ≤ q)) (vx_X (fun u : Nat => u = f_RS_needPriority F A pr) (fun E u _ => E = exN u) (fun q => sz ≤ q)) 1 6 (fun q => sz ≤ q) := by
  refine vx_ofW (cc := b_RS_needPriority) (maxL := 2) (ret := none) (by decide) rfl ?_
  intro p e s m args below meth c s₁ B hml hEx hv0
  obtain ⟨rfl, hsz, hP, hK, hXS⟩ := hv0
  have hx := B.exec
  have hb := B.bytes
  have hr := B.returns
  have hts := atoms_spec (ws := w_RS_needPriority) B.pre
  have hW : ∀ w ∈ WALL, w.before ([.ref (r 0), .int pr] : List Value).toArray s = true := fun w h => hts w (List.mem_cons_of_mem _ h)
  have hown : s.vm.findClass R_RS = some m.cls := findClass_of_methodNamed B.named
  have hlocks := B.notSynchronized
  subst hsz
  generalize hAe : (fun q : Nat => s.heap.size ≤ q) = Ad at hXS ⊢
  have hA : ∀ q : Nat, s.heap.size ≤ q → Ad q := fun q h => by rw [← hAe]; exact h
  have hS : va_S Ad s.heap s.heap [] := va_S.rf
  have hl := lv_entry ([.ref (r 0), .int pr]) (n := 2) (Nat.le_of_ble_eq_true rfl)
  rw [lg_entry_eq]
  generalize (lg_sl ([.ref (r 0), .int pr]) ++ List.replicate (2 - (lg_sl ([.ref (r 0), .int pr])).length) Slot.unset).toArray = ls at hl ⊢
  have hl : lv_has ls 2 [(0, .ref (r 0)), (1, .int pr)] := hl
  have hv := f_RS_needPriority.eq_1 F A pr
  refine lv_iload_n hx hb d_RS_needPriority_0 rfl (lv_at hl 1 rfl) ?_
  refine lv_iconst (v := 1) hx hb d_RS_needPriority_1 (by decide) ?_
  refine lv_icmp_lt (tgt := 11) hx hb d_RS_needPriority_2 (by decide) (fun c_1 => ?_) (fun c_1 => ?_)
  · have hv := hv.trans (if_pos c_1)
    exact thr hx hb hl9 hown hW hXS tw_4 hS (hl.1.trans hml.symm) d_RS_needPriority_11 d_RS_needPriority_14 d_RS_needPriority_15 d_RS_needPriority_17 d_RS_needPriority_20 hEx (Nat.le_of_ble_eq_true rfl) (Nat.le_of_ble_eq_true rfl) (Nat.le_of_ble_eq_true rfl) (Nat.le_of_ble_eq_true rfl) hlocks (fun t ha hsz hk9 => ⟨2, hv.symm, rfl, Nat.le_trans hS.1 hsz, fun q h1 h2 => (hk9 q (Nat.lt_of_lt_of_le h1 hS.1)).trans (hS.2.1 q h1 h2)⟩) hS.2.2 (Nat.le_of_ble_eq_true rfl) (Nat.le_of_ble_eq_true rfl)
  · have hv := hv.trans (if_neg c_1)
    refine lv_iload_n hx hb d_RS_needPriority_5 rfl (lv_at hl 1 rfl) ?_
    refine lv_bipush (v := 9) hx hb d_RS_needPriority_6 (by decide) ?_
    refine lv_icmp_le (tgt := 21) hx hb d_RS_needPriority_8 (by decide) (fun c_2 => ?_) (fun c_2 => ?_)
    · have hv := hv.trans (if_pos c_2)
      exact absurd hv hk
    · have hv := hv.trans (if_neg c_2)
      exact thr hx hb hl9 hown hW hXS tw_4 hS (hl.1.trans hml.symm) d_RS_needPriority_11 d_RS_needPriority_14 d_RS_needPriority_15 d_RS_needPriority_17 d_RS_needPriority_20 hEx (Nat.le_of_ble_eq_true rfl) (Nat.le_of_ble_eq_true rfl) (Nat.le_of_ble_eq_true rfl) (Nat.le_of_ble_eq_true rfl) hlocks (fun t ha hsz hk9 => ⟨2, hv.symm, rfl, Nat.le_trans hS.1 hsz, fun q h1 h2 => (hk9 q (Nat.lt_of_lt_of_le h1 hS.1)).trans (hS.2.1 q h1 h2)⟩) hS.2.2 (Nat.le_of_ble_eq_true rfl) (Nat.le_of_ble_eq_true rfl)
theorem gd_lt {p B : Int32} (h : (if p < 0 then 1 else (if p < B then 0 else 1)) = (0 : Nat)) : 0 ≤ p.toInt ∧ p.toInt < B.toInt := by
  have h0 : (0 : Int32).toInt = 0 := rfl
  by_cases h1 : p < 0
  · rw [if_pos h1] at h; cases h
  · rw [if_neg h1] at h
    by_cases h2 : p < B
    · rw [Int32.lt_iff_toInt_lt] at h1 h2; omega
    · rw [if_neg h2] at h; cases h
theorem gd_le {p B : Int32} (h : (if p < 1 then 1 else (if p ≤ B then 0 else 1)) = (0 : Nat)) : 1 ≤ p.toInt ∧ p.toInt ≤ B.toInt := by
  have h0 : (1 : Int32).toInt = 1 := rfl
  by_cases h1 : p < 1
  · rw [if_pos h1] at h; cases h
  · rw [if_neg h1] at h
    by_cases h2 : p ≤ B
    · rw [Int32.lt_iff_toInt_lt] at h1; rw [Int32.le_iff_toInt_le] at h2; omega
    · rw [if_neg h2] at h; cases h
theorem ixP {F : Nat → Int32} {A : Nat → Nat → Int32} {p : Int32} (hI : CI F) (h : f_RS_needPiece F A p = 0) : vp_in p 16 := by
  have h2 := gd_lt (p := p) (B := F 1) h
  obtain ⟨⟨hp0, hp1⟩, ⟨hr0, hr1⟩, hg0, hg1⟩ := hI
  rw [vp_in_iff]; omega
theorem ixR {F : Nat → Int32} {A : Nat → Nat → Int32} {p : Int32} (hI : CI F) (h : f_RS_needRobot F A p = 0) : vp_in p 6 := by
  have h2 := gd_lt (p := p) (B := F 2) h
  obtain ⟨⟨hp0, hp1⟩, ⟨hr0, hr1⟩, hg0, hg1⟩ := hI
  rw [vp_in_iff]; omega
theorem ixG {F : Nat → Int32} {A : Nat → Nat → Int32} {p : Int32} (hI : CI F) (h : f_RS_needGrant F A p = 0) : vp_in p 61 := by
  have h2 := gd_le (p := p) (B := F 3) h
  obtain ⟨⟨hp0, hp1⟩, ⟨hr0, hr1⟩, hg0, hg1⟩ := hI
  rw [vp_in_iff]; omega
theorem ixN {x : Int32} (h0 : 0 ≤ x.toInt) (h1 : x.toInt < 6) : vp_in x 6 := by rw [vp_in_iff]; omega
theorem ixM {x : Int32} (h0 : 0 ≤ x.toInt) (h1 : x.toInt < 60) : vp_in (x + 1) 61 := by
  have := add1 (i := x) (by omega) (by omega)
  rw [vp_in_iff]; omega
theorem ixO {x : Int32} (h : x < 6) : x.toInt < 6 := by rw [Int32.lt_iff_toInt_lt] at h; exact h
theorem ixO6 {x : Int32} (h : x < 60) : x.toInt < 60 := by rw [Int32.lt_iff_toInt_lt] at h; exact h
def f_RS_piece (F : Nat → Int32) (A : Nat → Nat → Int32) : Nat × Int32 × SC := if F 1 < 16 then (0, ((F 1) + 1) - 1, (uF F 1 ((F 1) + 1)), A) else (4, 0, F, A)
set_option maxHeartbeats 4000000 in
set_option maxRecDepth 100000 in
theorem c_RS_piece_k (l : Launch) (dC : Nat → ClassId) (dI : Nat → Nat → Nat) (r : Nat → Nat) (k : Nat → ClassId) (F : Nat → Int32) (A : Nat → Nat → Int32) (sz : Nat) (hI : CI F) (hk : (f_RS_piece F A).1 = 0) : Met l y_RS_piece w_RS_piece ({ frames := 0, cells := 0, slots := 0, locals := 0 }) (va_Pc [.ref (r 0)] (SP (dC, dI) (wC r k F A) (tC k) sz)) (va_Qi (fun v (u : SC) => (0, v, u) = f_RS_piece F A) (fun (u : SC) t => aW (dC, dI) (tC k) (va_A (wC r k F A) sz) (wC r k u.1 u.2) t) (va_A (wC r k F A) sz)) 0 0 (va_A (wC r k F A) sz) := by
  refine Met.ofW (cc := b_RS_piece) (maxL := 1) (ret := (some .int)) (by decide) rfl ?_
  intro p e s m args below meth c s₁ B hml hv0
  obtain ⟨rfl, hsz, hP, hK, hD0⟩ := hv0
  have hx := B.exec
  have hb := B.bytes
  have hr := B.returns
  have hts := atoms_spec (ws := w_RS_piece) B.pre
  have hW : ∀ w ∈ WALL, w.before ([.ref (r 0)] : List Value).toArray s = true := fun w h => hts w (List.mem_cons_of_mem _ h)
  have hown : s.vm.findClass R_RS = some m.cls := findClass_of_methodNamed B.named
  have hlocks := B.notSynchronized
  subst hsz
  have hD := hD0.self (sz := s.heap.size)
  generalize hAe : va_A (wC r k F A) s.heap.size = Ad at hD ⊢
  have hA : ∀ q : Nat, s.heap.size ≤ q → Ad q := fun q h => by rw [← hAe]; exact Or.inr h
  have hS : va_S Ad s.heap s.heap [] := va_S.rf
  have hl := lv_entry ([.ref (r 0)]) (n := 1) (Nat.le_of_ble_eq_true rfl)
  rw [lg_entry_eq]
  generalize (lg_sl ([.ref (r 0)]) ++ List.replicate (1 - (lg_sl ([.ref (r 0)])).length) Slot.unset).toArray = ls at hl ⊢
  have hl : lv_has ls 1 [(0, .ref (r 0))] := hl
  obtain ⟨⟨hp0, hp1⟩, ⟨hr0, hr1⟩, hg0, hg1⟩ := id hI; have hr2 : (F 2).toInt ≤ 60 := Int.le_trans hr1 (by decide)
  have hv := f_RS_piece.eq_1 F A
  refine lv_aload_n hx hb d_RS_piece_0 rfl (lv_at hl 0 rfl) ?_
  refine va_get (D := (dC, dI)) (ci := 0) (v := .int (F 1)) (C := R_RS) (T := F_RS) (N := 6) hx hb hW i_RS hown hK hP 0 rfl rfl 1 (by decide) (hW _ k_0) (fun _ h9 => h9) rfl d_RS_piece_1 ?_
  refine lv_bipush (v := 16) hx hb d_RS_piece_4 (by decide) ?_
  refine lv_icmp_lt (tgt := 19) hx hb d_RS_piece_6 (by decide) (fun c_1 => ?_) (fun c_1 => ?_)
  · have hv := hv.trans (if_pos c_1)
    refine lv_aload_n hx hb d_RS_piece_19 rfl (lv_at hl 0 rfl) ?_
    refine lv_dup hx hb d_RS_piece_20 rfl ?_
    refine va_get (D := (dC, dI)) (ci := 0) (v := .int (F 1)) (C := R_RS) (T := F_RS) (N := 6) hx hb hW i_RS hown hK hP 0 rfl rfl 1 (by decide) (hW _ k_0) (fun _ h9 => h9) rfl d_RS_piece_21 ?_
    refine lv_iconst (v := 1) hx hb d_RS_piece_24 (by decide) ?_
    refine lv_iadd hx hb d_RS_piece_25 ?_
    refine va_put (D := (dC, dI)) (ci := 0) (v := .int ((F 1) + 1)) (ty := .int) (C := R_RS) (T := F_RS) (N := 6) hx hb hW i_RS t_RS t_RS_ok n_RS hown hK hP hD hS 0 rfl rfl 1 (by decide) (hW _ k_0) (fun _ h9 => h9) rfl (by decide +kernel) rfl rfl (Nat.le_of_ble_eq_true rfl) d_RS_piece_26 (fun H locs hP hD hS => ?_)
    have hP := pCF_1 hP
    have hD := dCF_1 hD
    refine lv_aload_n hx hb d_RS_piece_29 rfl (lv_at hl 0 rfl) ?_
    refine va_get (D := (dC, dI)) (ci := 0) (v := .int ((F 1) + 1)) (C := R_RS) (T := F_RS) (N := 6) hx hb hW i_RS hown hK hP 0 rfl rfl 1 (by decide) (hW _ k_0) (fun _ h9 => h9) rfl d_RS_piece_30 ?_
    refine lv_iconst (v := 1) hx hb d_RS_piece_33 (by decide) ?_
    refine lv_isub hx hb d_RS_piece_34 ?_
    exact W.iret (v := ((F 1) + 1) - 1) hx hb hr (fun t ht hW9 => ⟨⟨((F 1) + 1) - 1, ((uF F 1 ((F 1) + 1)), A), rfl, hv.symm, by rw [ht]; exact hP, va_K.moved hW9.alike hK, hD⟩, hS.F ht⟩) hS.2.2 d_RS_piece_35
  · have hv := hv.trans (if_neg c_1)
    rw [hv] at hk
    exact absurd (show (4 : Nat) = 0 from hk) (by decide)
set_option maxHeartbeats 4000000 in
set_option maxRecDepth 100000 in
theorem c_RS_piece_x (l : Launch) (hl9 : l.stackTraces = false) (dC : Nat → ClassId) (dI : Nat → Nat → Nat) (r : Nat → Nat) (k : Nat → ClassId) (F : Nat → Int32) (A : Nat → Nat → Int32) (sz : Nat) (hI : CI F) (hk : ¬ (f_RS_piece F A).1 = 0) : vx_Met l y_RS_piece w_RS_piece ({ frames := 6, cells := 1, slots := 6, locals := 82 }) (va_Pc [.ref (r 0)] (XP (dC, dI) (wC r k F A) (tC k) sz)) (va_Qi (fun _ (_ : SC) => False) (fun (u : SC) t => aW (dC, dI) (tC k) (va_A (wC r k F A) sz) (wC r k u.1 u.2) t) (va_A (wC r k F A) sz)) (vx_X (fun u : Nat => f_RS_piece F A = (u, 0, F, A)) (fun E u t => E = exN u ∧ aW (dC, dI) (tC k) (va_A (wC r k F A) sz) (wC r k F A) t) (va_A (wC r k F A) sz)) 1 6 (va_A (wC r k F A) sz) := by
  refine vx_ofW (cc := b_RS_piece) (maxL := 1) (ret := (some .int)) (by decide) rfl ?_
  intro p e s m args below meth c s₁ B hml hEx hv0
  obtain ⟨rfl, ⟨hsz, hP, hK, hD0⟩, hXS⟩ := hv0
  have hx := B.exec
  have hb := B.bytes
  have hr := B.returns
  have hts := atoms_spec (ws := w_RS_piece) B.pre
  have hW : ∀ w ∈ WALL, w.before ([.ref (r 0)] : List Value).toArray s = true := fun w h => hts w (List.mem_cons_of_mem _ h)
  have hown : s.vm.findClass R_RS = some m.cls := findClass_of_methodNamed B.named
  have hlocks := B.notSynchronized
  subst hsz
  have hD := hD0.self (sz := s.heap.size)
  generalize hAe : va_A (wC r k F A) s.heap.size = Ad at hD hXS ⊢
  have hA : ∀ q : Nat, s.heap.size ≤ q → Ad q := fun q h => by rw [← hAe]; exact Or.inr h
  have hS : va_S Ad s.heap s.heap [] := va_S.rf
  have hl := lv_entry ([.ref (r 0)]) (n := 1) (Nat.le_of_ble_eq_true rfl)
  rw [lg_entry_eq]
  generalize (lg_sl ([.ref (r 0)]) ++ List.replicate (1 - (lg_sl ([.ref (r 0)])).length) Slot.unset).toArray = ls at hl ⊢
  have hl : lv_has ls 1 [(0, .ref (r 0))] := hl
  obtain ⟨⟨hp0, hp1⟩, ⟨hr0, hr1⟩, hg0, hg1⟩ := id hI; have hr2 : (F 2).toInt ≤ 60 := Int.le_trans hr1 (by decide)
  have hv := f_RS_piece.eq_1 F A
  refine lv_aload_n hx hb d_RS_piece_0 rfl (lv_at hl 0 rfl) ?_
  refine va_get (D := (dC, dI)) (ci := 0) (v := .int (F 1)) (C := R_RS) (T := F_RS) (N := 6) hx hb hW i_RS hown hK hP 0 rfl rfl 1 (by decide) (hW _ k_0) (fun _ h9 => h9) rfl d_RS_piece_1 ?_
  refine lv_bipush (v := 16) hx hb d_RS_piece_4 (by decide) ?_
  refine lv_icmp_lt (tgt := 19) hx hb d_RS_piece_6 (by decide) (fun c_1 => ?_) (fun c_1 => ?_)
  · have hv := hv.trans (if_pos c_1)
    exact (hk ((congrArg Prod.fst hv).trans (by first | rfl | ((repeat' split) <;> (first | rfl | exact cd_next_L _ _ _ _ _ _ _))))).elim
  · have hv := hv.trans (if_neg c_1)
    exact thr hx hb hl9 hown hW hXS tw_5 hS (hl.1.trans hml.symm) d_RS_piece_9 d_RS_piece_12 d_RS_piece_13 d_RS_piece_15 d_RS_piece_18 hEx (Nat.le_of_ble_eq_true rfl) (Nat.le_of_ble_eq_true rfl) (Nat.le_of_ble_eq_true rfl) (Nat.le_of_ble_eq_true rfl) hlocks (fun t ha hsz hk9 => ⟨4, hv, ⟨rfl, hP.kept (fun k9 q hq => hk9 q.1 (hP k9 q hq).lt), va_K.moved ha hK, hD⟩, Nat.le_trans hS.1 hsz, fun q h1 h2 => (hk9 q (Nat.lt_of_lt_of_le h1 hS.1)).trans (hS.2.1 q h1 h2)⟩) hS.2.2 (Nat.le_of_ble_eq_true rfl) (Nat.le_of_ble_eq_true rfl)
def f_RS_link (F : Nat → Int32) (A : Nat → Nat → Int32) (pc oth on : Int32) : Nat × Int32 × SC := if f_RS_needPiece F A pc = 0 then (if f_RS_needPiece F A oth = 0 then (if pc = oth then (2, 0, F, A) else (if on = 0 then (0, f_bitCount ((uA (uA A 0 (upd (A 0) pc.toNatClampNeg ((A 0 pc.toNatClampNeg) &&& (((1 : Int32) <<< (oth &&& 31)) ^^^ (-1))))) 0 (upd ((uA A 0 (upd (A 0) pc.toNatClampNeg ((A 0 pc.toNatClampNeg) &&& (((1 : Int32) <<< (oth &&& 31)) ^^^ (-1))))) 0) oth.toNatClampNeg (((uA A 0 (upd (A 0) pc.toNatClampNeg ((A 0 pc.toNatClampNeg) &&& (((1 : Int32) <<< (oth &&& 31)) ^^^ (-1))))) 0 oth.toNatClampNeg) &&& (((1 : Int32) <<< (pc &&& 31)) ^^^ (-1))))) 0 pc.toNatClampNeg), F, (uA (uA A 0 (upd (A 0) pc.toNatClampNeg ((A 0 pc.toNatClampNeg) &&& (((1 : Int32) <<< (oth &&& 31)) ^^^ (-1))))) 0 (upd ((uA A 0 (upd (A 0) pc.toNatClampNeg ((A 0 pc.toNatClampNeg) &&& (((1 : Int32) <<< (oth &&& 31)) ^^^ (-1))))) 0) oth.toNatClampNeg (((uA A 0 (upd (A 0) pc.toNatClampNeg ((A 0 pc.toNatClampNeg) &&& (((1 : Int32) <<< (oth &&& 31)) ^^^ (-1))))) 0 oth.toNatClampNeg) &&& (((1 : Int32) <<< (pc &&& 31)) ^^^ (-1)))))) else (0, f_bitCount ((uA (uA A 0 (upd (A 0) pc.toNatClampNeg ((A 0 pc.toNatClampNeg) ||| ((1 : Int32) <<< (oth &&& 31))))) 0 (upd ((uA A 0 (upd (A 0) pc.toNatClampNeg ((A 0 pc.toNatClampNeg) ||| ((1 : Int32) <<< (oth &&& 31))))) 0) oth.toNatClampNeg (((uA A 0 (upd (A 0) pc.toNatClampNeg ((A 0 pc.toNatClampNeg) ||| ((1 : Int32) <<< (oth &&& 31))))) 0 oth.toNatClampNeg) ||| ((1 : Int32) <<< (pc &&& 31))))) 0 pc.toNatClampNeg), F, (uA (uA A 0 (upd (A 0) pc.toNatClampNeg ((A 0 pc.toNatClampNeg) ||| ((1 : Int32) <<< (oth &&& 31))))) 0 (upd ((uA A 0 (upd (A 0) pc.toNatClampNeg ((A 0 pc.toNatClampNeg) ||| ((1 : Int32) <<< (oth &&& 31))))) 0) oth.toNatClampNeg (((uA A 0 (upd (A 0) pc.toNatClampNeg ((A 0 pc.toNatClampNeg) ||| ((1 : Int32) <<< (oth &&& 31))))) 0 oth.toNatClampNeg) ||| ((1 : Int32) <<< (pc &&& 31)))))))) else (f_RS_needPiece F A oth, 0, F, A)) else (f_RS_needPiece F A pc, 0, F, A)
set_option maxHeartbeats 4000000 in
set_option maxRecDepth 100000 in
theorem c_RS_link_k (l : Launch) (dC : Nat → ClassId) (dI : Nat → Nat → Nat) (r : Nat → Nat) (k : Nat → ClassId) (F : Nat → Int32) (A : Nat → Nat → Int32) (sz : Nat) (pc oth on : Int32) (hI : CI F) (hk : (f_RS_link F A pc oth on).1 = 0) : Met l y_RS_link w_RS_link ({ frames := 1, cells := 0, slots := 0, locals := 21 }) (va_Pc [.ref (r 0), .int pc, .int oth, .int on] (SP (dC, dI) (wC r k F A) (tC k) sz)) (va_Qi (fun v (u : SC) => (0, v, u) = f_RS_link F A pc oth on) (fun (u : SC) t => aW (dC, dI) (tC k) (va_A (wC r k F A) sz) (wC r k u.1 u.2) t) (va_A (wC r k F A) sz)) 0 0 (va_A (wC r k F A) sz) := by
  refine Met.ofW (cc := b_RS_link) (maxL := 4) (ret := (some .int)) (by decide) rfl ?_
  intro p e s m args below meth c s₁ B hml hv0
  obtain ⟨rfl, hsz, hP, hK, hD0⟩ := hv0
  have hx := B.exec
  have hb := B.bytes
  have hr := B.returns
  have hts := atoms_spec (ws := w_RS_link) B.pre
  have hW : ∀ w ∈ WALL, w.before ([.ref (r 0), .int pc, .int oth, .int on] : List Value).toArray s = true := fun w h => hts w (List.mem_cons_of_mem _ h)
  have hown : s.vm.findClass R_RS = some m.cls := findClass_of_methodNamed B.named
  have hlocks := B.notSynchronized
  subst hsz
  have hD := hD0.self (sz := s.heap.size)
  generalize hAe : va_A (wC r k F A) s.heap.size = Ad at hD ⊢
  have hA : ∀ q : Nat, s.heap.size ≤ q → Ad q := fun q h => by rw [← hAe]; exact Or.inr h
  have hS : va_S Ad s.heap s.heap [] := va_S.rf
  have hl := lv_entry ([.ref (r 0), .int pc, .int oth, .int on]) (n := 4) (Nat.le_of_ble_eq_true rfl)
  rw [lg_entry_eq]
  generalize (lg_sl ([.ref (r 0), .int pc, .int oth, .int on]) ++ List.replicate (4 - (lg_sl ([.ref (r 0), .int pc, .int oth, .int on])).length) Slot.unset).toArray = ls at hl ⊢
  have hl : lv_has ls 4 [(0, .ref (r 0)), (1, .int pc), (2, .int oth), (3, .int on)] := hl
  obtain ⟨⟨hp0, hp1⟩, ⟨hr0, hr1⟩, hg0, hg1⟩ := id hI; have hr2 : (F 2).toInt ≤ 60 := Int.le_trans hr1 (by decide)
  have hv := f_RS_link.eq_1 F A pc oth on
  refine lv_aload_n hx hb d_RS_link_0 rfl (lv_at hl 0 rfl) ?_
  refine lv_iload_n hx hb d_RS_link_1 rfl (lv_at hl 1 rfl) ?_
  by_cases c_1 : f_RS_needPiece F A pc = 0
  · have hv := hv.trans (if_pos c_1)
    refine rdVv ⟨hx, hb, hml, hown, hW⟩ (c_RS_needPiece_k l dC dI r k F A pc   c_1) (cwV 1 hW (gIn k_12 k_13 k_14 k_15 k_16) rfl rfl rfl (by decide +kernel) ⟨Nat.le_of_ble_eq_true rfl, Nat.le_of_ble_eq_true rfl⟩) hK hP (va_recv hK hP (ci := 0) (q0 := 0) rfl rfl) rfl hl.1 rfl (Nat.le_of_ble_eq_true rfl) d_RS_link_2 ⟨Nat.zero_le _, Nat.zero_le _⟩ ?_
    refine lv_aload_n hx hb d_RS_link_5 rfl (lv_at hl 0 rfl) ?_
    refine lv_iload_n hx hb d_RS_link_6 rfl (lv_at hl 2 rfl) ?_
    by_cases c_2 : f_RS_needPiece F A oth = 0
    · have hv := hv.trans (if_pos c_2)
      refine rdVv ⟨hx, hb, hml, hown, hW⟩ (c_RS_needPiece_k l dC dI r k F A oth   c_2) (cwV 1 hW (gIn k_12 k_13 k_14 k_15 k_16) rfl rfl rfl (by decide +kernel) ⟨Nat.le_of_ble_eq_true rfl, Nat.le_of_ble_eq_true rfl⟩) hK hP (va_recv hK hP (ci := 0) (q0 := 0) rfl rfl) rfl hl.1 rfl (Nat.le_of_ble_eq_true rfl) d_RS_link_7 ⟨Nat.zero_le _, Nat.zero_le _⟩ ?_
      refine lv_iload_n hx hb d_RS_link_10 rfl (lv_at hl 1 rfl) ?_
      refine lv_iload_n hx hb d_RS_link_11 rfl (lv_at hl 2 rfl) ?_
      refine lv_icmp_ne (tgt := 25) hx hb d_RS_link_12 (by decide) (fun c_3 => ?_) (fun c_3 => ?_)
      · have hv := hv.trans (if_neg c_3)
        refine lv_iload_n hx hb d_RS_link_25 rfl (lv_at hl 3 rfl) ?_
        refine lv_if_eq (tgt := 56) hx hb d_RS_link_26 (by decide) (fun c_4 => ?_) (fun c_4 => ?_)
        · have hv := hv.trans (if_pos c_4)
          refine lv_aload_n hx hb d_RS_link_56 rfl (lv_at hl 0 rfl) ?_
          refine va_get (D := (dC, dI)) (ci := 0) (v := .ref (r 3)) (C := R_RS) (T := F_RS) (N := 6) hx hb hW i_RS hown hK hP 0 rfl rfl 2 (by decide) (hW _ k_17) (fun _ h9 => h9) rfl d_RS_link_57 ?_
          refine lv_iload_n hx hb d_RS_link_60 rfl (lv_at hl 1 rfl) ?_
          refine lv_dup2_11 hx hb d_RS_link_61 rfl rfl ?_
          refine va_iald hx hb hK hP 3 0 rfl rfl (ixP hI c_1) d_RS_link_62 ?_
          refine lv_iconst (v := 1) hx hb d_RS_link_63 (by decide) ?_
          refine lv_iload_n hx hb d_RS_link_64 rfl (lv_at hl 2 rfl) ?_
          refine lv_ishl hx hb d_RS_link_65 ?_
          refine lv_iconst (v := (-1)) hx hb d_RS_link_66 (by decide) ?_
          refine lv_ixor hx hb d_RS_link_67 ?_
          refine lv_iand hx hb d_RS_link_68 ?_
          refine va_iast hx hb hK hP hD hS 3 0 rfl rfl (ixP hI c_1) d_RS_link_69 (fun H locs hP hD hS => ?_)
          have hP := pCA_0 hP
          have hD := dCA_0 hD
          generalize hAg1 : (uA A 0 (upd (A 0) pc.toNatClampNeg ((A 0 pc.toNatClampNeg) &&& (((1 : Int32) <<< (oth &&& 31)) ^^^ (-1))))) = A1_ at hP hD hv
          refine lv_aload_n hx hb d_RS_link_70 rfl (lv_at hl 0 rfl) ?_
          refine va_get (D := (dC, dI)) (ci := 0) (v := .ref (r 3)) (C := R_RS) (T := F_RS) (N := 6) hx hb hW i_RS hown hK hP 0 rfl rfl 2 (by decide) (hW _ k_17) (fun _ h9 => h9) rfl d_RS_link_71 ?_
          refine lv_iload_n hx hb d_RS_link_74 rfl (lv_at hl 2 rfl) ?_
          refine lv_dup2_11 hx hb d_RS_link_75 rfl rfl ?_
          refine va_iald hx hb hK hP 3 0 rfl rfl (ixP hI c_2) d_RS_link_76 ?_
          refine lv_iconst (v := 1) hx hb d_RS_link_77 (by decide) ?_
          refine lv_iload_n hx hb d_RS_link_78 rfl (lv_at hl 1 rfl) ?_
          refine lv_ishl hx hb d_RS_link_79 ?_
          refine lv_iconst (v := (-1)) hx hb d_RS_link_80 (by decide) ?_
          refine lv_ixor hx hb d_RS_link_81 ?_
          refine lv_iand hx hb d_RS_link_82 ?_
          refine va_iast hx hb hK hP hD hS 3 0 rfl rfl (ixP hI c_2) d_RS_link_83 (fun H locs hP hD hS => ?_)
          have hP := pCA_0 hP
          have hD := dCA_0 hD
          generalize hAg2 : (uA A1_ 0 (upd (A1_ 0) oth.toNatClampNeg ((A1_ 0 oth.toNatClampNeg) &&& (((1 : Int32) <<< (pc &&& 31)) ^^^ (-1))))) = A2_ at hP hD hv
          refine lv_aload_n hx hb d_RS_link_84 rfl (lv_at hl 0 rfl) ?_
          refine va_get (D := (dC, dI)) (ci := 0) (v := .ref (r 3)) (C := R_RS) (T := F_RS) (N := 6) hx hb hW i_RS hown hK hP 0 rfl rfl 2 (by decide) (hW _ k_17) (fun _ h9 => h9) rfl d_RS_link_85 ?_
          refine lv_iload_n hx hb d_RS_link_88 rfl (lv_at hl 1 rfl) ?_
          refine va_iald hx hb hK hP 3 0 rfl rfl (ixP hI c_1) d_RS_link_89 ?_
          refine rdS (rest := []) ⟨hx, hb, hml, hown, hW⟩ (c_bitCount l (A2_ 0 pc.toNatClampNeg)) (va_cwS 1 hW (gInS k_18 k_19 k_20 k_21) rfl rfl rfl (by decide +kernel) ⟨Nat.le_of_ble_eq_true rfl, Nat.le_of_ble_eq_true rfl⟩) rfl hl.1 rfl (Nat.le_of_ble_eq_true rfl) d_RS_link_90 ⟨Nat.zero_le _, Nat.zero_le _⟩ ?_
          exact W.iret (v := f_bitCount (A2_ 0 pc.toNatClampNeg)) hx hb hr (fun t ht hW9 => ⟨⟨f_bitCount (A2_ 0 pc.toNatClampNeg), (F, A2_), rfl, hv.symm, by rw [ht]; exact hP, va_K.moved hW9.alike hK, hD⟩, hS.F ht⟩) hS.2.2 d_RS_link_93
        · have hv := hv.trans (if_neg c_4)
          refine lv_aload_n hx hb d_RS_link_29 rfl (lv_at hl 0 rfl) ?_
          refine va_get (D := (dC, dI)) (ci := 0) (v := .ref (r 3)) (C := R_RS) (T := F_RS) (N := 6) hx hb hW i_RS hown hK hP 0 rfl rfl 2 (by decide) (hW _ k_17) (fun _ h9 => h9) rfl d_RS_link_30 ?_
          refine lv_iload_n hx hb d_RS_link_33 rfl (lv_at hl 1 rfl) ?_
          refine lv_dup2_11 hx hb d_RS_link_34 rfl rfl ?_
          refine va_iald hx hb hK hP 3 0 rfl rfl (ixP hI c_1) d_RS_link_35 ?_
          refine lv_iconst (v := 1) hx hb d_RS_link_36 (by decide) ?_
          refine lv_iload_n hx hb d_RS_link_37 rfl (lv_at hl 2 rfl) ?_
          refine lv_ishl hx hb d_RS_link_38 ?_
          refine lv_ior hx hb d_RS_link_39 ?_
          refine va_iast hx hb hK hP hD hS 3 0 rfl rfl (ixP hI c_1) d_RS_link_40 (fun H locs hP hD hS => ?_)
          have hP := pCA_0 hP
          have hD := dCA_0 hD
          generalize hAg3 : (uA A 0 (upd (A 0) pc.toNatClampNeg ((A 0 pc.toNatClampNeg) ||| ((1 : Int32) <<< (oth &&& 31))))) = A3_ at hP hD hv
          refine lv_aload_n hx hb d_RS_link_41 rfl (lv_at hl 0 rfl) ?_
          refine va_get (D := (dC, dI)) (ci := 0) (v := .ref (r 3)) (C := R_RS) (T := F_RS) (N := 6) hx hb hW i_RS hown hK hP 0 rfl rfl 2 (by decide) (hW _ k_17) (fun _ h9 => h9) rfl d_RS_link_42 ?_
          refine lv_iload_n hx hb d_RS_link_45 rfl (lv_at hl 2 rfl) ?_
          refine lv_dup2_11 hx hb d_RS_link_46 rfl rfl ?_
          refine va_iald hx hb hK hP 3 0 rfl rfl (ixP hI c_2) d_RS_link_47 ?_
          refine lv_iconst (v := 1) hx hb d_RS_link_48 (by decide) ?_
          refine lv_iload_n hx hb d_RS_link_49 rfl (lv_at hl 1 rfl) ?_
          refine lv_ishl hx hb d_RS_link_50 ?_
          refine lv_ior hx hb d_RS_link_51 ?_
          refine va_iast hx hb hK hP hD hS 3 0 rfl rfl (ixP hI c_2) d_RS_link_52 (fun H locs hP hD hS => ?_)
          have hP := pCA_0 hP
          have hD := dCA_0 hD
          generalize hAg4 : (uA A3_ 0 (upd (A3_ 0) oth.toNatClampNeg ((A3_ 0 oth.toNatClampNeg) ||| ((1 : Int32) <<< (pc &&& 31))))) = A4_ at hP hD hv
          refine lv_goto (tgt := 84) hx hb d_RS_link_53 (by decide) ?_
          refine lv_aload_n hx hb d_RS_link_84 rfl (lv_at hl 0 rfl) ?_
          refine va_get (D := (dC, dI)) (ci := 0) (v := .ref (r 3)) (C := R_RS) (T := F_RS) (N := 6) hx hb hW i_RS hown hK hP 0 rfl rfl 2 (by decide) (hW _ k_17) (fun _ h9 => h9) rfl d_RS_link_85 ?_
          refine lv_iload_n hx hb d_RS_link_88 rfl (lv_at hl 1 rfl) ?_
          refine va_iald hx hb hK hP 3 0 rfl rfl (ixP hI c_1) d_RS_link_89 ?_
          refine rdS (rest := []) ⟨hx, hb, hml, hown, hW⟩ (c_bitCount l (A4_ 0 pc.toNatClampNeg)) (va_cwS 1 hW (gInS k_18 k_19 k_20 k_21) rfl rfl rfl (by decide +kernel) ⟨Nat.le_of_ble_eq_true rfl, Nat.le_of_ble_eq_true rfl⟩) rfl hl.1 rfl (Nat.le_of_ble_eq_true rfl) d_RS_link_90 ⟨Nat.zero_le _, Nat.zero_le _⟩ ?_
          exact W.iret (v := f_bitCount (A4_ 0 pc.toNatClampNeg)) hx hb hr (fun t ht hW9 => ⟨⟨f_bitCount (A4_ 0 pc.toNatClampNeg), (F, A4_), rfl, hv.symm, by rw [ht]; exact hP, va_K.moved hW9.alike hK, hD⟩, hS.F ht⟩) hS.2.2 d_RS_link_93
      · have hv := hv.trans (if_pos c_3)
        rw [hv] at hk
        exact absurd (show (2 : Nat) = 0 from hk) (by decide)
    · have hv := hv.trans (if_neg c_2)
      rw [hv] at hk
      exact absurd hk c_2
  · have hv := hv.trans (if_neg c_1)
    rw [hv] at hk
    exact absurd hk c_1
set_option maxHeartbeats 4000000 in
set_option maxRecDepth 100000 in
theorem c_RS_link_x (l : Launch) (hl9 : l.stackTraces = false) (dC : Nat → ClassId) (dI : Nat → Nat → Nat) (r : Nat → Nat) (k : Nat → ClassId) (F : Nat → Int32) (A : Nat → Nat → Int32) (sz : Nat) (pc oth on : Int32) (hI : CI F) (hk : ¬ (f_RS_link F A pc oth on).1 = 0) : vx_Met l y_RS_link w_RS_link ({ frames := 7, cells := 1, slots := 6, locals := 103 }) (va_Pc [.ref (r 0), .int pc, .int oth, .int on] (XP (dC, dI) (wC r k F A) (tC k) sz)) (va_Qi (fun _ (_ : SC) => False) (fun (u : SC) t => aW (dC, dI) (tC k) (va_A (wC r k F A) sz) (wC r k u.1 u.2) t) (va_A (wC r k F A) sz)) (vx_X (fun u : Nat => f_RS_link F A pc oth on = (u, 0, F, A)) (fun E u t => E = exN u ∧ aW (dC, dI) (tC k) (va_A (wC r k F A) sz) (wC r k F A) t) (va_A (wC r k F A) sz)) 1 6 (va_A (wC r k F A) sz) := by
  refine vx_ofW (cc := b_RS_link) (maxL := 4) (ret := (some .int)) (by decide) rfl ?_
  intro p e s m args below meth c s₁ B hml hEx hv0
  obtain ⟨rfl, ⟨hsz, hP, hK, hD0⟩, hXS⟩ := hv0
  have hx := B.exec
  have hb := B.bytes
  have hr := B.returns
  have hts := atoms_spec (ws := w_RS_link) B.pre
  have hW : ∀ w ∈ WALL, w.before ([.ref (r 0), .int pc, .int oth, .int on] : List Value).toArray s = true := fun w h => hts w (List.mem_cons_of_mem _ h)
  have hown : s.vm.findClass R_RS = some m.cls := findClass_of_methodNamed B.named
  have hlocks := B.notSynchronized
  subst hsz
  have hD := hD0.self (sz := s.heap.size)
  generalize hAe : va_A (wC r k F A) s.heap.size = Ad at hD hXS ⊢
  have hA : ∀ q : Nat, s.heap.size ≤ q → Ad q := fun q h => by rw [← hAe]; exact Or.inr h
  have hS : va_S Ad s.heap s.heap [] := va_S.rf
  have hl := lv_entry ([.ref (r 0), .int pc, .int oth, .int on]) (n := 4) (Nat.le_of_ble_eq_true rfl)
  rw [lg_entry_eq]
  generalize (lg_sl ([.ref (r 0), .int pc, .int oth, .int on]) ++ List.replicate (4 - (lg_sl ([.ref (r 0), .int pc, .int oth, .int on])).length) Slot.unset).toArray = ls at hl ⊢
  have hl : lv_has ls 4 [(0, .ref (r 0)), (1, .int pc), (2, .int oth), (3, .int on)] := hl
  obtain ⟨⟨hp0, hp1⟩, ⟨hr0, hr1⟩, hg0, hg1⟩ := id hI; have hr2 : (F 2).toInt ≤ 60 := Int.le_trans hr1 (by decide)
  have hv := f_RS_link.eq_1 F A pc oth on
  refine lv_aload_n hx hb d_RS_link_0 rfl (lv_at hl 0 rfl) ?_
  refine lv_iload_n hx hb d_RS_link_1 rfl (lv_at hl 1 rfl) ?_
  by_cases c_1 : f_RS_needPiece F A pc = 0
  · have hv := hv.trans (if_pos c_1)
    refine rdVv ⟨hx, hb, hml, hown, hW⟩ (c_RS_needPiece_k l dC dI r k F A pc   c_1) (cwV 1 hW (gIn k_12 k_13 k_14 k_15 k_16) rfl rfl rfl (by decide +kernel) ⟨Nat.le_of_ble_eq_true rfl, Nat.le_of_ble_eq_true rfl⟩) hK hP (va_recv hK hP (ci := 0) (q0 := 0) rfl rfl) rfl hl.1 rfl (Nat.le_of_ble_eq_true rfl) d_RS_link_2 ⟨Nat.zero_le _, Nat.zero_le _⟩ ?_
    refine lv_aload_n hx hb d_RS_link_5 rfl (lv_at hl 0 rfl) ?_
    refine lv_iload_n hx hb d_RS_link_6 rfl (lv_at hl 2 rfl) ?_
    by_cases c_2 : f_RS_needPiece F A oth = 0
    · have hv := hv.trans (if_pos c_2)
      refine rdVv ⟨hx, hb, hml, hown, hW⟩ (c_RS_needPiece_k l dC dI r k F A oth   c_2) (cwV 1 hW (gIn k_12 k_13 k_14 k_15 k_16) rfl rfl rfl (by decide +kernel) ⟨Nat.le_of_ble_eq_true rfl, Nat.le_of_ble_eq_true rfl⟩) hK hP (va_recv hK hP (ci := 0) (q0 := 0) rfl rfl) rfl hl.1 rfl (Nat.le_of_ble_eq_true rfl) d_RS_link_7 ⟨Nat.zero_le _, Nat.zero_le _⟩ ?_
      refine lv_iload_n hx hb d_RS_link_10 rfl (lv_at hl 1 rfl) ?_
      refine lv_iload_n hx hb d_RS_link_11 rfl (lv_at hl 2 rfl) ?_
      refine lv_icmp_ne (tgt := 25) hx hb d_RS_link_12 (by decide) (fun c_3 => ?_) (fun c_3 => ?_)
      · have hv := hv.trans (if_neg c_3)
        exact (hk ((congrArg Prod.fst hv).trans (by first | rfl | ((repeat' split) <;> (first | rfl | exact cd_next_L _ _ _ _ _ _ _))))).elim
      · have hv := hv.trans (if_pos c_3)
        exact thr hx hb hl9 hown hW hXS tw_6 hS (hl.1.trans hml.symm) d_RS_link_15 d_RS_link_18 d_RS_link_19 d_RS_link_21 d_RS_link_24 hEx (Nat.le_of_ble_eq_true rfl) (Nat.le_of_ble_eq_true rfl) (Nat.le_of_ble_eq_true rfl) (Nat.le_of_ble_eq_true rfl) hlocks (fun t ha hsz hk9 => ⟨2, hv, ⟨rfl, hP.kept (fun k9 q hq => hk9 q.1 (hP k9 q hq).lt), va_K.moved ha hK, hD⟩, Nat.le_trans hS.1 hsz, fun q h1 h2 => (hk9 q (Nat.lt_of_lt_of_le h1 hS.1)).trans (hS.2.1 q h1 h2)⟩) hS.2.2 (Nat.le_of_ble_eq_true rfl) (Nat.le_of_ble_eq_true rfl)
    · have hv := hv.trans (if_neg c_2)
      refine gdV ⟨hx, hb, hml, hown, hW⟩ (c_RS_needPiece_x l hl9 dC dI r k F A _ oth   c_2) (cwV 1 hW (gIn k_12 k_13 k_14 k_15 k_16) rfl rfl rfl (by decide +kernel) ⟨Nat.le_of_ble_eq_true rfl, Nat.le_of_ble_eq_true rfl⟩) hK hP hXS hA (va_recv hK hP (ci := 0) (q0 := 0) rfl rfl) hS rfl hl.1 rfl (Nat.le_of_ble_eq_true rfl) d_RS_link_7 ⟨Nat.le_of_ble_eq_true rfl, Nat.le_of_ble_eq_true rfl⟩ (fun H locs q9 ce hP hS hce hcv hcl => ?_)
      exact vx_out (E := exN (f_RS_needPiece F A oth)) (fun x hx => (hEx x hx).elim) hlocks hce hcv hcl (fun t ht ha => ⟨f_RS_needPiece F A oth, hv, ⟨rfl, by rw [ht]; exact hP, va_K.moved ha hK, hD⟩, hS.F ht⟩) hS.2.2 (Nat.le_of_ble_eq_true rfl) (Nat.le_of_ble_eq_true rfl)
  · have hv := hv.trans (if_neg c_1)
    refine gdV ⟨hx, hb, hml, hown, hW⟩ (c_RS_needPiece_x l hl9 dC dI r k F A _ pc   c_1) (cwV 1 hW (gIn k_12 k_13 k_14 k_15 k_16) rfl rfl rfl (by decide +kernel) ⟨Nat.le_of_ble_eq_true rfl, Nat.le_of_ble_eq_true rfl⟩) hK hP hXS hA (va_recv hK hP (ci := 0) (q0 := 0) rfl rfl) hS rfl hl.1 rfl (Nat.le_of_ble_eq_true rfl) d_RS_link_2 ⟨Nat.le_of_ble_eq_true rfl, Nat.le_of_ble_eq_true rfl⟩ (fun H locs q9 ce hP hS hce hcv hcl => ?_)
    exact vx_out (E := exN (f_RS_needPiece F A pc)) (fun x hx => (hEx x hx).elim) hlocks hce hcv hcl (fun t ht ha => ⟨f_RS_needPiece F A pc, hv, ⟨rfl, by rw [ht]; exact hP, va_K.moved ha hK, hD⟩, hS.F ht⟩) hS.2.2 (Nat.le_of_ble_eq_true rfl) (Nat.le_of_ble_eq_true rfl)
def f_Rb_standingOn_L2 (F : Nat → Int32) (A : Nat → Nat → Int32) (pc : Int32) : Nat → Int32 → Int32
  | 0, _ => 0
  | n2 + 1, x2 => if F 2 ≤ x2 then (-1) else (if A 2 x2.toNatClampNeg = pc then x2 else (if A 4 x2.toNatClampNeg = pc then x2 else (f_Rb_standingOn_L2 F A pc n2 (x2 + 1))))
def f_Rb_standingOn (F : Nat → Int32) (A : Nat → Nat → Int32) (pc : Int32) : Int32 := f_Rb_standingOn_L2 F A pc 64 0
set_option maxHeartbeats 4000000 in
set_option maxRecDepth 100000 in
theorem c_Rb_standingOn (l : Launch) (dC : Nat → ClassId) (dI : Nat → Nat → Nat) (r : Nat → Nat) (k : Nat → ClassId) (F : Nat → Int32) (A : Nat → Nat → Int32) (pc : Int32) (hI : CI F) : Met l y_Rb_standingOn w_Rb_standingOn ({ frames := 0, cells := 0, slots := 0, locals := 0 }) (va_Pc [.ref (r 1), .int pc] (RO (dC, dI) (wC r k F A) (tC k))) (vp_Si (fun v => v = f_Rb_standingOn F A pc)) 0 0 (fun _ => False) := by
  refine Met.ofW (cc := b_Rb_standingOn) (maxL := 3) (ret := (some .int)) (by decide) rfl ?_
  intro p e s m args below meth c s₁ B hml hv0
  obtain ⟨rfl, hP, hK⟩ := hv0
  have hx := B.exec
  have hb := B.bytes
  have hr := B.returns
  have hts := atoms_spec (ws := w_Rb_standingOn) B.pre
  have hW : ∀ w ∈ WALL, w.before ([.ref (r 1), .int pc] : List Value).toArray s = true := fun w h => hts w (List.mem_cons_of_mem _ h)
  have hown : s.vm.findClass R_Rb = some m.cls := findClass_of_methodNamed B.named
  have hlocks := B.notSynchronized
  have hl := lv_entry ([.ref (r 1), .int pc]) (n := 3) (Nat.le_of_ble_eq_true rfl)
  rw [lg_entry_eq]
  generalize (lg_sl ([.ref (r 1), .int pc]) ++ List.replicate (3 - (lg_sl ([.ref (r 1), .int pc])).length) Slot.unset).toArray = ls at hl ⊢
  have hl : lv_has ls 3 [(0, .ref (r 1)), (1, .int pc)] := hl
  obtain ⟨⟨hp0, hp1⟩, ⟨hr0, hr1⟩, hg0, hg1⟩ := id hI; have hr2 : (F 2).toInt ≤ 60 := Int.le_trans hr1 (by decide)
  have hv := f_Rb_standingOn.eq_1 F A pc
  refine lv_iconst (v := 0) hx hb d_Rb_standingOn_0 (by decide) ?_
  refine lv_istore_n (lv' := [(2, .int 0), (0, .ref (r 1)), (1, .int pc)]) hx hb d_Rb_standingOn_1 rfl hl (by decide) rfl (fun ls hl => ?_)
  have loop2 : ∀ (n2 : Nat) (x2 : Int32) (ls : Array Slot), LB (F 2) x2 n2 → f_Rb_standingOn F A pc = f_Rb_standingOn_L2 F A pc n2 x2 → lv_has ls 3 [(0, .ref (r 1)), (1, .int pc), (2, .int x2)] → W p l e (headSpec w_Rb_standingOn ({ frames := 0, cells := 0, slots := 0, locals := 0 })).room s m ([.ref (r 1), .int pc] : List Value).toArray below meth c s.heap [] 0 0 (MQ below (vp_Si (fun v => v = f_Rb_standingOn F A pc)) ([.ref (r 1), .int pc] : List Value).toArray s 0 0 (fun _ => False)) (F0 m 2 ls []) := by
    intro n2
    induction n2 with
    | zero => intro x2 ls hlp; exact (hlp.z).elim
    | succ n2 ih2 =>
      intro x2 ls hlp2 hv hl
      rw [f_Rb_standingOn_L2] at hv
      refine lv_iload_n hx hb d_Rb_standingOn_2 rfl (lv_at hl 2 rfl) ?_
      refine lv_aload_n hx hb d_Rb_standingOn_3 rfl (lv_at hl 0 rfl) ?_
      refine va_get (D := (dC, dI)) (ci := 1) (v := .int (F 2)) (C := R_Rb) (T := F_Rb) (N := 7) hx hb hW i_Rb hown hK hP 1 rfl rfl 0 (by decide) (hW _ k_22) (fun _ h9 => h9) rfl d_Rb_standingOn_4 ?_
      refine lv_icmp_ge (tgt := 38) hx hb d_Rb_standingOn_7 (by decide) (fun c_1 => ?_) (fun c_1 => ?_)
      · have hv := hv.trans (if_pos c_1)
        refine lv_iconst (v := (-1)) hx hb d_Rb_standingOn_38 (by decide) ?_
        exact W.iret (v := (-1)) hx hb hr (fun t ht hW9 => ⟨(-1), rfl, hv.symm, ht⟩) (fun q hq => nomatch hq) d_Rb_standingOn_39
      · have hv := hv.trans (if_neg c_1)
        refine lv_aload_n hx hb d_Rb_standingOn_10 rfl (lv_at hl 0 rfl) ?_
        refine va_get (D := (dC, dI)) (ci := 1) (v := .ref (r 5)) (C := R_Rb) (T := F_Rb) (N := 7) hx hb hW i_Rb hown hK hP 1 rfl rfl 1 (by decide) (hW _ k_23) (fun _ h9 => h9) rfl d_Rb_standingOn_11 ?_
        refine lv_iload_n hx hb d_Rb_standingOn_14 rfl (lv_at hl 2 rfl) ?_
        refine va_iald hx hb hK hP 5 2 rfl rfl (LB.ix hlp2 c_1 hr1) d_Rb_standingOn_15 ?_
        refine lv_iload_n hx hb d_Rb_standingOn_16 rfl (lv_at hl 1 rfl) ?_
        refine lv_icmp_eq (tgt := 30) hx hb d_Rb_standingOn_17 (by decide) (fun c_2 => ?_) (fun c_2 => ?_)
        · have hv := hv.trans (if_pos c_2)
          refine lv_iload_n hx hb d_Rb_standingOn_30 rfl (lv_at hl 2 rfl) ?_
          exact W.iret (v := x2) hx hb hr (fun t ht hW9 => ⟨x2, rfl, hv.symm, ht⟩) (fun q hq => nomatch hq) d_Rb_standingOn_31
        · have hv := hv.trans (if_neg c_2)
          refine lv_aload_n hx hb d_Rb_standingOn_20 rfl (lv_at hl 0 rfl) ?_
          refine va_get (D := (dC, dI)) (ci := 1) (v := .ref (r 7)) (C := R_Rb) (T := F_Rb) (N := 7) hx hb hW i_Rb hown hK hP 1 rfl rfl 3 (by decide) (hW _ k_24) (fun _ h9 => h9) rfl d_Rb_standingOn_21 ?_
          refine lv_iload_n hx hb d_Rb_standingOn_24 rfl (lv_at hl 2 rfl) ?_
          refine va_iald hx hb hK hP 7 4 rfl rfl (LB.ix hlp2 c_1 hr1) d_Rb_standingOn_25 ?_
          refine lv_iload_n hx hb d_Rb_standingOn_26 rfl (lv_at hl 1 rfl) ?_
          refine lv_icmp_ne (tgt := 32) hx hb d_Rb_standingOn_27 (by decide) (fun c_3 => ?_) (fun c_3 => ?_)
          · have hv := hv.trans (if_neg c_3)
            refine lv_iinc (v := x2 + 1) (lv' := [(2, .int (x2 + 1)), (0, .ref (r 1)), (1, .int pc)]) hx hb d_Rb_standingOn_32 hl (k := 2) rfl rfl (by decide) rfl (fun ls hl => ?_)
            refine lv_goto (tgt := 2) hx hb d_Rb_standingOn_35 (by decide) ?_
            exact ih2 (x2 + 1) ls (LB.s hlp2 c_1 hr2) hv (lv_sub hl [1, 2, 0] rfl)
          · have hv := hv.trans (if_pos c_3)
            refine lv_iload_n hx hb d_Rb_standingOn_30 rfl (lv_at hl 2 rfl) ?_
            exact W.iret (v := x2) hx hb hr (fun t ht hW9 => ⟨x2, rfl, hv.symm, ht⟩) (fun q hq => nomatch hq) d_Rb_standingOn_31
  exact loop2 64 0 ls (LB.i hr0 hr2) hv (lv_sub hl [1, 2, 0] rfl)
theorem st_in_L {F : Nat → Int32} {A : Nat → Nat → Int32} {p : Int32} (hr1 : (F 2).toInt ≤ 6) : ∀ (n : Nat) (i : Int32), LB (F 2) i n → f_Rb_standingOn_L2 F A p n i = -1 ∨ vp_in (f_Rb_standingOn_L2 F A p n i) 6 := by
  intro n
  induction n with
  | zero => intro i h; exact h.z.elim
  | succ n ih =>
    intro i h
    rw [f_Rb_standingOn_L2]
    by_cases c : F 2 ≤ i
    · rw [if_pos c]; exact Or.inl rfl
    · rw [if_neg c]
      have hi := LB.ix h c hr1
      have hs := ih (i + 1) (h.s c (Int.le_trans hr1 (by decide)))
      repeat' split
      all_goals first | exact Or.inr hi | exact hs
theorem ixS {F : Nat → Int32} {A : Nat → Nat → Int32} {p : Int32} (hI : CI F) (h : ¬ f_Rb_standingOn F A p = (-1)) : vp_in (f_Rb_standingOn F A p) 6 := by
  obtain ⟨⟨hp0, hp1⟩, ⟨hr0, hr1⟩, hg0, hg1⟩ := hI
  exact (st_in_L (A := A) (p := p) hr1 64 0 (LB.i hr0 (Int.le_trans hr1 (by decide)))).resolve_left h
