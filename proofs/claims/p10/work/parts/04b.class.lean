def f_Rb_add (F : Nat → Int32) (A : Nat → Nat → Int32) (pc tl nw : Int32) : Int32 × SC := (F 2, (uF F 2 ((F 2) + 1)), (uA (uA (uA (uA (uA (uA A 2 (upd (A 2) (F 2).toNatClampNeg pc)) 3 (upd ((uA A 2 (upd (A 2) (F 2).toNatClampNeg pc)) 3) (F 2).toNatClampNeg (vp_nar .boolean tl))) 4 (upd ((uA (uA A 2 (upd (A 2) (F 2).toNatClampNeg pc)) 3 (upd ((uA A 2 (upd (A 2) (F 2).toNatClampNeg pc)) 3) (F 2).toNatClampNeg (vp_nar .boolean tl))) 4) (F 2).toNatClampNeg (-1))) 5 (upd ((uA (uA (uA A 2 (upd (A 2) (F 2).toNatClampNeg pc)) 3 (upd ((uA A 2 (upd (A 2) (F 2).toNatClampNeg pc)) 3) (F 2).toNatClampNeg (vp_nar .boolean tl))) 4 (upd ((uA (uA A 2 (upd (A 2) (F 2).toNatClampNeg pc)) 3 (upd ((uA A 2 (upd (A 2) (F 2).toNatClampNeg pc)) 3) (F 2).toNatClampNeg (vp_nar .boolean tl))) 4) (F 2).toNatClampNeg (-1))) 5) (F 2).toNatClampNeg (-1))) 6 (upd ((uA (uA (uA (uA A 2 (upd (A 2) (F 2).toNatClampNeg pc)) 3 (upd ((uA A 2 (upd (A 2) (F 2).toNatClampNeg pc)) 3) (F 2).toNatClampNeg (vp_nar .boolean tl))) 4 (upd ((uA (uA A 2 (upd (A 2) (F 2).toNatClampNeg pc)) 3 (upd ((uA A 2 (upd (A 2) (F 2).toNatClampNeg pc)) 3) (F 2).toNatClampNeg (vp_nar .boolean tl))) 4) (F 2).toNatClampNeg (-1))) 5 (upd ((uA (uA (uA A 2 (upd (A 2) (F 2).toNatClampNeg pc)) 3 (upd ((uA A 2 (upd (A 2) (F 2).toNatClampNeg pc)) 3) (F 2).toNatClampNeg (vp_nar .boolean tl))) 4 (upd ((uA (uA A 2 (upd (A 2) (F 2).toNatClampNeg pc)) 3 (upd ((uA A 2 (upd (A 2) (F 2).toNatClampNeg pc)) 3) (F 2).toNatClampNeg (vp_nar .boolean tl))) 4) (F 2).toNatClampNeg (-1))) 5) (F 2).toNatClampNeg (-1))) 6) (F 2).toNatClampNeg (vp_nar .boolean 0))) 7 (upd ((uA (uA (uA (uA (uA A 2 (upd (A 2) (F 2).toNatClampNeg pc)) 3 (upd ((uA A 2 (upd (A 2) (F 2).toNatClampNeg pc)) 3) (F 2).toNatClampNeg (vp_nar .boolean tl))) 4 (upd ((uA (uA A 2 (upd (A 2) (F 2).toNatClampNeg pc)) 3 (upd ((uA A 2 (upd (A 2) (F 2).toNatClampNeg pc)) 3) (F 2).toNatClampNeg (vp_nar .boolean tl))) 4) (F 2).toNatClampNeg (-1))) 5 (upd ((uA (uA (uA A 2 (upd (A 2) (F 2).toNatClampNeg pc)) 3 (upd ((uA A 2 (upd (A 2) (F 2).toNatClampNeg pc)) 3) (F 2).toNatClampNeg (vp_nar .boolean tl))) 4 (upd ((uA (uA A 2 (upd (A 2) (F 2).toNatClampNeg pc)) 3 (upd ((uA A 2 (upd (A 2) (F 2).toNatClampNeg pc)) 3) (F 2).toNatClampNeg (vp_nar .boolean tl))) 4) (F 2).toNatClampNeg (-1))) 5) (F 2).toNatClampNeg (-1))) 6 (upd ((uA (uA (uA (uA A 2 (upd (A 2) (F 2).toNatClampNeg pc)) 3 (upd ((uA A 2 (upd (A 2) (F 2).toNatClampNeg pc)) 3) (F 2).toNatClampNeg (vp_nar .boolean tl))) 4 (upd ((uA (uA A 2 (upd (A 2) (F 2).toNatClampNeg pc)) 3 (upd ((uA A 2 (upd (A 2) (F 2).toNatClampNeg pc)) 3) (F 2).toNatClampNeg (vp_nar .boolean tl))) 4) (F 2).toNatClampNeg (-1))) 5 (upd ((uA (uA (uA A 2 (upd (A 2) (F 2).toNatClampNeg pc)) 3 (upd ((uA A 2 (upd (A 2) (F 2).toNatClampNeg pc)) 3) (F 2).toNatClampNeg (vp_nar .boolean tl))) 4 (upd ((uA (uA A 2 (upd (A 2) (F 2).toNatClampNeg pc)) 3 (upd ((uA A 2 (upd (A 2) (F 2).toNatClampNeg pc)) 3) (F 2).toNatClampNeg (vp_nar .boolean tl))) 4) (F 2).toNatClampNeg (-1))) 5) (F 2).toNatClampNeg (-1))) 6) (F 2).toNatClampNeg (vp_nar .boolean 0))) 7) (F 2).toNatClampNeg nw)))
set_option maxHeartbeats 4000000 in
set_option maxRecDepth 100000 in
theorem c_Rb_add (l : Launch) (dC : Nat → ClassId) (dI : Nat → Nat → Nat) (r : Nat → Nat) (k : Nat → ClassId) (F : Nat → Int32) (A : Nat → Nat → Int32) (sz : Nat) (pc tl nw : Int32) (hI : CI F) (h_sz : (F 2).toInt < 6) : Met l y_Rb_add w_Rb_add ({ frames := 0, cells := 0, slots := 0, locals := 0 }) (va_Pc [.ref (r 1), .int pc, .int tl, .int nw] (SP (dC, dI) (wC r k F A) (tC k) sz)) (va_Qi (fun v (u : SC) => (v, u) = f_Rb_add F A pc tl nw) (fun (u : SC) t => aW (dC, dI) (tC k) (va_A (wC r k F A) sz) (wC r k u.1 u.2) t) (va_A (wC r k F A) sz)) 0 0 (va_A (wC r k F A) sz) := by
  refine Met.ofW (cc := b_Rb_add) (maxL := 5) (ret := (some .int)) (by decide) rfl ?_
  intro p e s m args below meth c s₁ B hml hv0
  obtain ⟨rfl, hsz, hP, hK, hD0⟩ := hv0
  have hx := B.exec
  have hb := B.bytes
  have hr := B.returns
  have hts := atoms_spec (ws := w_Rb_add) B.pre
  have hW : ∀ w ∈ WALL, w.before ([.ref (r 1), .int pc, .int tl, .int nw] : List Value).toArray s = true := fun w h => hts w (List.mem_cons_of_mem _ h)
  have hown : s.vm.findClass R_Rb = some m.cls := findClass_of_methodNamed B.named
  have hlocks := B.notSynchronized
  subst hsz
  have hD := hD0.self (sz := s.heap.size)
  generalize hAe : va_A (wC r k F A) s.heap.size = Ad at hD ⊢
  have hA : ∀ q : Nat, s.heap.size ≤ q → Ad q := fun q h => by rw [← hAe]; exact Or.inr h
  have hS : va_S Ad s.heap s.heap [] := va_S.rf
  have hl := lv_entry ([.ref (r 1), .int pc, .int tl, .int nw]) (n := 5) (Nat.le_of_ble_eq_true rfl)
  rw [lg_entry_eq]
  generalize (lg_sl ([.ref (r 1), .int pc, .int tl, .int nw]) ++ List.replicate (5 - (lg_sl ([.ref (r 1), .int pc, .int tl, .int nw])).length) Slot.unset).toArray = ls at hl ⊢
  have hl : lv_has ls 5 [(0, .ref (r 1)), (1, .int pc), (2, .int tl), (3, .int nw)] := hl
  obtain ⟨⟨hp0, hp1⟩, ⟨hr0, hr1⟩, hg0, hg1⟩ := id hI; have hr2 : (F 2).toInt ≤ 60 := Int.le_trans hr1 (by decide)
  have hv := f_Rb_add.eq_1 F A pc tl nw
  refine lv_aload_n hx hb d_Rb_add_0 rfl (lv_at hl 0 rfl) ?_
  refine va_get (D := (dC, dI)) (ci := 1) (v := .int (F 2)) (C := R_Rb) (T := F_Rb) (N := 7) hx hb hW i_Rb hown hK hP 1 rfl rfl 0 (by decide) (hW _ k_22) (fun _ h9 => h9) rfl d_Rb_add_1 ?_
  refine lv_istore (lv' := [(4, .int (F 2)), (0, .ref (r 1)), (1, .int pc), (2, .int tl), (3, .int nw)]) hx hb d_Rb_add_4 hl (by decide) rfl (fun ls hl => ?_)
  refine lv_aload_n hx hb d_Rb_add_6 rfl (lv_at hl 1 rfl) ?_
  refine va_get (D := (dC, dI)) (ci := 1) (v := .ref (r 5)) (C := R_Rb) (T := F_Rb) (N := 7) hx hb hW i_Rb hown hK hP 1 rfl rfl 1 (by decide) (hW _ k_23) (fun _ h9 => h9) rfl d_Rb_add_7 ?_
  refine lv_iload hx hb d_Rb_add_10 (lv_at hl 0 rfl) ?_
  refine lv_iload_n hx hb d_Rb_add_12 rfl (lv_at hl 2 rfl) ?_
  refine va_iast hx hb hK hP hD hS 5 2 rfl rfl (ixN hr0 h_sz) d_Rb_add_13 (fun H locs hP hD hS => ?_)
  have hP := pCA_2 hP
  have hD := dCA_2 hD
  generalize hAg1 : (uA A 2 (upd (A 2) (F 2).toNatClampNeg pc)) = A1_ at hP hD hv
  refine lv_aload_n hx hb d_Rb_add_14 rfl (lv_at hl 1 rfl) ?_
  refine va_get (D := (dC, dI)) (ci := 1) (v := .ref (r 6)) (C := R_Rb) (T := F_Rb) (N := 7) hx hb hW i_Rb hown hK hP 1 rfl rfl 2 (by decide) (hW _ k_25) (fun _ h9 => h9) rfl d_Rb_add_15 ?_
  refine lv_iload hx hb d_Rb_add_18 (lv_at hl 0 rfl) ?_
  refine lv_iload_n hx hb d_Rb_add_20 rfl (lv_at hl 3 rfl) ?_
  refine va_zast hx hb hK hP hD hS 6 3 rfl rfl (ixN hr0 h_sz) d_Rb_add_21 (fun H locs hP hD hS => ?_)
  have hP := pCA_3 hP
  have hD := dCA_3 hD
  generalize hAg2 : (uA A1_ 3 (upd (A1_ 3) (F 2).toNatClampNeg (vp_nar .boolean tl))) = A2_ at hP hD hv
  refine lv_aload_n hx hb d_Rb_add_22 rfl (lv_at hl 1 rfl) ?_
  refine va_get (D := (dC, dI)) (ci := 1) (v := .ref (r 7)) (C := R_Rb) (T := F_Rb) (N := 7) hx hb hW i_Rb hown hK hP 1 rfl rfl 3 (by decide) (hW _ k_24) (fun _ h9 => h9) rfl d_Rb_add_23 ?_
  refine lv_iload hx hb d_Rb_add_26 (lv_at hl 0 rfl) ?_
  refine lv_iconst (v := (-1)) hx hb d_Rb_add_28 (by decide) ?_
  refine va_iast hx hb hK hP hD hS 7 4 rfl rfl (ixN hr0 h_sz) d_Rb_add_29 (fun H locs hP hD hS => ?_)
  have hP := pCA_4 hP
  have hD := dCA_4 hD
  generalize hAg3 : (uA A2_ 4 (upd (A2_ 4) (F 2).toNatClampNeg (-1))) = A3_ at hP hD hv
  refine lv_aload_n hx hb d_Rb_add_30 rfl (lv_at hl 1 rfl) ?_
  refine va_get (D := (dC, dI)) (ci := 1) (v := .ref (r 8)) (C := R_Rb) (T := F_Rb) (N := 7) hx hb hW i_Rb hown hK hP 1 rfl rfl 4 (by decide) (hW _ k_26) (fun _ h9 => h9) rfl d_Rb_add_31 ?_
  refine lv_iload hx hb d_Rb_add_34 (lv_at hl 0 rfl) ?_
  refine lv_iconst (v := (-1)) hx hb d_Rb_add_36 (by decide) ?_
  refine va_iast hx hb hK hP hD hS 8 5 rfl rfl (ixN hr0 h_sz) d_Rb_add_37 (fun H locs hP hD hS => ?_)
  have hP := pCA_5 hP
  have hD := dCA_5 hD
  generalize hAg4 : (uA A3_ 5 (upd (A3_ 5) (F 2).toNatClampNeg (-1))) = A4_ at hP hD hv
  refine lv_aload_n hx hb d_Rb_add_38 rfl (lv_at hl 1 rfl) ?_
  refine va_get (D := (dC, dI)) (ci := 1) (v := .ref (r 9)) (C := R_Rb) (T := F_Rb) (N := 7) hx hb hW i_Rb hown hK hP 1 rfl rfl 5 (by decide) (hW _ k_27) (fun _ h9 => h9) rfl d_Rb_add_39 ?_
  refine lv_iload hx hb d_Rb_add_42 (lv_at hl 0 rfl) ?_
  refine lv_iconst (v := 0) hx hb d_Rb_add_44 (by decide) ?_
  refine va_zast hx hb hK hP hD hS 9 6 rfl rfl (ixN hr0 h_sz) d_Rb_add_45 (fun H locs hP hD hS => ?_)
  have hP := pCA_6 hP
  have hD := dCA_6 hD
  generalize hAg5 : (uA A4_ 6 (upd (A4_ 6) (F 2).toNatClampNeg (vp_nar .boolean 0))) = A5_ at hP hD hv
  refine lv_aload_n hx hb d_Rb_add_46 rfl (lv_at hl 1 rfl) ?_
  refine va_get (D := (dC, dI)) (ci := 1) (v := .ref (r 10)) (C := R_Rb) (T := F_Rb) (N := 7) hx hb hW i_Rb hown hK hP 1 rfl rfl 6 (by decide) (hW _ k_28) (fun _ h9 => h9) rfl d_Rb_add_47 ?_
  refine lv_iload hx hb d_Rb_add_50 (lv_at hl 0 rfl) ?_
  refine lv_iload_n hx hb d_Rb_add_52 rfl (lv_at hl 4 rfl) ?_
  refine va_iast hx hb hK hP hD hS 10 7 rfl rfl (ixN hr0 h_sz) d_Rb_add_53 (fun H locs hP hD hS => ?_)
  have hP := pCA_7 hP
  have hD := dCA_7 hD
  generalize hAg6 : (uA A5_ 7 (upd (A5_ 7) (F 2).toNatClampNeg nw)) = A6_ at hP hD hv
  refine lv_aload_n hx hb d_Rb_add_54 rfl (lv_at hl 1 rfl) ?_
  refine lv_dup hx hb d_Rb_add_55 rfl ?_
  refine va_get (D := (dC, dI)) (ci := 1) (v := .int (F 2)) (C := R_Rb) (T := F_Rb) (N := 7) hx hb hW i_Rb hown hK hP 1 rfl rfl 0 (by decide) (hW _ k_22) (fun _ h9 => h9) rfl d_Rb_add_56 ?_
  refine lv_iconst (v := 1) hx hb d_Rb_add_59 (by decide) ?_
  refine lv_iadd hx hb d_Rb_add_60 ?_
  refine va_put (D := (dC, dI)) (ci := 1) (v := .int ((F 2) + 1)) (ty := .int) (C := R_Rb) (T := F_Rb) (N := 7) hx hb hW i_Rb t_Rb t_Rb_ok n_Rb hown hK hP hD hS 1 rfl rfl 0 (by decide) (hW _ k_22) (fun _ h9 => h9) rfl (by decide +kernel) rfl rfl (Nat.le_of_ble_eq_true rfl) d_Rb_add_61 (fun H locs hP hD hS => ?_)
  have hP := pCF_2 hP
  have hD := dCF_2 hD
  refine lv_iload hx hb d_Rb_add_64 (lv_at hl 0 rfl) ?_
  exact W.iret (v := F 2) hx hb hr (fun t ht hW9 => ⟨⟨F 2, ((uF F 2 ((F 2) + 1)), A6_), rfl, hv.symm, by rw [ht]; exact hP, va_K.moved hW9.alike hK, hD⟩, hS.F ht⟩) hS.2.2 d_Rb_add_66
def f_RS_robot (F : Nat → Int32) (A : Nat → Nat → Int32) (pc tl : Int32) : Nat × Int32 × SC := if f_RS_needPiece F A pc = 0 then (if A 1 pc.toNatClampNeg = 0 then (if f_Rb_standingOn F A pc = (-1) then (if F 2 < 6 then (0, (f_Rb_add F A pc tl (F 0)).1, ((f_Rb_add F A pc tl (F 0)).2.1), ((f_Rb_add F A pc tl (F 0)).2.2)) else (4, 0, F, A)) else (3, 0, F, A)) else (3, 0, F, A)) else (f_RS_needPiece F A pc, 0, F, A)
set_option maxHeartbeats 4000000 in
set_option maxRecDepth 100000 in
theorem c_RS_robot_k (l : Launch) (dC : Nat → ClassId) (dI : Nat → Nat → Nat) (r : Nat → Nat) (k : Nat → ClassId) (F : Nat → Int32) (A : Nat → Nat → Int32) (sz : Nat) (pc tl : Int32) (hI : CI F) (hk : (f_RS_robot F A pc tl).1 = 0) : Met l y_RS_robot w_RS_robot ({ frames := 1, cells := 0, slots := 0, locals := 24 }) (va_Pc [.ref (r 0), .int pc, .int tl] (SP (dC, dI) (wC r k F A) (tC k) sz)) (va_Qi (fun v (u : SC) => (0, v, u) = f_RS_robot F A pc tl) (fun (u : SC) t => aW (dC, dI) (tC k) (va_A (wC r k F A) sz) (wC r k u.1 u.2) t) (va_A (wC r k F A) sz)) 0 0 (va_A (wC r k F A) sz) := by
  refine Met.ofW (cc := b_RS_robot) (maxL := 3) (ret := (some .int)) (by decide) rfl ?_
  intro p e s m args below meth c s₁ B hml hv0
  obtain ⟨rfl, hsz, hP, hK, hD0⟩ := hv0
  have hx := B.exec
  have hb := B.bytes
  have hr := B.returns
  have hts := atoms_spec (ws := w_RS_robot) B.pre
  have hW : ∀ w ∈ WALL, w.before ([.ref (r 0), .int pc, .int tl] : List Value).toArray s = true := fun w h => hts w (List.mem_cons_of_mem _ h)
  have hown : s.vm.findClass R_RS = some m.cls := findClass_of_methodNamed B.named
  have hlocks := B.notSynchronized
  subst hsz
  have hD := hD0.self (sz := s.heap.size)
  generalize hAe : va_A (wC r k F A) s.heap.size = Ad at hD ⊢
  have hA : ∀ q : Nat, s.heap.size ≤ q → Ad q := fun q h => by rw [← hAe]; exact Or.inr h
  have hS : va_S Ad s.heap s.heap [] := va_S.rf
  have hl := lv_entry ([.ref (r 0), .int pc, .int tl]) (n := 3) (Nat.le_of_ble_eq_true rfl)
  rw [lg_entry_eq]
  generalize (lg_sl ([.ref (r 0), .int pc, .int tl]) ++ List.replicate (3 - (lg_sl ([.ref (r 0), .int pc, .int tl])).length) Slot.unset).toArray = ls at hl ⊢
  have hl : lv_has ls 3 [(0, .ref (r 0)), (1, .int pc), (2, .int tl)] := hl
  obtain ⟨⟨hp0, hp1⟩, ⟨hr0, hr1⟩, hg0, hg1⟩ := id hI; have hr2 : (F 2).toInt ≤ 60 := Int.le_trans hr1 (by decide)
  have hv := f_RS_robot.eq_1 F A pc tl
  refine lv_aload_n hx hb d_RS_robot_0 rfl (lv_at hl 0 rfl) ?_
  refine lv_iload_n hx hb d_RS_robot_1 rfl (lv_at hl 1 rfl) ?_
  by_cases c_1 : f_RS_needPiece F A pc = 0
  · have hv := hv.trans (if_pos c_1)
    refine rdVv ⟨hx, hb, hml, hown, hW⟩ (c_RS_needPiece_k l dC dI r k F A pc   c_1) (cwV 1 hW (gIn k_12 k_13 k_14 k_15 k_16) rfl rfl rfl (by decide +kernel) ⟨Nat.le_of_ble_eq_true rfl, Nat.le_of_ble_eq_true rfl⟩) hK hP (va_recv hK hP (ci := 0) (q0 := 0) rfl rfl) rfl hl.1 rfl (Nat.le_of_ble_eq_true rfl) d_RS_robot_2 ⟨Nat.zero_le _, Nat.zero_le _⟩ ?_
    refine lv_aload_n hx hb d_RS_robot_5 rfl (lv_at hl 0 rfl) ?_
    refine va_get (D := (dC, dI)) (ci := 0) (v := .ref (r 4)) (C := R_RS) (T := F_RS) (N := 6) hx hb hW i_RS hown hK hP 0 rfl rfl 3 (by decide) (hW _ k_29) (fun _ h9 => h9) rfl d_RS_robot_6 ?_
    refine lv_iload_n hx hb d_RS_robot_9 rfl (lv_at hl 1 rfl) ?_
    refine va_zald hx hb hK hP 4 1 rfl rfl (ixP hI c_1) d_RS_robot_10 ?_
    refine lv_if_ne (tgt := 26) hx hb d_RS_robot_11 (by decide) (fun c_2 => ?_) (fun c_2 => ?_)
    · have hv := hv.trans (if_neg c_2)
      rw [hv] at hk
      exact absurd (show (3 : Nat) = 0 from hk) (by decide)
    · have hv := hv.trans (if_pos c_2)
      refine lv_aload_n hx hb d_RS_robot_14 rfl (lv_at hl 0 rfl) ?_
      refine va_get (D := (dC, dI)) (ci := 0) (v := .ref (r 1)) (C := R_RS) (T := F_RS) (N := 6) hx hb hW i_RS hown hK hP 0 rfl rfl 4 (by decide) (hW _ k_3) (fun _ h9 => h9) rfl d_RS_robot_15 ?_
      refine lv_iload_n hx hb d_RS_robot_18 rfl (lv_at hl 1 rfl) ?_
      refine rdV ⟨hx, hb, hml, hown, hW⟩ (c_Rb_standingOn l dC dI r k F A pc hI ) (cwV 1 hW (gIn k_30 k_31 k_32 k_33 k_34) rfl rfl rfl (by decide +kernel) ⟨Nat.le_of_ble_eq_true rfl, Nat.le_of_ble_eq_true rfl⟩) hK hP (va_recv hK hP (ci := 1) (q0 := 1) rfl rfl) rfl hl.1 rfl (Nat.le_of_ble_eq_true rfl) d_RS_robot_19 ⟨Nat.zero_le _, Nat.zero_le _⟩ ?_
      refine lv_iconst (v := (-1)) hx hb d_RS_robot_22 (by decide) ?_
      refine lv_icmp_eq (tgt := 36) hx hb d_RS_robot_23 (by decide) (fun c_3 => ?_) (fun c_3 => ?_)
      · have hv := hv.trans (if_pos c_3)
        refine lv_aload_n hx hb d_RS_robot_36 rfl (lv_at hl 0 rfl) ?_
        refine va_get (D := (dC, dI)) (ci := 0) (v := .ref (r 1)) (C := R_RS) (T := F_RS) (N := 6) hx hb hW i_RS hown hK hP 0 rfl rfl 4 (by decide) (hW _ k_3) (fun _ h9 => h9) rfl d_RS_robot_37 ?_
        refine va_get (D := (dC, dI)) (ci := 1) (v := .int (F 2)) (C := R_Rb) (T := F_Rb) (N := 7) hx hb hW i_Rb hown hK hP 1 rfl rfl 0 (by decide) (hW _ k_4) (fun _ h9 => h9) rfl d_RS_robot_40 ?_
        refine lv_bipush (v := 6) hx hb d_RS_robot_43 (by decide) ?_
        refine lv_icmp_lt (tgt := 58) hx hb d_RS_robot_45 (by decide) (fun c_4 => ?_) (fun c_4 => ?_)
        · have hv := hv.trans (if_pos c_4)
          refine lv_aload_n hx hb d_RS_robot_58 rfl (lv_at hl 0 rfl) ?_
          refine va_get (D := (dC, dI)) (ci := 0) (v := .ref (r 1)) (C := R_RS) (T := F_RS) (N := 6) hx hb hW i_RS hown hK hP 0 rfl rfl 4 (by decide) (hW _ k_3) (fun _ h9 => h9) rfl d_RS_robot_59 ?_
          refine lv_iload_n hx hb d_RS_robot_62 rfl (lv_at hl 1 rfl) ?_
          refine lv_iload_n hx hb d_RS_robot_63 rfl (lv_at hl 2 rfl) ?_
          refine lv_aload_n hx hb d_RS_robot_64 rfl (lv_at hl 0 rfl) ?_
          refine va_get (D := (dC, dI)) (ci := 0) (v := .int (F 0)) (C := R_RS) (T := F_RS) (N := 6) hx hb hW i_RS hown hK hP 0 rfl rfl 0 (by decide) (hW _ k_7) (fun _ h9 => h9) rfl d_RS_robot_65 ?_
          refine stVi (wf := fun u : SC => wC r k u.1 u.2) ⟨hx, hb, hml, hown, hW⟩ (c_Rb_add l dC dI r k F A _ pc tl (F 0) hI (ixO c_4)) (cwV 3 hW (gIn k_35 k_36 k_37 k_33 k_38) rfl rfl rfl (by decide +kernel) ⟨Nat.le_of_ble_eq_true rfl, Nat.le_of_ble_eq_true rfl⟩) hK hP hD hS hA (va_recv hK hP (ci := 1) (q0 := 1) rfl rfl) rfl hl.1 rfl (Nat.le_of_ble_eq_true rfl) d_RS_robot_68 ⟨Nat.zero_le _, Nat.zero_le _⟩ (fun H locs hP hD hS => ?_)
          have hP : va_P (dC, dI) classes (wC r k ((f_Rb_add F A pc tl (F 0)).2.1) ((f_Rb_add F A pc tl (F 0)).2.2)) H := hP
          have hD : va_D Ad (wC r k ((f_Rb_add F A pc tl (F 0)).2.1) ((f_Rb_add F A pc tl (F 0)).2.2)) := hD
          exact W.iret (v := (f_Rb_add F A pc tl (F 0)).1) hx hb hr (fun t ht hW9 => ⟨⟨(f_Rb_add F A pc tl (F 0)).1, (((f_Rb_add F A pc tl (F 0)).2.1), ((f_Rb_add F A pc tl (F 0)).2.2)), rfl, hv.symm, by rw [ht]; exact hP, va_K.moved hW9.alike hK, hD⟩, hS.F ht⟩) hS.2.2 d_RS_robot_71
        · have hv := hv.trans (if_neg c_4)
          rw [hv] at hk
          exact absurd (show (4 : Nat) = 0 from hk) (by decide)
      · have hv := hv.trans (if_neg c_3)
        rw [hv] at hk
        exact absurd (show (3 : Nat) = 0 from hk) (by decide)
  · have hv := hv.trans (if_neg c_1)
    rw [hv] at hk
    exact absurd hk c_1
set_option maxHeartbeats 4000000 in
set_option maxRecDepth 100000 in
theorem c_RS_robot_x (l : Launch) (hl9 : l.stackTraces = false) (dC : Nat → ClassId) (dI : Nat → Nat → Nat) (r : Nat → Nat) (k : Nat → ClassId) (F : Nat → Int32) (A : Nat → Nat → Int32) (sz : Nat) (pc tl : Int32) (hI : CI F) (hk : ¬ (f_RS_robot F A pc tl).1 = 0) : vx_Met l y_RS_robot w_RS_robot ({ frames := 7, cells := 1, slots := 6, locals := 103 }) (va_Pc [.ref (r 0), .int pc, .int tl] (XP (dC, dI) (wC r k F A) (tC k) sz)) (va_Qi (fun _ (_ : SC) => False) (fun (u : SC) t => aW (dC, dI) (tC k) (va_A (wC r k F A) sz) (wC r k u.1 u.2) t) (va_A (wC r k F A) sz)) (vx_X (fun u : Nat => f_RS_robot F A pc tl = (u, 0, F, A)) (fun E u t => E = exN u ∧ aW (dC, dI) (tC k) (va_A (wC r k F A) sz) (wC r k F A) t) (va_A (wC r k F A) sz)) 1 6 (va_A (wC r k F A) sz) := by
  refine vx_ofW (cc := b_RS_robot) (maxL := 3) (ret := (some .int)) (by decide) rfl ?_
  intro p e s m args below meth c s₁ B hml hEx hv0
  obtain ⟨rfl, ⟨hsz, hP, hK, hD0⟩, hXS⟩ := hv0
  have hx := B.exec
  have hb := B.bytes
  have hr := B.returns
  have hts := atoms_spec (ws := w_RS_robot) B.pre
  have hW : ∀ w ∈ WALL, w.before ([.ref (r 0), .int pc, .int tl] : List Value).toArray s = true := fun w h => hts w (List.mem_cons_of_mem _ h)
  have hown : s.vm.findClass R_RS = some m.cls := findClass_of_methodNamed B.named
  have hlocks := B.notSynchronized
  subst hsz
  have hD := hD0.self (sz := s.heap.size)
  generalize hAe : va_A (wC r k F A) s.heap.size = Ad at hD hXS ⊢
  have hA : ∀ q : Nat, s.heap.size ≤ q → Ad q := fun q h => by rw [← hAe]; exact Or.inr h
  have hS : va_S Ad s.heap s.heap [] := va_S.rf
  have hl := lv_entry ([.ref (r 0), .int pc, .int tl]) (n := 3) (Nat.le_of_ble_eq_true rfl)
  rw [lg_entry_eq]
  generalize (lg_sl ([.ref (r 0), .int pc, .int tl]) ++ List.replicate (3 - (lg_sl ([.ref (r 0), .int pc, .int tl])).length) Slot.unset).toArray = ls at hl ⊢
  have hl : lv_has ls 3 [(0, .ref (r 0)), (1, .int pc), (2, .int tl)] := hl
  obtain ⟨⟨hp0, hp1⟩, ⟨hr0, hr1⟩, hg0, hg1⟩ := id hI; have hr2 : (F 2).toInt ≤ 60 := Int.le_trans hr1 (by decide)
  have hv := f_RS_robot.eq_1 F A pc tl
  refine lv_aload_n hx hb d_RS_robot_0 rfl (lv_at hl 0 rfl) ?_
  refine lv_iload_n hx hb d_RS_robot_1 rfl (lv_at hl 1 rfl) ?_
  by_cases c_1 : f_RS_needPiece F A pc = 0
  · have hv := hv.trans (if_pos c_1)
    refine rdVv ⟨hx, hb, hml, hown, hW⟩ (c_RS_needPiece_k l dC dI r k F A pc   c_1) (cwV 1 hW (gIn k_12 k_13 k_14 k_15 k_16) rfl rfl rfl (by decide +kernel) ⟨Nat.le_of_ble_eq_true rfl, Nat.le_of_ble_eq_true rfl⟩) hK hP (va_recv hK hP (ci := 0) (q0 := 0) rfl rfl) rfl hl.1 rfl (Nat.le_of_ble_eq_true rfl) d_RS_robot_2 ⟨Nat.zero_le _, Nat.zero_le _⟩ ?_
    refine lv_aload_n hx hb d_RS_robot_5 rfl (lv_at hl 0 rfl) ?_
    refine va_get (D := (dC, dI)) (ci := 0) (v := .ref (r 4)) (C := R_RS) (T := F_RS) (N := 6) hx hb hW i_RS hown hK hP 0 rfl rfl 3 (by decide) (hW _ k_29) (fun _ h9 => h9) rfl d_RS_robot_6 ?_
    refine lv_iload_n hx hb d_RS_robot_9 rfl (lv_at hl 1 rfl) ?_
    refine va_zald hx hb hK hP 4 1 rfl rfl (ixP hI c_1) d_RS_robot_10 ?_
    refine lv_if_ne (tgt := 26) hx hb d_RS_robot_11 (by decide) (fun c_2 => ?_) (fun c_2 => ?_)
    · have hv := hv.trans (if_neg c_2)
      exact thr hx hb hl9 hown hW hXS tw_7 hS (hl.1.trans hml.symm) d_RS_robot_26 d_RS_robot_29 d_RS_robot_30 d_RS_robot_32 d_RS_robot_35 hEx (Nat.le_of_ble_eq_true rfl) (Nat.le_of_ble_eq_true rfl) (Nat.le_of_ble_eq_true rfl) (Nat.le_of_ble_eq_true rfl) hlocks (fun t ha hsz hk9 => ⟨3, hv, ⟨rfl, hP.kept (fun k9 q hq => hk9 q.1 (hP k9 q hq).lt), va_K.moved ha hK, hD⟩, Nat.le_trans hS.1 hsz, fun q h1 h2 => (hk9 q (Nat.lt_of_lt_of_le h1 hS.1)).trans (hS.2.1 q h1 h2)⟩) hS.2.2 (Nat.le_of_ble_eq_true rfl) (Nat.le_of_ble_eq_true rfl)
    · have hv := hv.trans (if_pos c_2)
      refine lv_aload_n hx hb d_RS_robot_14 rfl (lv_at hl 0 rfl) ?_
      refine va_get (D := (dC, dI)) (ci := 0) (v := .ref (r 1)) (C := R_RS) (T := F_RS) (N := 6) hx hb hW i_RS hown hK hP 0 rfl rfl 4 (by decide) (hW _ k_3) (fun _ h9 => h9) rfl d_RS_robot_15 ?_
      refine lv_iload_n hx hb d_RS_robot_18 rfl (lv_at hl 1 rfl) ?_
      refine rdV ⟨hx, hb, hml, hown, hW⟩ (c_Rb_standingOn l dC dI r k F A pc hI ) (cwV 1 hW (gIn k_30 k_31 k_32 k_33 k_34) rfl rfl rfl (by decide +kernel) ⟨Nat.le_of_ble_eq_true rfl, Nat.le_of_ble_eq_true rfl⟩) hK hP (va_recv hK hP (ci := 1) (q0 := 1) rfl rfl) rfl hl.1 rfl (Nat.le_of_ble_eq_true rfl) d_RS_robot_19 ⟨Nat.zero_le _, Nat.zero_le _⟩ ?_
      refine lv_iconst (v := (-1)) hx hb d_RS_robot_22 (by decide) ?_
      refine lv_icmp_eq (tgt := 36) hx hb d_RS_robot_23 (by decide) (fun c_3 => ?_) (fun c_3 => ?_)
      · have hv := hv.trans (if_pos c_3)
        refine lv_aload_n hx hb d_RS_robot_36 rfl (lv_at hl 0 rfl) ?_
        refine va_get (D := (dC, dI)) (ci := 0) (v := .ref (r 1)) (C := R_RS) (T := F_RS) (N := 6) hx hb hW i_RS hown hK hP 0 rfl rfl 4 (by decide) (hW _ k_3) (fun _ h9 => h9) rfl d_RS_robot_37 ?_
        refine va_get (D := (dC, dI)) (ci := 1) (v := .int (F 2)) (C := R_Rb) (T := F_Rb) (N := 7) hx hb hW i_Rb hown hK hP 1 rfl rfl 0 (by decide) (hW _ k_4) (fun _ h9 => h9) rfl d_RS_robot_40 ?_
        refine lv_bipush (v := 6) hx hb d_RS_robot_43 (by decide) ?_
        refine lv_icmp_lt (tgt := 58) hx hb d_RS_robot_45 (by decide) (fun c_4 => ?_) (fun c_4 => ?_)
        · have hv := hv.trans (if_pos c_4)
          exact (hk ((congrArg Prod.fst hv).trans (by first | rfl | ((repeat' split) <;> (first | rfl | exact cd_next_L _ _ _ _ _ _ _))))).elim
        · have hv := hv.trans (if_neg c_4)
          exact thr hx hb hl9 hown hW hXS tw_8 hS (hl.1.trans hml.symm) d_RS_robot_48 d_RS_robot_51 d_RS_robot_52 d_RS_robot_54 d_RS_robot_57 hEx (Nat.le_of_ble_eq_true rfl) (Nat.le_of_ble_eq_true rfl) (Nat.le_of_ble_eq_true rfl) (Nat.le_of_ble_eq_true rfl) hlocks (fun t ha hsz hk9 => ⟨4, hv, ⟨rfl, hP.kept (fun k9 q hq => hk9 q.1 (hP k9 q hq).lt), va_K.moved ha hK, hD⟩, Nat.le_trans hS.1 hsz, fun q h1 h2 => (hk9 q (Nat.lt_of_lt_of_le h1 hS.1)).trans (hS.2.1 q h1 h2)⟩) hS.2.2 (Nat.le_of_ble_eq_true rfl) (Nat.le_of_ble_eq_true rfl)
      · have hv := hv.trans (if_neg c_3)
        exact thr hx hb hl9 hown hW hXS tw_7 hS (hl.1.trans hml.symm) d_RS_robot_26 d_RS_robot_29 d_RS_robot_30 d_RS_robot_32 d_RS_robot_35 hEx (Nat.le_of_ble_eq_true rfl) (Nat.le_of_ble_eq_true rfl) (Nat.le_of_ble_eq_true rfl) (Nat.le_of_ble_eq_true rfl) hlocks (fun t ha hsz hk9 => ⟨3, hv, ⟨rfl, hP.kept (fun k9 q hq => hk9 q.1 (hP k9 q hq).lt), va_K.moved ha hK, hD⟩, Nat.le_trans hS.1 hsz, fun q h1 h2 => (hk9 q (Nat.lt_of_lt_of_le h1 hS.1)).trans (hS.2.1 q h1 h2)⟩) hS.2.2 (Nat.le_of_ble_eq_true rfl) (Nat.le_of_ble_eq_true rfl)
  · have hv := hv.trans (if_neg c_1)
    refine gdV ⟨hx, hb, hml, hown, hW⟩ (c_RS_needPiece_x l hl9 dC dI r k F A _ pc   c_1) (cwV 1 hW (gIn k_12 k_13 k_14 k_15 k_16) rfl rfl rfl (by decide +kernel) ⟨Nat.le_of_ble_eq_true rfl, Nat.le_of_ble_eq_true rfl⟩) hK hP hXS hA (va_recv hK hP (ci := 0) (q0 := 0) rfl rfl) hS rfl hl.1 rfl (Nat.le_of_ble_eq_true rfl) d_RS_robot_2 ⟨Nat.le_of_ble_eq_true rfl, Nat.le_of_ble_eq_true rfl⟩ (fun H locs q9 ce hP hS hce hcv hcl => ?_)
    exact vx_out (E := exN (f_RS_needPiece F A pc)) (fun x hx => (hEx x hx).elim) hlocks hce hcv hcl (fun t ht ha => ⟨f_RS_needPiece F A pc, hv, ⟨rfl, by rw [ht]; exact hP, va_K.moved ha hK, hD⟩, hS.F ht⟩) hS.2.2 (Nat.le_of_ble_eq_true rfl) (Nat.le_of_ble_eq_true rfl)
def f_Rb_isSilent (F : Nat → Int32) (A : Nat → Nat → Int32) (rb nw : Int32) : Int32 := if nw - (A 7 rb.toNatClampNeg) ≤ 30 then 0 else 1
set_option maxHeartbeats 4000000 in
set_option maxRecDepth 100000 in
theorem c_Rb_isSilent (l : Launch) (dC : Nat → ClassId) (dI : Nat → Nat → Nat) (r : Nat → Nat) (k : Nat → ClassId) (F : Nat → Int32) (A : Nat → Nat → Int32) (rb nw : Int32) (hI : CI F) (h_rb : vp_in rb 6) : Met l y_Rb_isSilent w_Rb_isSilent ({ frames := 0, cells := 0, slots := 0, locals := 0 }) (va_Pc [.ref (r 1), .int rb, .int nw] (RO (dC, dI) (wC r k F A) (tC k))) (vp_Si (fun v => v = f_Rb_isSilent F A rb nw)) 0 0 (fun _ => False) := by
  refine Met.ofW (cc := b_Rb_isSilent) (maxL := 3) (ret := (some .boolean)) (by decide) rfl ?_
  intro p e s m args below meth c s₁ B hml hv0
  obtain ⟨rfl, hP, hK⟩ := hv0
  have hx := B.exec
  have hb := B.bytes
  have hr := B.returns
  have hts := atoms_spec (ws := w_Rb_isSilent) B.pre
  have hW : ∀ w ∈ WALL, w.before ([.ref (r 1), .int rb, .int nw] : List Value).toArray s = true := fun w h => hts w (List.mem_cons_of_mem _ h)
  have hown : s.vm.findClass R_Rb = some m.cls := findClass_of_methodNamed B.named
  have hlocks := B.notSynchronized
  have hl := lv_entry ([.ref (r 1), .int rb, .int nw]) (n := 3) (Nat.le_of_ble_eq_true rfl)
  rw [lg_entry_eq]
  generalize (lg_sl ([.ref (r 1), .int rb, .int nw]) ++ List.replicate (3 - (lg_sl ([.ref (r 1), .int rb, .int nw])).length) Slot.unset).toArray = ls at hl ⊢
  have hl : lv_has ls 3 [(0, .ref (r 1)), (1, .int rb), (2, .int nw)] := hl
  obtain ⟨⟨hp0, hp1⟩, ⟨hr0, hr1⟩, hg0, hg1⟩ := id hI; have hr2 : (F 2).toInt ≤ 60 := Int.le_trans hr1 (by decide)
  have hv := f_Rb_isSilent.eq_1 F A rb nw
  refine lv_iload_n hx hb d_Rb_isSilent_0 rfl (lv_at hl 2 rfl) ?_
  refine lv_aload_n hx hb d_Rb_isSilent_1 rfl (lv_at hl 0 rfl) ?_
  refine va_get (D := (dC, dI)) (ci := 1) (v := .ref (r 10)) (C := R_Rb) (T := F_Rb) (N := 7) hx hb hW i_Rb hown hK hP 1 rfl rfl 6 (by decide) (hW _ k_28) (fun _ h9 => h9) rfl d_Rb_isSilent_2 ?_
  refine lv_iload_n hx hb d_Rb_isSilent_5 rfl (lv_at hl 1 rfl) ?_
  refine va_iald hx hb hK hP 10 7 rfl rfl h_rb d_Rb_isSilent_6 ?_
  refine lv_isub hx hb d_Rb_isSilent_7 ?_
  refine lv_bipush (v := 30) hx hb d_Rb_isSilent_8 (by decide) ?_
  refine lv_icmp_le (tgt := 17) hx hb d_Rb_isSilent_10 (by decide) (fun c_1 => ?_) (fun c_1 => ?_)
  · have hv := hv.trans (if_pos c_1)
    refine lv_iconst (v := 0) hx hb d_Rb_isSilent_17 (by decide) ?_
    exact W.zret (v := 0) (ty := .boolean) hx hb hr rfl (fun t ht hW9 => ⟨0, rfl, hv.symm, ht⟩) (fun q hq => nomatch hq) d_Rb_isSilent_18
  · have hv := hv.trans (if_neg c_1)
    refine lv_iconst (v := 1) hx hb d_Rb_isSilent_13 (by decide) ?_
    refine lv_goto (tgt := 18) hx hb d_Rb_isSilent_14 (by decide) ?_
    exact W.zret (v := 1) (ty := .boolean) hx hb hr rfl (fun t ht hW9 => ⟨1, rfl, hv.symm, ht⟩) (fun q hq => nomatch hq) d_Rb_isSilent_18
theorem b01_f_Rb_isSilent (F : Nat → Int32) (A : Nat → Nat → Int32) (rb nw : Int32) : f_Rb_isSilent F A rb nw = 0 ∨ f_Rb_isSilent F A rb nw = 1 := by
  unfold f_Rb_isSilent
  repeat' split
  all_goals first | exact Or.inl rfl | exact Or.inr rfl
def f_RS_needActive (F : Nat → Int32) (A : Nat → Nat → Int32) (rb : Int32) : Nat := if A 6 rb.toNatClampNeg = 0 then (if f_Rb_isSilent F A rb (F 0) = 0 then 0 else 3) else 3
set_option maxHeartbeats 4000000 in
set_option maxRecDepth 100000 in
theorem c_RS_needActive_k (l : Launch) (dC : Nat → ClassId) (dI : Nat → Nat → Nat) (r : Nat → Nat) (k : Nat → ClassId) (F : Nat → Int32) (A : Nat → Nat → Int32) (rb : Int32) (hI : CI F) (h_rb : vp_in rb 6) (hk : f_RS_needActive F A rb = 0) : Met l y_RS_needActive w_RS_needActive ({ frames := 1, cells := 0, slots := 0, locals := 22 }) (va_Pc [.ref (r 0), .int rb] (RO (dC, dI) (wC r k F A) (tC k))) (va_Sv (fun _ => True)) 0 0 (fun _ => False) := by
  refine Met.ofW (cc := b_RS_needActive) (maxL := 2) (ret := none) (by decide) rfl ?_
  intro p e s m args below meth c s₁ B hml hv0
  obtain ⟨rfl, hP, hK⟩ := hv0
  have hx := B.exec
  have hb := B.bytes
  have hr := B.returns
  have hts := atoms_spec (ws := w_RS_needActive) B.pre
  have hW : ∀ w ∈ WALL, w.before ([.ref (r 0), .int rb] : List Value).toArray s = true := fun w h => hts w (List.mem_cons_of_mem _ h)
  have hown : s.vm.findClass R_RS = some m.cls := findClass_of_methodNamed B.named
  have hlocks := B.notSynchronized
  have hl := lv_entry ([.ref (r 0), .int rb]) (n := 2) (Nat.le_of_ble_eq_true rfl)
  rw [lg_entry_eq]
  generalize (lg_sl ([.ref (r 0), .int rb]) ++ List.replicate (2 - (lg_sl ([.ref (r 0), .int rb])).length) Slot.unset).toArray = ls at hl ⊢
  have hl : lv_has ls 2 [(0, .ref (r 0)), (1, .int rb)] := hl
  obtain ⟨⟨hp0, hp1⟩, ⟨hr0, hr1⟩, hg0, hg1⟩ := id hI; have hr2 : (F 2).toInt ≤ 60 := Int.le_trans hr1 (by decide)
  have hv := f_RS_needActive.eq_1 F A rb
  refine lv_aload_n hx hb d_RS_needActive_0 rfl (lv_at hl 0 rfl) ?_
  refine va_get (D := (dC, dI)) (ci := 0) (v := .ref (r 1)) (C := R_RS) (T := F_RS) (N := 6) hx hb hW i_RS hown hK hP 0 rfl rfl 4 (by decide) (hW _ k_3) (fun _ h9 => h9) rfl d_RS_needActive_1 ?_
  refine va_get (D := (dC, dI)) (ci := 1) (v := .ref (r 9)) (C := R_Rb) (T := F_Rb) (N := 7) hx hb hW i_Rb hown hK hP 1 rfl rfl 5 (by decide) (hW _ k_41) (fun _ h9 => h9) rfl d_RS_needActive_4 ?_
  refine lv_iload_n hx hb d_RS_needActive_7 rfl (lv_at hl 1 rfl) ?_
  refine va_zald hx hb hK hP 9 6 rfl rfl h_rb d_RS_needActive_8 ?_
  refine lv_if_ne (tgt := 27) hx hb d_RS_needActive_9 (by decide) (fun c_1 => ?_) (fun c_1 => ?_)
  · have hv := hv.trans (if_neg c_1)
    exact absurd (hk.symm.trans hv) (by decide)
  · have hv := hv.trans (if_pos c_1)
    refine lv_aload_n hx hb d_RS_needActive_12 rfl (lv_at hl 0 rfl) ?_
    refine va_get (D := (dC, dI)) (ci := 0) (v := .ref (r 1)) (C := R_RS) (T := F_RS) (N := 6) hx hb hW i_RS hown hK hP 0 rfl rfl 4 (by decide) (hW _ k_3) (fun _ h9 => h9) rfl d_RS_needActive_13 ?_
    refine lv_iload_n hx hb d_RS_needActive_16 rfl (lv_at hl 1 rfl) ?_
    refine lv_aload_n hx hb d_RS_needActive_17 rfl (lv_at hl 0 rfl) ?_
    refine va_get (D := (dC, dI)) (ci := 0) (v := .int (F 0)) (C := R_RS) (T := F_RS) (N := 6) hx hb hW i_RS hown hK hP 0 rfl rfl 0 (by decide) (hW _ k_7) (fun _ h9 => h9) rfl d_RS_needActive_18 ?_
    refine rdV ⟨hx, hb, hml, hown, hW⟩ (c_Rb_isSilent l dC dI r k F A rb (F 0) hI h_rb) (cwV 2 hW (gIn k_42 k_43 k_44 k_33 k_45) rfl rfl rfl (by decide +kernel) ⟨Nat.le_of_ble_eq_true rfl, Nat.le_of_ble_eq_true rfl⟩) hK hP (va_recv hK hP (ci := 1) (q0 := 1) rfl rfl) rfl hl.1 rfl (Nat.le_of_ble_eq_true rfl) d_RS_needActive_21 ⟨Nat.zero_le _, Nat.zero_le _⟩ ?_
    refine lv_if_eq (tgt := 37) hx hb d_RS_needActive_24 (by decide) (fun c_2 => ?_) (fun c_2 => ?_)
    · have hv := hv.trans (if_pos c_2)
      exact W.vret hx hb hr (fun t ht hW9 => ⟨rfl, trivial, ht⟩) (fun q hq => nomatch hq) d_RS_needActive_37
    · have hv := hv.trans (if_neg c_2)
      exact absurd (hk.symm.trans hv) (by decide)
set_option maxHeartbeats 4000000 in
set_option maxRecDepth 100000 in
theorem c_RS_needActive_x (l : Launch) (hl9 : l.stackTraces = false) (dC : Nat → ClassId) (dI : Nat → Nat → Nat) (r : Nat → Nat) (k : Nat → ClassId) (F : Nat → Int32) (A : Nat → Nat → Int32) (sz : Nat) (rb : Int32) (hI : CI F) (h_rb : vp_in rb 6) (hk : ¬ f_RS_needActive F A rb = 0) : vx_Met l y_RS_needActive w_RS_needActive ({ frames := 6, cells := 1, slots := 6, locals := 82 }) (va_Pc [.ref (r 0), .int rb] (GP (dC, dI) (wC r k F A) (tC k) sz)) (va_Qv (fun _ : Unit => False) (fun _ _ => True) (fun q => sz ≤ q)) (vx_X (fun u : Nat => u = f_RS_needActive F A rb) (fun E u _ => E = exN u) (fun q => sz ≤ q)) 1 6 (fun q => sz ≤ q) := by
  refine vx_ofW (cc := b_RS_needActive) (maxL := 2) (ret := none) (by decide) rfl ?_
  intro p e s m args below meth c s₁ B hml hEx hv0
  obtain ⟨rfl, hsz, hP, hK, hXS⟩ := hv0
  have hx := B.exec
  have hb := B.bytes
  have hr := B.returns
  have hts := atoms_spec (ws := w_RS_needActive) B.pre
  have hW : ∀ w ∈ WALL, w.before ([.ref (r 0), .int rb] : List Value).toArray s = true := fun w h => hts w (List.mem_cons_of_mem _ h)
  have hown : s.vm.findClass R_RS = some m.cls := findClass_of_methodNamed B.named
  have hlocks := B.notSynchronized
  subst hsz
  generalize hAe : (fun q : Nat => s.heap.size ≤ q) = Ad at hXS ⊢
  have hA : ∀ q : Nat, s.heap.size ≤ q → Ad q := fun q h => by rw [← hAe]; exact h
  have hS : va_S Ad s.heap s.heap [] := va_S.rf
  have hl := lv_entry ([.ref (r 0), .int rb]) (n := 2) (Nat.le_of_ble_eq_true rfl)
  rw [lg_entry_eq]
  generalize (lg_sl ([.ref (r 0), .int rb]) ++ List.replicate (2 - (lg_sl ([.ref (r 0), .int rb])).length) Slot.unset).toArray = ls at hl ⊢
  have hl : lv_has ls 2 [(0, .ref (r 0)), (1, .int rb)] := hl
  obtain ⟨⟨hp0, hp1⟩, ⟨hr0, hr1⟩, hg0, hg1⟩ := id hI; have hr2 : (F 2).toInt ≤ 60 := Int.le_trans hr1 (by decide)
  have hv := f_RS_needActive.eq_1 F A rb
  refine lv_aload_n hx hb d_RS_needActive_0 rfl (lv_at hl 0 rfl) ?_
  refine va_get (D := (dC, dI)) (ci := 0) (v := .ref (r 1)) (C := R_RS) (T := F_RS) (N := 6) hx hb hW i_RS hown hK hP 0 rfl rfl 4 (by decide) (hW _ k_3) (fun _ h9 => h9) rfl d_RS_needActive_1 ?_
  refine va_get (D := (dC, dI)) (ci := 1) (v := .ref (r 9)) (C := R_Rb) (T := F_Rb) (N := 7) hx hb hW i_Rb hown hK hP 1 rfl rfl 5 (by decide) (hW _ k_41) (fun _ h9 => h9) rfl d_RS_needActive_4 ?_
  refine lv_iload_n hx hb d_RS_needActive_7 rfl (lv_at hl 1 rfl) ?_
  refine va_zald hx hb hK hP 9 6 rfl rfl h_rb d_RS_needActive_8 ?_
  refine lv_if_ne (tgt := 27) hx hb d_RS_needActive_9 (by decide) (fun c_1 => ?_) (fun c_1 => ?_)
  · have hv := hv.trans (if_neg c_1)
    exact thr hx hb hl9 hown hW hXS tw_9 hS (hl.1.trans hml.symm) d_RS_needActive_27 d_RS_needActive_30 d_RS_needActive_31 d_RS_needActive_33 d_RS_needActive_36 hEx (Nat.le_of_ble_eq_true rfl) (Nat.le_of_ble_eq_true rfl) (Nat.le_of_ble_eq_true rfl) (Nat.le_of_ble_eq_true rfl) hlocks (fun t ha hsz hk9 => ⟨3, hv.symm, rfl, Nat.le_trans hS.1 hsz, fun q h1 h2 => (hk9 q (Nat.lt_of_lt_of_le h1 hS.1)).trans (hS.2.1 q h1 h2)⟩) hS.2.2 (Nat.le_of_ble_eq_true rfl) (Nat.le_of_ble_eq_true rfl)
  · have hv := hv.trans (if_pos c_1)
    refine lv_aload_n hx hb d_RS_needActive_12 rfl (lv_at hl 0 rfl) ?_
    refine va_get (D := (dC, dI)) (ci := 0) (v := .ref (r 1)) (C := R_RS) (T := F_RS) (N := 6) hx hb hW i_RS hown hK hP 0 rfl rfl 4 (by decide) (hW _ k_3) (fun _ h9 => h9) rfl d_RS_needActive_13 ?_
    refine lv_iload_n hx hb d_RS_needActive_16 rfl (lv_at hl 1 rfl) ?_
    refine lv_aload_n hx hb d_RS_needActive_17 rfl (lv_at hl 0 rfl) ?_
    refine va_get (D := (dC, dI)) (ci := 0) (v := .int (F 0)) (C := R_RS) (T := F_RS) (N := 6) hx hb hW i_RS hown hK hP 0 rfl rfl 0 (by decide) (hW _ k_7) (fun _ h9 => h9) rfl d_RS_needActive_18 ?_
    refine rdV ⟨hx, hb, hml, hown, hW⟩ (c_Rb_isSilent l dC dI r k F A rb (F 0) hI h_rb) (cwV 2 hW (gIn k_42 k_43 k_44 k_33 k_45) rfl rfl rfl (by decide +kernel) ⟨Nat.le_of_ble_eq_true rfl, Nat.le_of_ble_eq_true rfl⟩) hK hP (va_recv hK hP (ci := 1) (q0 := 1) rfl rfl) rfl hl.1 rfl (Nat.le_of_ble_eq_true rfl) d_RS_needActive_21 ⟨Nat.zero_le _, Nat.zero_le _⟩ ?_
    refine lv_if_eq (tgt := 37) hx hb d_RS_needActive_24 (by decide) (fun c_2 => ?_) (fun c_2 => ?_)
    · have hv := hv.trans (if_pos c_2)
      exact absurd hv hk
    · have hv := hv.trans (if_neg c_2)
      exact thr hx hb hl9 hown hW hXS tw_9 hS (hl.1.trans hml.symm) d_RS_needActive_27 d_RS_needActive_30 d_RS_needActive_31 d_RS_needActive_33 d_RS_needActive_36 hEx (Nat.le_of_ble_eq_true rfl) (Nat.le_of_ble_eq_true rfl) (Nat.le_of_ble_eq_true rfl) (Nat.le_of_ble_eq_true rfl) hlocks (fun t ha hsz hk9 => ⟨3, hv.symm, rfl, Nat.le_trans hS.1 hsz, fun q h1 h2 => (hk9 q (Nat.lt_of_lt_of_le h1 hS.1)).trans (hS.2.1 q h1 h2)⟩) hS.2.2 (Nat.le_of_ble_eq_true rfl) (Nat.le_of_ble_eq_true rfl)
def f_Rb_otherStandsOn (F : Nat → Int32) (A : Nat → Nat → Int32) (rb pc : Int32) : Int32 := if f_Rb_standingOn F A pc = (-1) then 0 else (if f_Rb_standingOn F A pc = rb then 0 else 1)
set_option maxHeartbeats 4000000 in
set_option maxRecDepth 100000 in
theorem c_Rb_otherStandsOn (l : Launch) (dC : Nat → ClassId) (dI : Nat → Nat → Nat) (r : Nat → Nat) (k : Nat → ClassId) (F : Nat → Int32) (A : Nat → Nat → Int32) (rb pc : Int32) (hI : CI F) : Met l y_Rb_otherStandsOn w_Rb_otherStandsOn ({ frames := 1, cells := 0, slots := 0, locals := 22 }) (va_Pc [.ref (r 1), .int rb, .int pc] (RO (dC, dI) (wC r k F A) (tC k))) (vp_Si (fun v => v = f_Rb_otherStandsOn F A rb pc)) 0 0 (fun _ => False) := by
  refine Met.ofW (cc := b_Rb_otherStandsOn) (maxL := 4) (ret := (some .boolean)) (by decide) rfl ?_
  intro p e s m args below meth c s₁ B hml hv0
  obtain ⟨rfl, hP, hK⟩ := hv0
  have hx := B.exec
  have hb := B.bytes
  have hr := B.returns
  have hts := atoms_spec (ws := w_Rb_otherStandsOn) B.pre
  have hW : ∀ w ∈ WALL, w.before ([.ref (r 1), .int rb, .int pc] : List Value).toArray s = true := fun w h => hts w (List.mem_cons_of_mem _ h)
  have hown : s.vm.findClass R_Rb = some m.cls := findClass_of_methodNamed B.named
  have hlocks := B.notSynchronized
  have hl := lv_entry ([.ref (r 1), .int rb, .int pc]) (n := 4) (Nat.le_of_ble_eq_true rfl)
  rw [lg_entry_eq]
  generalize (lg_sl ([.ref (r 1), .int rb, .int pc]) ++ List.replicate (4 - (lg_sl ([.ref (r 1), .int rb, .int pc])).length) Slot.unset).toArray = ls at hl ⊢
  have hl : lv_has ls 4 [(0, .ref (r 1)), (1, .int rb), (2, .int pc)] := hl
  obtain ⟨⟨hp0, hp1⟩, ⟨hr0, hr1⟩, hg0, hg1⟩ := id hI; have hr2 : (F 2).toInt ≤ 60 := Int.le_trans hr1 (by decide)
  have hv := f_Rb_otherStandsOn.eq_1 F A rb pc
  refine lv_aload_n hx hb d_Rb_otherStandsOn_0 rfl (lv_at hl 0 rfl) ?_
  refine lv_iload_n hx hb d_Rb_otherStandsOn_1 rfl (lv_at hl 2 rfl) ?_
  refine rdV ⟨hx, hb, hml, hown, hW⟩ (c_Rb_standingOn l dC dI r k F A pc hI ) (cwV 1 hW (gIn k_46 k_31 k_32 k_33 k_34) rfl rfl rfl (by decide +kernel) ⟨Nat.le_of_ble_eq_true rfl, Nat.le_of_ble_eq_true rfl⟩) hK hP (va_recv hK hP (ci := 1) (q0 := 1) rfl rfl) rfl hl.1 rfl (Nat.le_of_ble_eq_true rfl) d_Rb_otherStandsOn_2 ⟨Nat.zero_le _, Nat.zero_le _⟩ ?_
  refine lv_istore_n (lv' := [(3, .int (f_Rb_standingOn F A pc)), (0, .ref (r 1)), (1, .int rb), (2, .int pc)]) hx hb d_Rb_otherStandsOn_5 rfl hl (by decide) rfl (fun ls hl => ?_)
  refine lv_iload_n hx hb d_Rb_otherStandsOn_6 rfl (lv_at hl 0 rfl) ?_
  refine lv_iconst (v := (-1)) hx hb d_Rb_otherStandsOn_7 (by decide) ?_
  refine lv_icmp_eq (tgt := 20) hx hb d_Rb_otherStandsOn_8 (by decide) (fun c_1 => ?_) (fun c_1 => ?_)
  · have hv := hv.trans (if_pos c_1)
    refine lv_iconst (v := 0) hx hb d_Rb_otherStandsOn_20 (by decide) ?_
    exact W.zret (v := 0) (ty := .boolean) hx hb hr rfl (fun t ht hW9 => ⟨0, rfl, hv.symm, ht⟩) (fun q hq => nomatch hq) d_Rb_otherStandsOn_21
  · have hv := hv.trans (if_neg c_1)
    refine lv_iload_n hx hb d_Rb_otherStandsOn_11 rfl (lv_at hl 0 rfl) ?_
    refine lv_iload_n hx hb d_Rb_otherStandsOn_12 rfl (lv_at hl 2 rfl) ?_
    refine lv_icmp_eq (tgt := 20) hx hb d_Rb_otherStandsOn_13 (by decide) (fun c_2 => ?_) (fun c_2 => ?_)
    · have hv := hv.trans (if_pos c_2)
      refine lv_iconst (v := 0) hx hb d_Rb_otherStandsOn_20 (by decide) ?_
      exact W.zret (v := 0) (ty := .boolean) hx hb hr rfl (fun t ht hW9 => ⟨0, rfl, hv.symm, ht⟩) (fun q hq => nomatch hq) d_Rb_otherStandsOn_21
    · have hv := hv.trans (if_neg c_2)
      refine lv_iconst (v := 1) hx hb d_Rb_otherStandsOn_16 (by decide) ?_
      refine lv_goto (tgt := 21) hx hb d_Rb_otherStandsOn_17 (by decide) ?_
      exact W.zret (v := 1) (ty := .boolean) hx hb hr rfl (fun t ht hW9 => ⟨1, rfl, hv.symm, ht⟩) (fun q hq => nomatch hq) d_Rb_otherStandsOn_21
def f_Gr_hasBegun (F : Nat → Int32) (A : Nat → Nat → Int32) (gr nw : Int32) : Int32 := if nw < A 10 gr.toNatClampNeg then 0 else 1
set_option maxHeartbeats 4000000 in
set_option maxRecDepth 100000 in
theorem c_Gr_hasBegun (l : Launch) (dC : Nat → ClassId) (dI : Nat → Nat → Nat) (r : Nat → Nat) (k : Nat → ClassId) (F : Nat → Int32) (A : Nat → Nat → Int32) (gr nw : Int32) (hI : CI F) (h_gr : vp_in gr 61) : Met l y_Gr_hasBegun w_Gr_hasBegun ({ frames := 0, cells := 0, slots := 0, locals := 0 }) (va_Pc [.ref (r 2), .int gr, .int nw] (RO (dC, dI) (wC r k F A) (tC k))) (vp_Si (fun v => v = f_Gr_hasBegun F A gr nw)) 0 0 (fun _ => False) := by
  refine Met.ofW (cc := b_Gr_hasBegun) (maxL := 3) (ret := (some .boolean)) (by decide) rfl ?_
  intro p e s m args below meth c s₁ B hml hv0
  obtain ⟨rfl, hP, hK⟩ := hv0
  have hx := B.exec
  have hb := B.bytes
  have hr := B.returns
  have hts := atoms_spec (ws := w_Gr_hasBegun) B.pre
  have hW : ∀ w ∈ WALL, w.before ([.ref (r 2), .int gr, .int nw] : List Value).toArray s = true := fun w h => hts w (List.mem_cons_of_mem _ h)
  have hown : s.vm.findClass R_Gr = some m.cls := findClass_of_methodNamed B.named
  have hlocks := B.notSynchronized
  have hl := lv_entry ([.ref (r 2), .int gr, .int nw]) (n := 3) (Nat.le_of_ble_eq_true rfl)
  rw [lg_entry_eq]
  generalize (lg_sl ([.ref (r 2), .int gr, .int nw]) ++ List.replicate (3 - (lg_sl ([.ref (r 2), .int gr, .int nw])).length) Slot.unset).toArray = ls at hl ⊢
  have hl : lv_has ls 3 [(0, .ref (r 2)), (1, .int gr), (2, .int nw)] := hl
  obtain ⟨⟨hp0, hp1⟩, ⟨hr0, hr1⟩, hg0, hg1⟩ := id hI; have hr2 : (F 2).toInt ≤ 60 := Int.le_trans hr1 (by decide)
  have hv := f_Gr_hasBegun.eq_1 F A gr nw
  refine lv_aload_n hx hb d_Gr_hasBegun_0 rfl (lv_at hl 0 rfl) ?_
  refine va_get (D := (dC, dI)) (ci := 2) (v := .ref (r 13)) (C := R_Gr) (T := F_Gr) (N := 7) hx hb hW i_Gr hown hK hP 2 rfl rfl 3 (by decide) (hW _ k_47) (fun _ h9 => h9) rfl d_Gr_hasBegun_1 ?_
  refine lv_iload_n hx hb d_Gr_hasBegun_4 rfl (lv_at hl 1 rfl) ?_
  refine va_iald hx hb hK hP 13 10 rfl rfl h_gr d_Gr_hasBegun_5 ?_
  refine lv_iload_n hx hb d_Gr_hasBegun_6 rfl (lv_at hl 2 rfl) ?_
  refine lv_icmp_gt (tgt := 14) hx hb d_Gr_hasBegun_7 (by decide) (fun c_1 => ?_) (fun c_1 => ?_)
  · have hv := hv.trans (if_pos c_1)
    refine lv_iconst (v := 0) hx hb d_Gr_hasBegun_14 (by decide) ?_
    exact W.zret (v := 0) (ty := .boolean) hx hb hr rfl (fun t ht hW9 => ⟨0, rfl, hv.symm, ht⟩) (fun q hq => nomatch hq) d_Gr_hasBegun_15
  · have hv := hv.trans (if_neg c_1)
    refine lv_iconst (v := 1) hx hb d_Gr_hasBegun_10 (by decide) ?_
    refine lv_goto (tgt := 15) hx hb d_Gr_hasBegun_11 (by decide) ?_
    exact W.zret (v := 1) (ty := .boolean) hx hb hr rfl (fun t ht hW9 => ⟨1, rfl, hv.symm, ht⟩) (fun q hq => nomatch hq) d_Gr_hasBegun_15
def f_Gr_isLive (F : Nat → Int32) (A : Nat → Nat → Int32) (gr : Int32) : Int32 := if A 13 gr.toNatClampNeg = 0 then 1 else 0
set_option maxHeartbeats 4000000 in
set_option maxRecDepth 100000 in
theorem c_Gr_isLive (l : Launch) (dC : Nat → ClassId) (dI : Nat → Nat → Nat) (r : Nat → Nat) (k : Nat → ClassId) (F : Nat → Int32) (A : Nat → Nat → Int32) (gr : Int32) (hI : CI F) (h_gr : vp_in gr 61) : Met l y_Gr_isLive w_Gr_isLive ({ frames := 0, cells := 0, slots := 0, locals := 0 }) (va_Pc [.ref (r 2), .int gr] (RO (dC, dI) (wC r k F A) (tC k))) (vp_Si (fun v => v = f_Gr_isLive F A gr)) 0 0 (fun _ => False) := by
  refine Met.ofW (cc := b_Gr_isLive) (maxL := 2) (ret := (some .boolean)) (by decide) rfl ?_
  intro p e s m args below meth c s₁ B hml hv0
  obtain ⟨rfl, hP, hK⟩ := hv0
  have hx := B.exec
  have hb := B.bytes
  have hr := B.returns
  have hts := atoms_spec (ws := w_Gr_isLive) B.pre
  have hW : ∀ w ∈ WALL, w.before ([.ref (r 2), .int gr] : List Value).toArray s = true := fun w h => hts w (List.mem_cons_of_mem _ h)
  have hown : s.vm.findClass R_Gr = some m.cls := findClass_of_methodNamed B.named
  have hlocks := B.notSynchronized
  have hl := lv_entry ([.ref (r 2), .int gr]) (n := 2) (Nat.le_of_ble_eq_true rfl)
  rw [lg_entry_eq]
  generalize (lg_sl ([.ref (r 2), .int gr]) ++ List.replicate (2 - (lg_sl ([.ref (r 2), .int gr])).length) Slot.unset).toArray = ls at hl ⊢
  have hl : lv_has ls 2 [(0, .ref (r 2)), (1, .int gr)] := hl
  obtain ⟨⟨hp0, hp1⟩, ⟨hr0, hr1⟩, hg0, hg1⟩ := id hI; have hr2 : (F 2).toInt ≤ 60 := Int.le_trans hr1 (by decide)
  have hv := f_Gr_isLive.eq_1 F A gr
  refine lv_aload_n hx hb d_Gr_isLive_0 rfl (lv_at hl 0 rfl) ?_
  refine va_get (D := (dC, dI)) (ci := 2) (v := .ref (r 16)) (C := R_Gr) (T := F_Gr) (N := 7) hx hb hW i_Gr hown hK hP 2 rfl rfl 6 (by decide) (hW _ k_48) (fun _ h9 => h9) rfl d_Gr_isLive_1 ?_
  refine lv_iload_n hx hb d_Gr_isLive_4 rfl (lv_at hl 1 rfl) ?_
  refine va_iald hx hb hK hP 16 13 rfl rfl h_gr d_Gr_isLive_5 ?_
  refine lv_if_ne (tgt := 13) hx hb d_Gr_isLive_6 (by decide) (fun c_1 => ?_) (fun c_1 => ?_)
  · have hv := hv.trans (if_neg c_1)
    refine lv_iconst (v := 0) hx hb d_Gr_isLive_13 (by decide) ?_
    exact W.zret (v := 0) (ty := .boolean) hx hb hr rfl (fun t ht hW9 => ⟨0, rfl, hv.symm, ht⟩) (fun q hq => nomatch hq) d_Gr_isLive_14
  · have hv := hv.trans (if_pos c_1)
    refine lv_iconst (v := 1) hx hb d_Gr_isLive_9 (by decide) ?_
    refine lv_goto (tgt := 14) hx hb d_Gr_isLive_10 (by decide) ?_
    exact W.zret (v := 1) (ty := .boolean) hx hb hr rfl (fun t ht hW9 => ⟨1, rfl, hv.symm, ht⟩) (fun q hq => nomatch hq) d_Gr_isLive_14
def f_Gr_isLiveFor (F : Nat → Int32) (A : Nat → Nat → Int32) (gr pc : Int32) : Int32 := if f_Gr_isLive F A gr = 0 then 0 else (if A 9 gr.toNatClampNeg = pc then 1 else 0)
set_option maxHeartbeats 4000000 in
set_option maxRecDepth 100000 in
theorem c_Gr_isLiveFor (l : Launch) (dC : Nat → ClassId) (dI : Nat → Nat → Nat) (r : Nat → Nat) (k : Nat → ClassId) (F : Nat → Int32) (A : Nat → Nat → Int32) (gr pc : Int32) (hI : CI F) (h_gr : vp_in gr 61) : Met l y_Gr_isLiveFor w_Gr_isLiveFor ({ frames := 1, cells := 0, slots := 0, locals := 21 }) (va_Pc [.ref (r 2), .int gr, .int pc] (RO (dC, dI) (wC r k F A) (tC k))) (vp_Si (fun v => v = f_Gr_isLiveFor F A gr pc)) 0 0 (fun _ => False) := by
  refine Met.ofW (cc := b_Gr_isLiveFor) (maxL := 3) (ret := (some .boolean)) (by decide) rfl ?_
  intro p e s m args below meth c s₁ B hml hv0
  obtain ⟨rfl, hP, hK⟩ := hv0
  have hx := B.exec
  have hb := B.bytes
  have hr := B.returns
  have hts := atoms_spec (ws := w_Gr_isLiveFor) B.pre
  have hW : ∀ w ∈ WALL, w.before ([.ref (r 2), .int gr, .int pc] : List Value).toArray s = true := fun w h => hts w (List.mem_cons_of_mem _ h)
  have hown : s.vm.findClass R_Gr = some m.cls := findClass_of_methodNamed B.named
  have hlocks := B.notSynchronized
  have hl := lv_entry ([.ref (r 2), .int gr, .int pc]) (n := 3) (Nat.le_of_ble_eq_true rfl)
  rw [lg_entry_eq]
  generalize (lg_sl ([.ref (r 2), .int gr, .int pc]) ++ List.replicate (3 - (lg_sl ([.ref (r 2), .int gr, .int pc])).length) Slot.unset).toArray = ls at hl ⊢
  have hl : lv_has ls 3 [(0, .ref (r 2)), (1, .int gr), (2, .int pc)] := hl
  obtain ⟨⟨hp0, hp1⟩, ⟨hr0, hr1⟩, hg0, hg1⟩ := id hI; have hr2 : (F 2).toInt ≤ 60 := Int.le_trans hr1 (by decide)
  have hv := f_Gr_isLiveFor.eq_1 F A gr pc
  refine lv_aload_n hx hb d_Gr_isLiveFor_0 rfl (lv_at hl 0 rfl) ?_
  refine lv_iload_n hx hb d_Gr_isLiveFor_1 rfl (lv_at hl 1 rfl) ?_
  refine rdV ⟨hx, hb, hml, hown, hW⟩ (c_Gr_isLive l dC dI r k F A gr hI h_gr) (cwV 1 hW (gIn k_49 k_50 k_51 k_52 k_53) rfl rfl rfl (by decide +kernel) ⟨Nat.le_of_ble_eq_true rfl, Nat.le_of_ble_eq_true rfl⟩) hK hP (va_recv hK hP (ci := 2) (q0 := 2) rfl rfl) rfl hl.1 rfl (Nat.le_of_ble_eq_true rfl) d_Gr_isLiveFor_2 ⟨Nat.zero_le _, Nat.zero_le _⟩ ?_
  refine lv_if_eq (tgt := 22) hx hb d_Gr_isLiveFor_5 (by decide) (fun c_1 => ?_) (fun c_1 => ?_)
  · have hv := hv.trans (if_pos c_1)
    refine lv_iconst (v := 0) hx hb d_Gr_isLiveFor_22 (by decide) ?_
    exact W.zret (v := 0) (ty := .boolean) hx hb hr rfl (fun t ht hW9 => ⟨0, rfl, hv.symm, ht⟩) (fun q hq => nomatch hq) d_Gr_isLiveFor_23
  · have hv := hv.trans (if_neg c_1)
    refine lv_aload_n hx hb d_Gr_isLiveFor_8 rfl (lv_at hl 0 rfl) ?_
    refine va_get (D := (dC, dI)) (ci := 2) (v := .ref (r 12)) (C := R_Gr) (T := F_Gr) (N := 7) hx hb hW i_Gr hown hK hP 2 rfl rfl 2 (by decide) (hW _ k_54) (fun _ h9 => h9) rfl d_Gr_isLiveFor_9 ?_
    refine lv_iload_n hx hb d_Gr_isLiveFor_12 rfl (lv_at hl 1 rfl) ?_
    refine va_iald hx hb hK hP 12 9 rfl rfl h_gr d_Gr_isLiveFor_13 ?_
    refine lv_iload_n hx hb d_Gr_isLiveFor_14 rfl (lv_at hl 2 rfl) ?_
    refine lv_icmp_ne (tgt := 22) hx hb d_Gr_isLiveFor_15 (by decide) (fun c_2 => ?_) (fun c_2 => ?_)
    · have hv := hv.trans (if_neg c_2)
      refine lv_iconst (v := 0) hx hb d_Gr_isLiveFor_22 (by decide) ?_
      exact W.zret (v := 0) (ty := .boolean) hx hb hr rfl (fun t ht hW9 => ⟨0, rfl, hv.symm, ht⟩) (fun q hq => nomatch hq) d_Gr_isLiveFor_23
    · have hv := hv.trans (if_pos c_2)
      refine lv_iconst (v := 1) hx hb d_Gr_isLiveFor_18 (by decide) ?_
      refine lv_goto (tgt := 23) hx hb d_Gr_isLiveFor_19 (by decide) ?_
      exact W.zret (v := 1) (ty := .boolean) hx hb hr rfl (fun t ht hW9 => ⟨1, rfl, hv.symm, ht⟩) (fun q hq => nomatch hq) d_Gr_isLiveFor_23
def f_Gr_sharesTime (F : Nat → Int32) (A : Nat → Nat → Int32) (gr fr tt : Int32) : Int32 := if tt ≤ A 10 gr.toNatClampNeg then 0 else (if A 11 gr.toNatClampNeg ≤ fr then 0 else 1)
set_option maxHeartbeats 4000000 in
set_option maxRecDepth 100000 in
theorem c_Gr_sharesTime (l : Launch) (dC : Nat → ClassId) (dI : Nat → Nat → Nat) (r : Nat → Nat) (k : Nat → ClassId) (F : Nat → Int32) (A : Nat → Nat → Int32) (gr fr tt : Int32) (hI : CI F) (h_gr : vp_in gr 61) : Met l y_Gr_sharesTime w_Gr_sharesTime ({ frames := 0, cells := 0, slots := 0, locals := 0 }) (va_Pc [.ref (r 2), .int gr, .int fr, .int tt] (RO (dC, dI) (wC r k F A) (tC k))) (vp_Si (fun v => v = f_Gr_sharesTime F A gr fr tt)) 0 0 (fun _ => False) := by
  refine Met.ofW (cc := b_Gr_sharesTime) (maxL := 4) (ret := (some .boolean)) (by decide) rfl ?_
  intro p e s m args below meth c s₁ B hml hv0
  obtain ⟨rfl, hP, hK⟩ := hv0
  have hx := B.exec
  have hb := B.bytes
  have hr := B.returns
  have hts := atoms_spec (ws := w_Gr_sharesTime) B.pre
  have hW : ∀ w ∈ WALL, w.before ([.ref (r 2), .int gr, .int fr, .int tt] : List Value).toArray s = true := fun w h => hts w (List.mem_cons_of_mem _ h)
  have hown : s.vm.findClass R_Gr = some m.cls := findClass_of_methodNamed B.named
  have hlocks := B.notSynchronized
  have hl := lv_entry ([.ref (r 2), .int gr, .int fr, .int tt]) (n := 4) (Nat.le_of_ble_eq_true rfl)
  rw [lg_entry_eq]
  generalize (lg_sl ([.ref (r 2), .int gr, .int fr, .int tt]) ++ List.replicate (4 - (lg_sl ([.ref (r 2), .int gr, .int fr, .int tt])).length) Slot.unset).toArray = ls at hl ⊢
  have hl : lv_has ls 4 [(0, .ref (r 2)), (1, .int gr), (2, .int fr), (3, .int tt)] := hl
  obtain ⟨⟨hp0, hp1⟩, ⟨hr0, hr1⟩, hg0, hg1⟩ := id hI; have hr2 : (F 2).toInt ≤ 60 := Int.le_trans hr1 (by decide)
  have hv := f_Gr_sharesTime.eq_1 F A gr fr tt
  refine lv_aload_n hx hb d_Gr_sharesTime_0 rfl (lv_at hl 0 rfl) ?_
  refine va_get (D := (dC, dI)) (ci := 2) (v := .ref (r 13)) (C := R_Gr) (T := F_Gr) (N := 7) hx hb hW i_Gr hown hK hP 2 rfl rfl 3 (by decide) (hW _ k_47) (fun _ h9 => h9) rfl d_Gr_sharesTime_1 ?_
  refine lv_iload_n hx hb d_Gr_sharesTime_4 rfl (lv_at hl 1 rfl) ?_
  refine va_iald hx hb hK hP 13 10 rfl rfl h_gr d_Gr_sharesTime_5 ?_
  refine lv_iload_n hx hb d_Gr_sharesTime_6 rfl (lv_at hl 3 rfl) ?_
  refine lv_icmp_ge (tgt := 24) hx hb d_Gr_sharesTime_7 (by decide) (fun c_1 => ?_) (fun c_1 => ?_)
  · have hv := hv.trans (if_pos c_1)
    refine lv_iconst (v := 0) hx hb d_Gr_sharesTime_24 (by decide) ?_
    exact W.zret (v := 0) (ty := .boolean) hx hb hr rfl (fun t ht hW9 => ⟨0, rfl, hv.symm, ht⟩) (fun q hq => nomatch hq) d_Gr_sharesTime_25
  · have hv := hv.trans (if_neg c_1)
    refine lv_iload_n hx hb d_Gr_sharesTime_10 rfl (lv_at hl 2 rfl) ?_
    refine lv_aload_n hx hb d_Gr_sharesTime_11 rfl (lv_at hl 0 rfl) ?_
    refine va_get (D := (dC, dI)) (ci := 2) (v := .ref (r 14)) (C := R_Gr) (T := F_Gr) (N := 7) hx hb hW i_Gr hown hK hP 2 rfl rfl 4 (by decide) (hW _ k_55) (fun _ h9 => h9) rfl d_Gr_sharesTime_12 ?_
    refine lv_iload_n hx hb d_Gr_sharesTime_15 rfl (lv_at hl 1 rfl) ?_
    refine va_iald hx hb hK hP 14 11 rfl rfl h_gr d_Gr_sharesTime_16 ?_
    refine lv_icmp_ge (tgt := 24) hx hb d_Gr_sharesTime_17 (by decide) (fun c_2 => ?_) (fun c_2 => ?_)
    · have hv := hv.trans (if_pos c_2)
      refine lv_iconst (v := 0) hx hb d_Gr_sharesTime_24 (by decide) ?_
      exact W.zret (v := 0) (ty := .boolean) hx hb hr rfl (fun t ht hW9 => ⟨0, rfl, hv.symm, ht⟩) (fun q hq => nomatch hq) d_Gr_sharesTime_25
    · have hv := hv.trans (if_neg c_2)
      refine lv_iconst (v := 1) hx hb d_Gr_sharesTime_20 (by decide) ?_
      refine lv_goto (tgt := 25) hx hb d_Gr_sharesTime_21 (by decide) ?_
      exact W.zret (v := 1) (ty := .boolean) hx hb hr rfl (fun t ht hW9 => ⟨1, rfl, hv.symm, ht⟩) (fun q hq => nomatch hq) d_Gr_sharesTime_25
def f_Gr_isRival (F : Nat → Int32) (A : Nat → Nat → Int32) (gr rb pc fr tt : Int32) : Int32 := if f_Gr_isLiveFor F A gr pc = 0 then 0 else (if A 8 gr.toNatClampNeg = rb then 0 else (if f_Gr_sharesTime F A gr fr tt = 0 then 0 else 1))
set_option maxHeartbeats 4000000 in
set_option maxRecDepth 100000 in
theorem c_Gr_isRival (l : Launch) (dC : Nat → ClassId) (dI : Nat → Nat → Nat) (r : Nat → Nat) (k : Nat → ClassId) (F : Nat → Int32) (A : Nat → Nat → Int32) (gr rb pc fr tt : Int32) (hI : CI F) (h_gr : vp_in gr 61) : Met l y_Gr_isRival w_Gr_isRival ({ frames := 2, cells := 0, slots := 0, locals := 43 }) (va_Pc [.ref (r 2), .int gr, .int rb, .int pc, .int fr, .int tt] (RO (dC, dI) (wC r k F A) (tC k))) (vp_Si (fun v => v = f_Gr_isRival F A gr rb pc fr tt)) 0 0 (fun _ => False) := by
  refine Met.ofW (cc := b_Gr_isRival) (maxL := 6) (ret := (some .boolean)) (by decide) rfl ?_
  intro p e s m args below meth c s₁ B hml hv0
  obtain ⟨rfl, hP, hK⟩ := hv0
  have hx := B.exec
  have hb := B.bytes
  have hr := B.returns
  have hts := atoms_spec (ws := w_Gr_isRival) B.pre
  have hW : ∀ w ∈ WALL, w.before ([.ref (r 2), .int gr, .int rb, .int pc, .int fr, .int tt] : List Value).toArray s = true := fun w h => hts w (List.mem_cons_of_mem _ h)
  have hown : s.vm.findClass R_Gr = some m.cls := findClass_of_methodNamed B.named
  have hlocks := B.notSynchronized
  have hl := lv_entry ([.ref (r 2), .int gr, .int rb, .int pc, .int fr, .int tt]) (n := 6) (Nat.le_of_ble_eq_true rfl)
  rw [lg_entry_eq]
  generalize (lg_sl ([.ref (r 2), .int gr, .int rb, .int pc, .int fr, .int tt]) ++ List.replicate (6 - (lg_sl ([.ref (r 2), .int gr, .int rb, .int pc, .int fr, .int tt])).length) Slot.unset).toArray = ls at hl ⊢
  have hl : lv_has ls 6 [(0, .ref (r 2)), (1, .int gr), (2, .int rb), (3, .int pc), (4, .int fr), (5, .int tt)] := hl
  obtain ⟨⟨hp0, hp1⟩, ⟨hr0, hr1⟩, hg0, hg1⟩ := id hI; have hr2 : (F 2).toInt ≤ 60 := Int.le_trans hr1 (by decide)
  have hv := f_Gr_isRival.eq_1 F A gr rb pc fr tt
  refine lv_aload_n hx hb d_Gr_isRival_0 rfl (lv_at hl 0 rfl) ?_
  refine lv_iload_n hx hb d_Gr_isRival_1 rfl (lv_at hl 1 rfl) ?_
  refine lv_iload_n hx hb d_Gr_isRival_2 rfl (lv_at hl 3 rfl) ?_
  refine rdV ⟨hx, hb, hml, hown, hW⟩ (c_Gr_isLiveFor l dC dI r k F A gr pc hI h_gr) (cwV 2 hW (gIn k_56 k_57 k_58 k_52 k_59) rfl rfl rfl (by decide +kernel) ⟨Nat.le_of_ble_eq_true rfl, Nat.le_of_ble_eq_true rfl⟩) hK hP (va_recv hK hP (ci := 2) (q0 := 2) rfl rfl) rfl hl.1 rfl (Nat.le_of_ble_eq_true rfl) d_Gr_isRival_3 ⟨Nat.zero_le _, Nat.zero_le _⟩ ?_
  refine lv_if_eq (tgt := 35) hx hb d_Gr_isRival_6 (by decide) (fun c_1 => ?_) (fun c_1 => ?_)
  · have hv := hv.trans (if_pos c_1)
    refine lv_iconst (v := 0) hx hb d_Gr_isRival_35 (by decide) ?_
    exact W.zret (v := 0) (ty := .boolean) hx hb hr rfl (fun t ht hW9 => ⟨0, rfl, hv.symm, ht⟩) (fun q hq => nomatch hq) d_Gr_isRival_36
  · have hv := hv.trans (if_neg c_1)
    refine lv_aload_n hx hb d_Gr_isRival_9 rfl (lv_at hl 0 rfl) ?_
    refine va_get (D := (dC, dI)) (ci := 2) (v := .ref (r 11)) (C := R_Gr) (T := F_Gr) (N := 7) hx hb hW i_Gr hown hK hP 2 rfl rfl 1 (by decide) (hW _ k_60) (fun _ h9 => h9) rfl d_Gr_isRival_10 ?_
    refine lv_iload_n hx hb d_Gr_isRival_13 rfl (lv_at hl 1 rfl) ?_
    refine va_iald hx hb hK hP 11 8 rfl rfl h_gr d_Gr_isRival_14 ?_
    refine lv_iload_n hx hb d_Gr_isRival_15 rfl (lv_at hl 2 rfl) ?_
    refine lv_icmp_eq (tgt := 35) hx hb d_Gr_isRival_16 (by decide) (fun c_2 => ?_) (fun c_2 => ?_)
    · have hv := hv.trans (if_pos c_2)
      refine lv_iconst (v := 0) hx hb d_Gr_isRival_35 (by decide) ?_
      exact W.zret (v := 0) (ty := .boolean) hx hb hr rfl (fun t ht hW9 => ⟨0, rfl, hv.symm, ht⟩) (fun q hq => nomatch hq) d_Gr_isRival_36
    · have hv := hv.trans (if_neg c_2)
      refine lv_aload_n hx hb d_Gr_isRival_19 rfl (lv_at hl 0 rfl) ?_
      refine lv_iload_n hx hb d_Gr_isRival_20 rfl (lv_at hl 1 rfl) ?_
      refine lv_iload hx hb d_Gr_isRival_21 (lv_at hl 4 rfl) ?_
      refine lv_iload hx hb d_Gr_isRival_23 (lv_at hl 5 rfl) ?_
      refine rdV ⟨hx, hb, hml, hown, hW⟩ (c_Gr_sharesTime l dC dI r k F A gr fr tt hI h_gr) (cwV 3 hW (gIn k_61 k_62 k_63 k_52 k_64) rfl rfl rfl (by decide +kernel) ⟨Nat.le_of_ble_eq_true rfl, Nat.le_of_ble_eq_true rfl⟩) hK hP (va_recv hK hP (ci := 2) (q0 := 2) rfl rfl) rfl hl.1 rfl (Nat.le_of_ble_eq_true rfl) d_Gr_isRival_25 ⟨Nat.zero_le _, Nat.zero_le _⟩ ?_
      refine lv_if_eq (tgt := 35) hx hb d_Gr_isRival_28 (by decide) (fun c_3 => ?_) (fun c_3 => ?_)
      · have hv := hv.trans (if_pos c_3)
        refine lv_iconst (v := 0) hx hb d_Gr_isRival_35 (by decide) ?_
        exact W.zret (v := 0) (ty := .boolean) hx hb hr rfl (fun t ht hW9 => ⟨0, rfl, hv.symm, ht⟩) (fun q hq => nomatch hq) d_Gr_isRival_36
      · have hv := hv.trans (if_neg c_3)
        refine lv_iconst (v := 1) hx hb d_Gr_isRival_31 (by decide) ?_
        refine lv_goto (tgt := 36) hx hb d_Gr_isRival_32 (by decide) ?_
        exact W.zret (v := 1) (ty := .boolean) hx hb hr rfl (fun t ht hW9 => ⟨1, rfl, hv.symm, ht⟩) (fun q hq => nomatch hq) d_Gr_isRival_36
def f_RS_firstBar_L3 (F : Nat → Int32) (A : Nat → Nat → Int32) (rb pc fr tt pr : Int32) : Nat → Int32 → Int32
  | 0, _ => 0
  | n3 + 1, x6 => if F 3 < x6 then 0 else (if pr ≤ A 12 x6.toNatClampNeg then (if f_Gr_isRival F A x6 rb pc fr tt = 0 then (f_RS_firstBar_L3 F A rb pc fr tt pr n3 (x6 + 1)) else x6) else (if f_Gr_hasBegun F A x6 (F 0) = 0 then (f_RS_firstBar_L3 F A rb pc fr tt pr n3 (x6 + 1)) else (if f_Gr_isRival F A x6 rb pc fr tt = 0 then (f_RS_firstBar_L3 F A rb pc fr tt pr n3 (x6 + 1)) else x6)))
def f_RS_firstBar (F : Nat → Int32) (A : Nat → Nat → Int32) (rb pc fr tt pr : Int32) : Int32 := f_RS_firstBar_L3 F A rb pc fr tt pr 64 1
set_option maxHeartbeats 4000000 in
set_option maxRecDepth 100000 in
theorem c_RS_firstBar (l : Launch) (dC : Nat → ClassId) (dI : Nat → Nat → Nat) (r : Nat → Nat) (k : Nat → ClassId) (F : Nat → Int32) (A : Nat → Nat → Int32) (rb pc fr tt pr : Int32) (hI : CI F) : Met l y_RS_firstBar w_RS_firstBar ({ frames := 3, cells := 0, slots := 0, locals := 68 }) (va_Pc [.ref (r 0), .int rb, .int pc, .int fr, .int tt, .int pr] (RO (dC, dI) (wC r k F A) (tC k))) (vp_Si (fun v => v = f_RS_firstBar F A rb pc fr tt pr)) 0 0 (fun _ => False) := by
  refine Met.ofW (cc := b_RS_firstBar) (maxL := 8) (ret := (some .int)) (by decide) rfl ?_
  intro p e s m args below meth c s₁ B hml hv0
  obtain ⟨rfl, hP, hK⟩ := hv0
  have hx := B.exec
  have hb := B.bytes
  have hr := B.returns
  have hts := atoms_spec (ws := w_RS_firstBar) B.pre
  have hW : ∀ w ∈ WALL, w.before ([.ref (r 0), .int rb, .int pc, .int fr, .int tt, .int pr] : List Value).toArray s = true := fun w h => hts w (List.mem_cons_of_mem _ h)
  have hown : s.vm.findClass R_RS = some m.cls := findClass_of_methodNamed B.named
  have hlocks := B.notSynchronized
  have hl := lv_entry ([.ref (r 0), .int rb, .int pc, .int fr, .int tt, .int pr]) (n := 8) (Nat.le_of_ble_eq_true rfl)
  rw [lg_entry_eq]
  generalize (lg_sl ([.ref (r 0), .int rb, .int pc, .int fr, .int tt, .int pr]) ++ List.replicate (8 - (lg_sl ([.ref (r 0), .int rb, .int pc, .int fr, .int tt, .int pr])).length) Slot.unset).toArray = ls at hl ⊢
  have hl : lv_has ls 8 [(0, .ref (r 0)), (1, .int rb), (2, .int pc), (3, .int fr), (4, .int tt), (5, .int pr)] := hl
  obtain ⟨⟨hp0, hp1⟩, ⟨hr0, hr1⟩, hg0, hg1⟩ := id hI; have hr2 : (F 2).toInt ≤ 60 := Int.le_trans hr1 (by decide)
  have hv := f_RS_firstBar.eq_1 F A rb pc fr tt pr
  refine lv_iconst (v := 1) hx hb d_RS_firstBar_0 (by decide) ?_
  refine lv_istore (lv' := [(6, .int 1), (0, .ref (r 0)), (1, .int rb), (2, .int pc), (3, .int fr), (4, .int tt), (5, .int pr)]) hx hb d_RS_firstBar_1 hl (by decide) rfl (fun ls hl => ?_)
  have loop3 : ∀ (n3 : Nat) (x6 : Int32) (ls : Array Slot), LA (F 3) x6 n3 → f_RS_firstBar F A rb pc fr tt pr = f_RS_firstBar_L3 F A rb pc fr tt pr n3 x6 → lv_has ls 8 [(0, .ref (r 0)), (1, .int rb), (2, .int pc), (3, .int fr), (4, .int tt), (5, .int pr), (6, .int x6)] → W p l e (headSpec w_RS_firstBar ({ frames := 3, cells := 0, slots := 0, locals := 68 })).room s m ([.ref (r 0), .int rb, .int pc, .int fr, .int tt, .int pr] : List Value).toArray below meth c s.heap [] 0 0 (MQ below (vp_Si (fun v => v = f_RS_firstBar F A rb pc fr tt pr)) ([.ref (r 0), .int rb, .int pc, .int fr, .int tt, .int pr] : List Value).toArray s 0 0 (fun _ => False)) (F0 m 3 ls []) := by
    intro n3
    induction n3 with
    | zero => intro x6 ls hlp; exact (hlp.z).elim
    | succ n3 ih3 =>
      intro x6 ls hlp3 hv hl
      rw [f_RS_firstBar_L3] at hv
      refine lv_iload hx hb d_RS_firstBar_3 (lv_at hl 6 rfl) ?_
      refine lv_aload_n hx hb d_RS_firstBar_5 rfl (lv_at hl 0 rfl) ?_
      refine va_get (D := (dC, dI)) (ci := 0) (v := .ref (r 2)) (C := R_RS) (T := F_RS) (N := 6) hx hb hW i_RS hown hK hP 0 rfl rfl 5 (by decide) (hW _ k_5) (fun _ h9 => h9) rfl d_RS_firstBar_6 ?_
      refine va_get (D := (dC, dI)) (ci := 2) (v := .int (F 3)) (C := R_Gr) (T := F_Gr) (N := 7) hx hb hW i_Gr hown hK hP 2 rfl rfl 0 (by decide) (hW _ k_6) (fun _ h9 => h9) rfl d_RS_firstBar_9 ?_
      refine lv_icmp_gt (tgt := 84) hx hb d_RS_firstBar_12 (by decide) (fun c_1 => ?_) (fun c_1 => ?_)
      · have hv := hv.trans (if_pos c_1)
        refine lv_iconst (v := 0) hx hb d_RS_firstBar_84 (by decide) ?_
        exact W.iret (v := 0) hx hb hr (fun t ht hW9 => ⟨0, rfl, hv.symm, ht⟩) (fun q hq => nomatch hq) d_RS_firstBar_85
      · have hv := hv.trans (if_neg c_1)
        refine lv_aload_n hx hb d_RS_firstBar_15 rfl (lv_at hl 0 rfl) ?_
        refine va_get (D := (dC, dI)) (ci := 0) (v := .ref (r 2)) (C := R_RS) (T := F_RS) (N := 6) hx hb hW i_RS hown hK hP 0 rfl rfl 5 (by decide) (hW _ k_5) (fun _ h9 => h9) rfl d_RS_firstBar_16 ?_
        refine va_get (D := (dC, dI)) (ci := 2) (v := .ref (r 15)) (C := R_Gr) (T := F_Gr) (N := 7) hx hb hW i_Gr hown hK hP 2 rfl rfl 5 (by decide) (hW _ k_65) (fun _ h9 => h9) rfl d_RS_firstBar_19 ?_
        refine lv_iload hx hb d_RS_firstBar_22 (lv_at hl 6 rfl) ?_
        refine va_iald hx hb hK hP 15 12 rfl rfl (LA.ix hlp3 c_1 hg1) d_RS_firstBar_24 ?_
        refine lv_iload hx hb d_RS_firstBar_25 (lv_at hl 5 rfl) ?_
        refine lv_icmp_ge (tgt := 50) hx hb d_RS_firstBar_27 (by decide) (fun c_2 => ?_) (fun c_2 => ?_)
        · have hv := hv.trans (if_pos c_2)
          refine lv_iconst (v := 0) hx hb d_RS_firstBar_50 (by decide) ?_
          refine lv_istore (lv' := [(7, .int 0), (0, .ref (r 0)), (1, .int rb), (2, .int pc), (3, .int fr), (4, .int tt), (5, .int pr), (6, .int x6)]) hx hb d_RS_firstBar_51 hl (by decide) rfl (fun ls hl => ?_)
          refine lv_iload hx hb d_RS_firstBar_53 (lv_at hl 0 rfl) ?_
          refine lv_if_ne (tgt := 78) hx hb d_RS_firstBar_55 (by decide) (fun h9 => absurd h9 (by decide)) (fun _ => ?_)
          refine lv_aload_n hx hb d_RS_firstBar_58 rfl (lv_at hl 1 rfl) ?_
          refine va_get (D := (dC, dI)) (ci := 0) (v := .ref (r 2)) (C := R_RS) (T := F_RS) (N := 6) hx hb hW i_RS hown hK hP 0 rfl rfl 5 (by decide) (hW _ k_5) (fun _ h9 => h9) rfl d_RS_firstBar_59 ?_
          refine lv_iload hx hb d_RS_firstBar_62 (lv_at hl 7 rfl) ?_
          refine lv_iload_n hx hb d_RS_firstBar_64 rfl (lv_at hl 2 rfl) ?_
          refine lv_iload_n hx hb d_RS_firstBar_65 rfl (lv_at hl 3 rfl) ?_
          refine lv_iload_n hx hb d_RS_firstBar_66 rfl (lv_at hl 4 rfl) ?_
          refine lv_iload hx hb d_RS_firstBar_67 (lv_at hl 5 rfl) ?_
          refine rdV ⟨hx, hb, hml, hown, hW⟩ (c_Gr_isRival l dC dI r k F A x6 rb pc fr tt hI (LA.ix hlp3 c_1 hg1)) (cwV 5 hW (gIn k_66 k_67 k_68 k_52 k_69) rfl rfl rfl (by decide +kernel) ⟨Nat.le_of_ble_eq_true rfl, Nat.le_of_ble_eq_true rfl⟩) hK hP (va_recv hK hP (ci := 2) (q0 := 2) rfl rfl) rfl hl.1 rfl (Nat.le_of_ble_eq_true rfl) d_RS_firstBar_69 ⟨Nat.zero_le _, Nat.zero_le _⟩ ?_
          refine lv_if_eq (tgt := 78) hx hb d_RS_firstBar_72 (by decide) (fun c_3 => ?_) (fun c_3 => ?_)
          · have hv := hv.trans (if_pos c_3)
            refine lv_iinc (v := x6 + 1) (lv' := [(6, .int (x6 + 1)), (7, .int 0), (0, .ref (r 0)), (1, .int rb), (2, .int pc), (3, .int fr), (4, .int tt), (5, .int pr)]) hx hb d_RS_firstBar_78 hl (k := 7) rfl rfl (by decide) rfl (fun ls hl => ?_)
            refine lv_goto (tgt := 3) hx hb d_RS_firstBar_81 (by decide) ?_
            exact ih3 (x6 + 1) ls (LA.s hlp3 c_1 hg1) hv (lv_sub hl [2, 3, 4, 5, 6, 7, 0] rfl)
          · have hv := hv.trans (if_neg c_3)
            refine lv_iload hx hb d_RS_firstBar_75 (lv_at hl 7 rfl) ?_
            exact W.iret (v := x6) hx hb hr (fun t ht hW9 => ⟨x6, rfl, hv.symm, ht⟩) (fun q hq => nomatch hq) d_RS_firstBar_77
        · have hv := hv.trans (if_neg c_2)
          refine lv_aload_n hx hb d_RS_firstBar_30 rfl (lv_at hl 0 rfl) ?_
          refine va_get (D := (dC, dI)) (ci := 0) (v := .ref (r 2)) (C := R_RS) (T := F_RS) (N := 6) hx hb hW i_RS hown hK hP 0 rfl rfl 5 (by decide) (hW _ k_5) (fun _ h9 => h9) rfl d_RS_firstBar_31 ?_
          refine lv_iload hx hb d_RS_firstBar_34 (lv_at hl 6 rfl) ?_
          refine lv_aload_n hx hb d_RS_firstBar_36 rfl (lv_at hl 0 rfl) ?_
          refine va_get (D := (dC, dI)) (ci := 0) (v := .int (F 0)) (C := R_RS) (T := F_RS) (N := 6) hx hb hW i_RS hown hK hP 0 rfl rfl 0 (by decide) (hW _ k_7) (fun _ h9 => h9) rfl d_RS_firstBar_37 ?_
          refine rdV ⟨hx, hb, hml, hown, hW⟩ (c_Gr_hasBegun l dC dI r k F A x6 (F 0) hI (LA.ix hlp3 c_1 hg1)) (cwV 2 hW (gIn k_70 k_71 k_72 k_52 k_73) rfl rfl rfl (by decide +kernel) ⟨Nat.le_of_ble_eq_true rfl, Nat.le_of_ble_eq_true rfl⟩) hK hP (va_recv hK hP (ci := 2) (q0 := 2) rfl rfl) rfl hl.1 rfl (Nat.le_of_ble_eq_true rfl) d_RS_firstBar_40 ⟨Nat.zero_le _, Nat.zero_le _⟩ ?_
          refine lv_if_ne (tgt := 50) hx hb d_RS_firstBar_43 (by decide) (fun c_4 => ?_) (fun c_4 => ?_)
          · have hv := hv.trans (if_neg c_4)
            refine lv_iconst (v := 0) hx hb d_RS_firstBar_50 (by decide) ?_
            refine lv_istore (lv' := [(7, .int 0), (0, .ref (r 0)), (1, .int rb), (2, .int pc), (3, .int fr), (4, .int tt), (5, .int pr), (6, .int x6)]) hx hb d_RS_firstBar_51 hl (by decide) rfl (fun ls hl => ?_)
            refine lv_iload hx hb d_RS_firstBar_53 (lv_at hl 0 rfl) ?_
            refine lv_if_ne (tgt := 78) hx hb d_RS_firstBar_55 (by decide) (fun h9 => absurd h9 (by decide)) (fun _ => ?_)
            refine lv_aload_n hx hb d_RS_firstBar_58 rfl (lv_at hl 1 rfl) ?_
            refine va_get (D := (dC, dI)) (ci := 0) (v := .ref (r 2)) (C := R_RS) (T := F_RS) (N := 6) hx hb hW i_RS hown hK hP 0 rfl rfl 5 (by decide) (hW _ k_5) (fun _ h9 => h9) rfl d_RS_firstBar_59 ?_
            refine lv_iload hx hb d_RS_firstBar_62 (lv_at hl 7 rfl) ?_
            refine lv_iload_n hx hb d_RS_firstBar_64 rfl (lv_at hl 2 rfl) ?_
            refine lv_iload_n hx hb d_RS_firstBar_65 rfl (lv_at hl 3 rfl) ?_
            refine lv_iload_n hx hb d_RS_firstBar_66 rfl (lv_at hl 4 rfl) ?_
            refine lv_iload hx hb d_RS_firstBar_67 (lv_at hl 5 rfl) ?_
            refine rdV ⟨hx, hb, hml, hown, hW⟩ (c_Gr_isRival l dC dI r k F A x6 rb pc fr tt hI (LA.ix hlp3 c_1 hg1)) (cwV 5 hW (gIn k_66 k_67 k_68 k_52 k_69) rfl rfl rfl (by decide +kernel) ⟨Nat.le_of_ble_eq_true rfl, Nat.le_of_ble_eq_true rfl⟩) hK hP (va_recv hK hP (ci := 2) (q0 := 2) rfl rfl) rfl hl.1 rfl (Nat.le_of_ble_eq_true rfl) d_RS_firstBar_69 ⟨Nat.zero_le _, Nat.zero_le _⟩ ?_
            refine lv_if_eq (tgt := 78) hx hb d_RS_firstBar_72 (by decide) (fun c_5 => ?_) (fun c_5 => ?_)
            · have hv := hv.trans (if_pos c_5)
              refine lv_iinc (v := x6 + 1) (lv' := [(6, .int (x6 + 1)), (7, .int 0), (0, .ref (r 0)), (1, .int rb), (2, .int pc), (3, .int fr), (4, .int tt), (5, .int pr)]) hx hb d_RS_firstBar_78 hl (k := 7) rfl rfl (by decide) rfl (fun ls hl => ?_)
              refine lv_goto (tgt := 3) hx hb d_RS_firstBar_81 (by decide) ?_
              exact ih3 (x6 + 1) ls (LA.s hlp3 c_1 hg1) hv (lv_sub hl [2, 3, 4, 5, 6, 7, 0] rfl)
            · have hv := hv.trans (if_neg c_5)
              refine lv_iload hx hb d_RS_firstBar_75 (lv_at hl 7 rfl) ?_
              exact W.iret (v := x6) hx hb hr (fun t ht hW9 => ⟨x6, rfl, hv.symm, ht⟩) (fun q hq => nomatch hq) d_RS_firstBar_77
          · have hv := hv.trans (if_pos c_4)
            refine lv_iconst (v := 1) hx hb d_RS_firstBar_46 (by decide) ?_
            refine lv_goto (tgt := 51) hx hb d_RS_firstBar_47 (by decide) ?_
            refine lv_istore (lv' := [(7, .int 1), (0, .ref (r 0)), (1, .int rb), (2, .int pc), (3, .int fr), (4, .int tt), (5, .int pr), (6, .int x6)]) hx hb d_RS_firstBar_51 hl (by decide) rfl (fun ls hl => ?_)
            refine lv_iload hx hb d_RS_firstBar_53 (lv_at hl 0 rfl) ?_
            refine lv_if_ne (tgt := 78) hx hb d_RS_firstBar_55 (by decide) (fun _ => ?_) (fun h9 => absurd h9 (by decide))
            refine lv_iinc (v := x6 + 1) (lv' := [(6, .int (x6 + 1)), (7, .int 1), (0, .ref (r 0)), (1, .int rb), (2, .int pc), (3, .int fr), (4, .int tt), (5, .int pr)]) hx hb d_RS_firstBar_78 hl (k := 7) rfl rfl (by decide) rfl (fun ls hl => ?_)
            refine lv_goto (tgt := 3) hx hb d_RS_firstBar_81 (by decide) ?_
            exact ih3 (x6 + 1) ls (LA.s hlp3 c_1 hg1) hv (lv_sub hl [2, 3, 4, 5, 6, 7, 0] rfl)
  exact loop3 64 1 ls (LA.i hg0 hg1) hv (lv_sub hl [1, 2, 3, 4, 5, 6, 0] rfl)
