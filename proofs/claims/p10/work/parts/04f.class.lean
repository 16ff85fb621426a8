def f_Gr_freeAllOf_L4 (F : Nat → Int32) (A : Nat → Nat → Int32) (rb : Int32) : Nat → (Nat → Nat → Int32) → Int32 → Int32 → Int32 × SC
  | 0, _, _, _ => (0, F, A)
  | n4 + 1, B, x2, x3 => if F 3 < x3 then (x2, F, B) else (if f_Gr_isLiveOf F B x3 rb = 0 then (f_Gr_freeAllOf_L4 F A rb n4 B x2 (x3 + 1)) else (f_Gr_freeAllOf_L4 F A rb n4 (uA B 13 (upd (B 13) x3.toNatClampNeg 2)) (x2 + 1) (x3 + 1)))
def f_Gr_freeAllOf (F : Nat → Int32) (A : Nat → Nat → Int32) (rb : Int32) : Int32 × SC := f_Gr_freeAllOf_L4 F A rb 64 A 0 1
set_option maxHeartbeats 4000000 in
set_option maxRecDepth 100000 in
theorem c_Gr_freeAllOf (l : Launch) (dC : Nat → ClassId) (dI : Nat → Nat → Nat) (r : Nat → Nat) (k : Nat → ClassId) (F : Nat → Int32) (A : Nat → Nat → Int32) (sz : Nat) (rb : Int32) (hI : CI F) : Met l y_Gr_freeAllOf w_Gr_freeAllOf ({ frames := 2, cells := 0, slots := 0, locals := 43 }) (va_Pc [.ref (r 2), .int rb] (SP (dC, dI) (wC r k F A) (tC k) sz)) (va_Qi (fun v (u : SC) => (v, u) = f_Gr_freeAllOf F A rb) (fun (u : SC) t => aW (dC, dI) (tC k) (va_A (wC r k F A) sz) (wC r k u.1 u.2) t) (va_A (wC r k F A) sz)) 0 0 (va_A (wC r k F A) sz) := by
  refine Met.ofW (cc := b_Gr_freeAllOf) (maxL := 4) (ret := (some .int)) (by decide) rfl ?_
  intro p e s m args below meth c s₁ B hml hv0
  obtain ⟨rfl, hsz, hP, hK, hD0⟩ := hv0
  have hx := B.exec
  have hb := B.bytes
  have hr := B.returns
  have hts := atoms_spec (ws := w_Gr_freeAllOf) B.pre
  have hW : ∀ w ∈ WALL, w.before ([.ref (r 2), .int rb] : List Value).toArray s = true := fun w h => hts w (List.mem_cons_of_mem _ h)
  have hown : s.vm.findClass R_Gr = some m.cls := findClass_of_methodNamed B.named
  have hlocks := B.notSynchronized
  subst hsz
  have hD := hD0.self (sz := s.heap.size)
  generalize hAe : va_A (wC r k F A) s.heap.size = Ad at hD ⊢
  have hA : ∀ q : Nat, s.heap.size ≤ q → Ad q := fun q h => by rw [← hAe]; exact Or.inr h
  have hS : va_S Ad s.heap s.heap [] := va_S.rf
  have hl := lv_entry ([.ref (r 2), .int rb]) (n := 4) (Nat.le_of_ble_eq_true rfl)
  rw [lg_entry_eq]
  generalize (lg_sl ([.ref (r 2), .int rb]) ++ List.replicate (4 - (lg_sl ([.ref (r 2), .int rb])).length) Slot.unset).toArray = ls at hl ⊢
  have hl : lv_has ls 4 [(0, .ref (r 2)), (1, .int rb)] := hl
  obtain ⟨⟨hp0, hp1⟩, ⟨hr0, hr1⟩, hg0, hg1⟩ := id hI; have hr2 : (F 2).toInt ≤ 60 := Int.le_trans hr1 (by decide)
  have hv := f_Gr_freeAllOf.eq_1 F A rb
  refine lv_iconst (v := 0) hx hb d_Gr_freeAllOf_0 (by decide) ?_
  refine lv_istore_n (lv' := [(2, .int 0), (0, .ref (r 2)), (1, .int rb)]) hx hb d_Gr_freeAllOf_1 rfl hl (by decide) rfl (fun ls hl => ?_)
  refine lv_iconst (v := 1) hx hb d_Gr_freeAllOf_2 (by decide) ?_
  refine lv_istore_n (lv' := [(3, .int 1), (2, .int 0), (0, .ref (r 2)), (1, .int rb)]) hx hb d_Gr_freeAllOf_3 rfl hl (by decide) rfl (fun ls hl => ?_)
  have loop4 : ∀ (n4 : Nat) (x2 : Int32) (x3 : Int32) (B : Nat → Nat → Int32) (H : Heap) (locs : List Loc) (ls : Array Slot), LA (F 3) x3 n4 → f_Gr_freeAllOf F A rb = f_Gr_freeAllOf_L4 F A rb n4 B x2 x3 → va_P (dC, dI) classes (wC r k F B) H → va_D Ad (wC r k F B) → va_S Ad s.heap H locs → lv_has ls 4 [(0, .ref (r 2)), (1, .int rb), (2, .int x2), (3, .int x3)] → W p l e (headSpec w_Gr_freeAllOf ({ frames := 2, cells := 0, slots := 0, locals := 43 })).room s m ([.ref (r 2), .int rb] : List Value).toArray below meth c H locs 0 0 (MQ below (va_Qi (fun v (u : SC) => (v, u) = f_Gr_freeAllOf F A rb) (fun (u : SC) t => aW (dC, dI) (tC k) Ad (wC r k u.1 u.2) t) Ad) ([.ref (r 2), .int rb] : List Value).toArray s 0 0 Ad) (F0 m 4 ls []) := by
    intro n4
    induction n4 with
    | zero => intro x2 x3 B H locs ls hlp; exact (hlp.z).elim
    | succ n4 ih4 =>
      intro x2 x3 B H locs ls hlp4 hv hP hD hS hl
      rw [f_Gr_freeAllOf_L4] at hv
      refine lv_iload_n hx hb d_Gr_freeAllOf_4 rfl (lv_at hl 3 rfl) ?_
      refine lv_aload_n hx hb d_Gr_freeAllOf_5 rfl (lv_at hl 0 rfl) ?_
      refine va_get (D := (dC, dI)) (ci := 2) (v := .int (F 3)) (C := R_Gr) (T := F_Gr) (N := 7) hx hb hW i_Gr hown hK hP 2 rfl rfl 0 (by decide) (hW _ k_74) (fun _ h9 => h9) rfl d_Gr_freeAllOf_6 ?_
      refine lv_icmp_gt (tgt := 37) hx hb d_Gr_freeAllOf_9 (by decide) (fun c_1 => ?_) (fun c_1 => ?_)
      · have hv := hv.trans (if_pos c_1)
        refine lv_iload_n hx hb d_Gr_freeAllOf_37 rfl (lv_at hl 2 rfl) ?_
        exact W.iret (v := x2) hx hb hr (fun t ht hW9 => ⟨⟨x2, (F, B), rfl, hv.symm, by rw [ht]; exact hP, va_K.moved hW9.alike hK, hD⟩, hS.F ht⟩) hS.2.2 d_Gr_freeAllOf_38
      · have hv := hv.trans (if_neg c_1)
        refine lv_aload_n hx hb d_Gr_freeAllOf_12 rfl (lv_at hl 0 rfl) ?_
        refine lv_iload_n hx hb d_Gr_freeAllOf_13 rfl (lv_at hl 3 rfl) ?_
        refine lv_iload_n hx hb d_Gr_freeAllOf_14 rfl (lv_at hl 1 rfl) ?_
        refine rdV ⟨hx, hb, hml, hown, hW⟩ (c_Gr_isLiveOf l dC dI r k F B x3 rb hI (LA.ix hlp4 c_1 hg1)) (cwV 2 hW (gIn k_110 k_111 k_112 k_52 k_113) rfl rfl rfl (by decide +kernel) ⟨Nat.le_of_ble_eq_true rfl, Nat.le_of_ble_eq_true rfl⟩) hK hP (va_recv hK hP (ci := 2) (q0 := 2) rfl rfl) rfl hl.1 rfl (Nat.le_of_ble_eq_true rfl) d_Gr_freeAllOf_15 ⟨Nat.zero_le _, Nat.zero_le _⟩ ?_
        refine lv_if_eq (tgt := 31) hx hb d_Gr_freeAllOf_18 (by decide) (fun c_2 => ?_) (fun c_2 => ?_)
        · have hv := hv.trans (if_pos c_2)
          refine lv_iinc (v := x3 + 1) (lv' := [(3, .int (x3 + 1)), (0, .ref (r 2)), (1, .int rb), (2, .int x2)]) hx hb d_Gr_freeAllOf_31 hl (k := 3) rfl rfl (by decide) rfl (fun ls hl => ?_)
          refine lv_goto (tgt := 4) hx hb d_Gr_freeAllOf_34 (by decide) ?_
          exact ih4 x2 (x3 + 1) B H locs ls (LA.s hlp4 c_1 hg1) hv hP hD hS (lv_sub hl [1, 2, 3, 0] rfl)
        · have hv := hv.trans (if_neg c_2)
          refine lv_aload_n hx hb d_Gr_freeAllOf_21 rfl (lv_at hl 0 rfl) ?_
          refine va_get (D := (dC, dI)) (ci := 2) (v := .ref (r 16)) (C := R_Gr) (T := F_Gr) (N := 7) hx hb hW i_Gr hown hK hP 2 rfl rfl 6 (by decide) (hW _ k_48) (fun _ h9 => h9) rfl d_Gr_freeAllOf_22 ?_
          refine lv_iload_n hx hb d_Gr_freeAllOf_25 rfl (lv_at hl 3 rfl) ?_
          refine lv_iconst (v := 2) hx hb d_Gr_freeAllOf_26 (by decide) ?_
          refine va_iast hx hb hK hP hD hS 16 13 rfl rfl (LA.ix hlp4 c_1 hg1) d_Gr_freeAllOf_27 (fun H locs hP hD hS => ?_)
          have hP := pCA_13 hP
          have hD := dCA_13 hD
          generalize hAg1 : (uA B 13 (upd (B 13) x3.toNatClampNeg 2)) = A1_ at hP hD hv
          refine lv_iinc (v := x2 + 1) (lv' := [(2, .int (x2 + 1)), (0, .ref (r 2)), (1, .int rb), (3, .int x3)]) hx hb d_Gr_freeAllOf_28 hl (k := 2) rfl rfl (by decide) rfl (fun ls hl => ?_)
          refine lv_iinc (v := x3 + 1) (lv' := [(3, .int (x3 + 1)), (2, .int (x2 + 1)), (0, .ref (r 2)), (1, .int rb)]) hx hb d_Gr_freeAllOf_31 hl (k := 3) rfl rfl (by decide) rfl (fun ls hl => ?_)
          refine lv_goto (tgt := 4) hx hb d_Gr_freeAllOf_34 (by decide) ?_
          exact ih4 (x2 + 1) (x3 + 1) A1_ H locs ls (LA.s hlp4 c_1 hg1) hv hP hD hS (lv_sub hl [2, 3, 1, 0] rfl)
  exact loop4 64 0 1 A _ _ ls (LA.i hg0 hg1) hv hP hD hS (lv_sub hl [2, 3, 1, 0] rfl)
theorem kf_Gr_freeAllOf_L (F : Nat → Int32) (A : Nat → Nat → Int32) (rb : Int32) : ∀ (n : Nat) (B : Nat → Nat → Int32) (i0 i1 : Int32), (f_Gr_freeAllOf_L4 F A rb n B i0 i1).2.1 = F := by
  intro n
  induction n with
  | zero => intros; rfl
  | succ n ih =>
    intro B i0 i1
    rw [f_Gr_freeAllOf_L4]
    repeat' split
    all_goals first | rfl | exact ih _ _ _
theorem kf_Gr_freeAllOf (F : Nat → Int32) (A : Nat → Nat → Int32) (rb : Int32) : (f_Gr_freeAllOf F A rb).2.1 = F := kf_Gr_freeAllOf_L F A rb 64 A 0 1
def f_RS_halt (F : Nat → Int32) (A : Nat → Nat → Int32) (rb on : Int32) : Nat × Int32 × SC := if f_RS_needRobot F A rb = 0 then (if A 6 rb.toNatClampNeg = on then (3, 0, F, A) else (if on = 0 then (0, 0, F, (uA A 6 (upd (A 6) rb.toNatClampNeg (vp_nar .boolean on)))) else (0, (f_Gr_freeAllOf F (uA (uA A 6 (upd (A 6) rb.toNatClampNeg (vp_nar .boolean on))) 5 (upd ((uA A 6 (upd (A 6) rb.toNatClampNeg (vp_nar .boolean on))) 5) rb.toNatClampNeg (-1))) rb).1, ((f_Gr_freeAllOf F (uA (uA A 6 (upd (A 6) rb.toNatClampNeg (vp_nar .boolean on))) 5 (upd ((uA A 6 (upd (A 6) rb.toNatClampNeg (vp_nar .boolean on))) 5) rb.toNatClampNeg (-1))) rb).2.1), ((f_Gr_freeAllOf F (uA (uA A 6 (upd (A 6) rb.toNatClampNeg (vp_nar .boolean on))) 5 (upd ((uA A 6 (upd (A 6) rb.toNatClampNeg (vp_nar .boolean on))) 5) rb.toNatClampNeg (-1))) rb).2.2)))) else (f_RS_needRobot F A rb, 0, F, A)
set_option maxHeartbeats 4000000 in
set_option maxRecDepth 100000 in
theorem c_RS_halt_k (l : Launch) (dC : Nat → ClassId) (dI : Nat → Nat → Nat) (r : Nat → Nat) (k : Nat → ClassId) (F : Nat → Int32) (A : Nat → Nat → Int32) (sz : Nat) (rb on : Int32) (hI : CI F) (hk : (f_RS_halt F A rb on).1 = 0) : Met l y_RS_halt w_RS_halt ({ frames := 3, cells := 0, slots := 0, locals := 66 }) (va_Pc [.ref (r 0), .int rb, .int on] (SP (dC, dI) (wC r k F A) (tC k) sz)) (va_Qi (fun v (u : SC) => (0, v, u) = f_RS_halt F A rb on) (fun (u : SC) t => aW (dC, dI) (tC k) (va_A (wC r k F A) sz) (wC r k u.1 u.2) t) (va_A (wC r k F A) sz)) 0 0 (va_A (wC r k F A) sz) := by
  refine Met.ofW (cc := b_RS_halt) (maxL := 3) (ret := (some .int)) (by decide) rfl ?_
  intro p e s m args below meth c s₁ B hml hv0
  obtain ⟨rfl, hsz, hP, hK, hD0⟩ := hv0
  have hx := B.exec
  have hb := B.bytes
  have hr := B.returns
  have hts := atoms_spec (ws := w_RS_halt) B.pre
  have hW : ∀ w ∈ WALL, w.before ([.ref (r 0), .int rb, .int on] : List Value).toArray s = true := fun w h => hts w (List.mem_cons_of_mem _ h)
  have hown : s.vm.findClass R_RS = some m.cls := findClass_of_methodNamed B.named
  have hlocks := B.notSynchronized
  subst hsz
  have hD := hD0.self (sz := s.heap.size)
  generalize hAe : va_A (wC r k F A) s.heap.size = Ad at hD ⊢
  have hA : ∀ q : Nat, s.heap.size ≤ q → Ad q := fun q h => by rw [← hAe]; exact Or.inr h
  have hS : va_S Ad s.heap s.heap [] := va_S.rf
  have hl := lv_entry ([.ref (r 0), .int rb, .int on]) (n := 3) (Nat.le_of_ble_eq_true rfl)
  rw [lg_entry_eq]
  generalize (lg_sl ([.ref (r 0), .int rb, .int on]) ++ List.replicate (3 - (lg_sl ([.ref (r 0), .int rb, .int on])).length) Slot.unset).toArray = ls at hl ⊢
  have hl : lv_has ls 3 [(0, .ref (r 0)), (1, .int rb), (2, .int on)] := hl
  obtain ⟨⟨hp0, hp1⟩, ⟨hr0, hr1⟩, hg0, hg1⟩ := id hI; have hr2 : (F 2).toInt ≤ 60 := Int.le_trans hr1 (by decide)
  have hv := f_RS_halt.eq_1 F A rb on
  refine lv_aload_n hx hb d_RS_halt_0 rfl (lv_at hl 0 rfl) ?_
  refine lv_iload_n hx hb d_RS_halt_1 rfl (lv_at hl 1 rfl) ?_
  by_cases c_1 : f_RS_needRobot F A rb = 0
  · have hv := hv.trans (if_pos c_1)
    refine rdVv ⟨hx, hb, hml, hown, hW⟩ (c_RS_needRobot_k l dC dI r k F A rb   c_1) (cwV 1 hW (gIn k_77 k_78 k_79 k_15 k_80) rfl rfl rfl (by decide +kernel) ⟨Nat.le_of_ble_eq_true rfl, Nat.le_of_ble_eq_true rfl⟩) hK hP (va_recv hK hP (ci := 0) (q0 := 0) rfl rfl) rfl hl.1 rfl (Nat.le_of_ble_eq_true rfl) d_RS_halt_2 ⟨Nat.zero_le _, Nat.zero_le _⟩ ?_
    refine lv_aload_n hx hb d_RS_halt_5 rfl (lv_at hl 0 rfl) ?_
    refine va_get (D := (dC, dI)) (ci := 0) (v := .ref (r 1)) (C := R_RS) (T := F_RS) (N := 6) hx hb hW i_RS hown hK hP 0 rfl rfl 4 (by decide) (hW _ k_3) (fun _ h9 => h9) rfl d_RS_halt_6 ?_
    refine va_get (D := (dC, dI)) (ci := 1) (v := .ref (r 9)) (C := R_Rb) (T := F_Rb) (N := 7) hx hb hW i_Rb hown hK hP 1 rfl rfl 5 (by decide) (hW _ k_41) (fun _ h9 => h9) rfl d_RS_halt_9 ?_
    refine lv_iload_n hx hb d_RS_halt_12 rfl (lv_at hl 1 rfl) ?_
    refine va_zald hx hb hK hP 9 6 rfl rfl (ixR hI c_1) d_RS_halt_13 ?_
    refine lv_iload_n hx hb d_RS_halt_14 rfl (lv_at hl 2 rfl) ?_
    refine lv_icmp_ne (tgt := 28) hx hb d_RS_halt_15 (by decide) (fun c_2 => ?_) (fun c_2 => ?_)
    · have hv := hv.trans (if_neg c_2)
      refine lv_aload_n hx hb d_RS_halt_28 rfl (lv_at hl 0 rfl) ?_
      refine va_get (D := (dC, dI)) (ci := 0) (v := .ref (r 1)) (C := R_RS) (T := F_RS) (N := 6) hx hb hW i_RS hown hK hP 0 rfl rfl 4 (by decide) (hW _ k_3) (fun _ h9 => h9) rfl d_RS_halt_29 ?_
      refine va_get (D := (dC, dI)) (ci := 1) (v := .ref (r 9)) (C := R_Rb) (T := F_Rb) (N := 7) hx hb hW i_Rb hown hK hP 1 rfl rfl 5 (by decide) (hW _ k_41) (fun _ h9 => h9) rfl d_RS_halt_32 ?_
      refine lv_iload_n hx hb d_RS_halt_35 rfl (lv_at hl 1 rfl) ?_
      refine lv_iload_n hx hb d_RS_halt_36 rfl (lv_at hl 2 rfl) ?_
      refine va_zast hx hb hK hP hD hS 9 6 rfl rfl (ixR hI c_1) d_RS_halt_37 (fun H locs hP hD hS => ?_)
      have hP := pCA_6 hP
      have hD := dCA_6 hD
      generalize hAg1 : (uA A 6 (upd (A 6) rb.toNatClampNeg (vp_nar .boolean on))) = A1_ at hP hD hv
      refine lv_iload_n hx hb d_RS_halt_38 rfl (lv_at hl 2 rfl) ?_
      refine lv_if_ne (tgt := 44) hx hb d_RS_halt_39 (by decide) (fun c_3 => ?_) (fun c_3 => ?_)
      · have hv := hv.trans (if_neg c_3)
        refine lv_aload_n hx hb d_RS_halt_44 rfl (lv_at hl 0 rfl) ?_
        refine va_get (D := (dC, dI)) (ci := 0) (v := .ref (r 1)) (C := R_RS) (T := F_RS) (N := 6) hx hb hW i_RS hown hK hP 0 rfl rfl 4 (by decide) (hW _ k_3) (fun _ h9 => h9) rfl d_RS_halt_45 ?_
        refine va_get (D := (dC, dI)) (ci := 1) (v := .ref (r 8)) (C := R_Rb) (T := F_Rb) (N := 7) hx hb hW i_Rb hown hK hP 1 rfl rfl 4 (by decide) (hW _ k_148) (fun _ h9 => h9) rfl d_RS_halt_48 ?_
        refine lv_iload_n hx hb d_RS_halt_51 rfl (lv_at hl 1 rfl) ?_
        refine lv_iconst (v := (-1)) hx hb d_RS_halt_52 (by decide) ?_
        refine va_iast hx hb hK hP hD hS 8 5 rfl rfl (ixR hI c_1) d_RS_halt_53 (fun H locs hP hD hS => ?_)
        have hP := pCA_5 hP
        have hD := dCA_5 hD
        generalize hAg2 : (uA A1_ 5 (upd (A1_ 5) rb.toNatClampNeg (-1))) = A2_ at hP hD hv
        refine lv_aload_n hx hb d_RS_halt_54 rfl (lv_at hl 0 rfl) ?_
        refine va_get (D := (dC, dI)) (ci := 0) (v := .ref (r 2)) (C := R_RS) (T := F_RS) (N := 6) hx hb hW i_RS hown hK hP 0 rfl rfl 5 (by decide) (hW _ k_5) (fun _ h9 => h9) rfl d_RS_halt_55 ?_
        refine lv_iload_n hx hb d_RS_halt_58 rfl (lv_at hl 1 rfl) ?_
        refine stVi (wf := fun u : SC => wC r k u.1 u.2) ⟨hx, hb, hml, hown, hW⟩ (c_Gr_freeAllOf l dC dI r k F A2_ _ rb hI ) (cwV 1 hW (gIn k_161 k_162 k_163 k_52 k_164) rfl rfl rfl (by decide +kernel) ⟨Nat.le_of_ble_eq_true rfl, Nat.le_of_ble_eq_true rfl⟩) hK hP hD hS hA (va_recv hK hP (ci := 2) (q0 := 2) rfl rfl) rfl hl.1 rfl (Nat.le_of_ble_eq_true rfl) d_RS_halt_59 ⟨Nat.zero_le _, Nat.zero_le _⟩ (fun H locs hP hD hS => ?_)
        have hP : va_P (dC, dI) classes (wC r k ((f_Gr_freeAllOf F A2_ rb).2.1) ((f_Gr_freeAllOf F A2_ rb).2.2)) H := hP
        have hD : va_D Ad (wC r k ((f_Gr_freeAllOf F A2_ rb).2.1) ((f_Gr_freeAllOf F A2_ rb).2.2)) := hD
        exact W.iret (v := (f_Gr_freeAllOf F A2_ rb).1) hx hb hr (fun t ht hW9 => ⟨⟨(f_Gr_freeAllOf F A2_ rb).1, (((f_Gr_freeAllOf F A2_ rb).2.1), ((f_Gr_freeAllOf F A2_ rb).2.2)), rfl, hv.symm, by rw [ht]; exact hP, va_K.moved hW9.alike hK, hD⟩, hS.F ht⟩) hS.2.2 d_RS_halt_62
      · have hv := hv.trans (if_pos c_3)
        refine lv_iconst (v := 0) hx hb d_RS_halt_42 (by decide) ?_
        exact W.iret (v := 0) hx hb hr (fun t ht hW9 => ⟨⟨0, (F, A1_), rfl, hv.symm, by rw [ht]; exact hP, va_K.moved hW9.alike hK, hD⟩, hS.F ht⟩) hS.2.2 d_RS_halt_43
    · have hv := hv.trans (if_pos c_2)
      rw [hv] at hk
      exact absurd (show (3 : Nat) = 0 from hk) (by decide)
  · have hv := hv.trans (if_neg c_1)
    rw [hv] at hk
    exact absurd hk c_1
set_option maxHeartbeats 4000000 in
set_option maxRecDepth 100000 in
theorem c_RS_halt_x (l : Launch) (hl9 : l.stackTraces = false) (dC : Nat → ClassId) (dI : Nat → Nat → Nat) (r : Nat → Nat) (k : Nat → ClassId) (F : Nat → Int32) (A : Nat → Nat → Int32) (sz : Nat) (rb on : Int32) (hI : CI F) (hk : ¬ (f_RS_halt F A rb on).1 = 0) : vx_Met l y_RS_halt w_RS_halt ({ frames := 7, cells := 1, slots := 6, locals := 103 }) (va_Pc [.ref (r 0), .int rb, .int on] (XP (dC, dI) (wC r k F A) (tC k) sz)) (va_Qi (fun _ (_ : SC) => False) (fun (u : SC) t => aW (dC, dI) (tC k) (va_A (wC r k F A) sz) (wC r k u.1 u.2) t) (va_A (wC r k F A) sz)) (vx_X (fun u : Nat => f_RS_halt F A rb on = (u, 0, F, A)) (fun E u t => E = exN u ∧ aW (dC, dI) (tC k) (va_A (wC r k F A) sz) (wC r k F A) t) (va_A (wC r k F A) sz)) 1 6 (va_A (wC r k F A) sz) := by
  refine vx_ofW (cc := b_RS_halt) (maxL := 3) (ret := (some .int)) (by decide) rfl ?_
  intro p e s m args below meth c s₁ B hml hEx hv0
  obtain ⟨rfl, ⟨hsz, hP, hK, hD0⟩, hXS⟩ := hv0
  have hx := B.exec
  have hb := B.bytes
  have hr := B.returns
  have hts := atoms_spec (ws := w_RS_halt) B.pre
  have hW : ∀ w ∈ WALL, w.before ([.ref (r 0), .int rb, .int on] : List Value).toArray s = true := fun w h => hts w (List.mem_cons_of_mem _ h)
  have hown : s.vm.findClass R_RS = some m.cls := findClass_of_methodNamed B.named
  have hlocks := B.notSynchronized
  subst hsz
  have hD := hD0.self (sz := s.heap.size)
  generalize hAe : va_A (wC r k F A) s.heap.size = Ad at hD hXS ⊢
  have hA : ∀ q : Nat, s.heap.size ≤ q → Ad q := fun q h => by rw [← hAe]; exact Or.inr h
  have hS : va_S Ad s.heap s.heap [] := va_S.rf
  have hl := lv_entry ([.ref (r 0), .int rb, .int on]) (n := 3) (Nat.le_of_ble_eq_true rfl)
  rw [lg_entry_eq]
  generalize (lg_sl ([.ref (r 0), .int rb, .int on]) ++ List.replicate (3 - (lg_sl ([.ref (r 0), .int rb, .int on])).length) Slot.unset).toArray = ls at hl ⊢
  have hl : lv_has ls 3 [(0, .ref (r 0)), (1, .int rb), (2, .int on)] := hl
  obtain ⟨⟨hp0, hp1⟩, ⟨hr0, hr1⟩, hg0, hg1⟩ := id hI; have hr2 : (F 2).toInt ≤ 60 := Int.le_trans hr1 (by decide)
  have hv := f_RS_halt.eq_1 F A rb on
  refine lv_aload_n hx hb d_RS_halt_0 rfl (lv_at hl 0 rfl) ?_
  refine lv_iload_n hx hb d_RS_halt_1 rfl (lv_at hl 1 rfl) ?_
  by_cases c_1 : f_RS_needRobot F A rb = 0
  · have hv := hv.trans (if_pos c_1)
    refine rdVv ⟨hx, hb, hml, hown, hW⟩ (c_RS_needRobot_k l dC dI r k F A rb   c_1) (cwV 1 hW (gIn k_77 k_78 k_79 k_15 k_80) rfl rfl rfl (by decide +kernel) ⟨Nat.le_of_ble_eq_true rfl, Nat.le_of_ble_eq_true rfl⟩) hK hP (va_recv hK hP (ci := 0) (q0 := 0) rfl rfl) rfl hl.1 rfl (Nat.le_of_ble_eq_true rfl) d_RS_halt_2 ⟨Nat.zero_le _, Nat.zero_le _⟩ ?_
    refine lv_aload_n hx hb d_RS_halt_5 rfl (lv_at hl 0 rfl) ?_
    refine va_get (D := (dC, dI)) (ci := 0) (v := .ref (r 1)) (C := R_RS) (T := F_RS) (N := 6) hx hb hW i_RS hown hK hP 0 rfl rfl 4 (by decide) (hW _ k_3) (fun _ h9 => h9) rfl d_RS_halt_6 ?_
    refine va_get (D := (dC, dI)) (ci := 1) (v := .ref (r 9)) (C := R_Rb) (T := F_Rb) (N := 7) hx hb hW i_Rb hown hK hP 1 rfl rfl 5 (by decide) (hW _ k_41) (fun _ h9 => h9) rfl d_RS_halt_9 ?_
    refine lv_iload_n hx hb d_RS_halt_12 rfl (lv_at hl 1 rfl) ?_
    refine va_zald hx hb hK hP 9 6 rfl rfl (ixR hI c_1) d_RS_halt_13 ?_
    refine lv_iload_n hx hb d_RS_halt_14 rfl (lv_at hl 2 rfl) ?_
    refine lv_icmp_ne (tgt := 28) hx hb d_RS_halt_15 (by decide) (fun c_2 => ?_) (fun c_2 => ?_)
    · have hv := hv.trans (if_neg c_2)
      exact (hk ((congrArg Prod.fst hv).trans (by first | rfl | ((repeat' split) <;> (first | rfl | exact cd_next_L _ _ _ _ _ _ _))))).elim
    · have hv := hv.trans (if_pos c_2)
      exact thr hx hb hl9 hown hW hXS tw_16 hS (hl.1.trans hml.symm) d_RS_halt_18 d_RS_halt_21 d_RS_halt_22 d_RS_halt_24 d_RS_halt_27 hEx (Nat.le_of_ble_eq_true rfl) (Nat.le_of_ble_eq_true rfl) (Nat.le_of_ble_eq_true rfl) (Nat.le_of_ble_eq_true rfl) hlocks (fun t ha hsz hk9 => ⟨3, hv, ⟨rfl, hP.kept (fun k9 q hq => hk9 q.1 (hP k9 q hq).lt), va_K.moved ha hK, hD⟩, Nat.le_trans hS.1 hsz, fun q h1 h2 => (hk9 q (Nat.lt_of_lt_of_le h1 hS.1)).trans (hS.2.1 q h1 h2)⟩) hS.2.2 (Nat.le_of_ble_eq_true rfl) (Nat.le_of_ble_eq_true rfl)
  · have hv := hv.trans (if_neg c_1)
    refine gdV ⟨hx, hb, hml, hown, hW⟩ (c_RS_needRobot_x l hl9 dC dI r k F A _ rb   c_1) (cwV 1 hW (gIn k_77 k_78 k_79 k_15 k_80) rfl rfl rfl (by decide +kernel) ⟨Nat.le_of_ble_eq_true rfl, Nat.le_of_ble_eq_true rfl⟩) hK hP hXS hA (va_recv hK hP (ci := 0) (q0 := 0) rfl rfl) hS rfl hl.1 rfl (Nat.le_of_ble_eq_true rfl) d_RS_halt_2 ⟨Nat.le_of_ble_eq_true rfl, Nat.le_of_ble_eq_true rfl⟩ (fun H locs q9 ce hP hS hce hcv hcl => ?_)
    exact vx_out (E := exN (f_RS_needRobot F A rb)) (fun x hx => (hEx x hx).elim) hlocks hce hcv hcl (fun t ht ha => ⟨f_RS_needRobot F A rb, hv, ⟨rfl, by rw [ht]; exact hP, va_K.moved ha hK, hD⟩, hS.F ht⟩) hS.2.2 (Nat.le_of_ble_eq_true rfl) (Nat.le_of_ble_eq_true rfl)
def f_RS_report (F : Nat → Int32) (A : Nat → Nat → Int32) (rb : Int32) : Nat × Int32 × SC := if f_RS_needRobot F A rb = 0 then (0, f_Rb_isSilent F A rb (F 0), F, (uA A 7 (upd (A 7) rb.toNatClampNeg (F 0)))) else (f_RS_needRobot F A rb, 0, F, A)
set_option maxHeartbeats 4000000 in
set_option maxRecDepth 100000 in
theorem c_RS_report_k (l : Launch) (dC : Nat → ClassId) (dI : Nat → Nat → Nat) (r : Nat → Nat) (k : Nat → ClassId) (F : Nat → Int32) (A : Nat → Nat → Int32) (sz : Nat) (rb : Int32) (hI : CI F) (hk : (f_RS_report F A rb).1 = 0) : Met l y_RS_report w_RS_report ({ frames := 1, cells := 0, slots := 0, locals := 22 }) (va_Pc [.ref (r 0), .int rb] (SP (dC, dI) (wC r k F A) (tC k) sz)) (va_Qi (fun v (u : SC) => (0, v, u) = f_RS_report F A rb) (fun (u : SC) t => aW (dC, dI) (tC k) (va_A (wC r k F A) sz) (wC r k u.1 u.2) t) (va_A (wC r k F A) sz)) 0 0 (va_A (wC r k F A) sz) := by
  refine Met.ofW (cc := b_RS_report) (maxL := 3) (ret := (some .boolean)) (by decide) rfl ?_
  intro p e s m args below meth c s₁ B hml hv0
  obtain ⟨rfl, hsz, hP, hK, hD0⟩ := hv0
  have hx := B.exec
  have hb := B.bytes
  have hr := B.returns
  have hts := atoms_spec (ws := w_RS_report) B.pre
  have hW : ∀ w ∈ WALL, w.before ([.ref (r 0), .int rb] : List Value).toArray s = true := fun w h => hts w (List.mem_cons_of_mem _ h)
  have hown : s.vm.findClass R_RS = some m.cls := findClass_of_methodNamed B.named
  have hlocks := B.notSynchronized
  subst hsz
  have hD := hD0.self (sz := s.heap.size)
  generalize hAe : va_A (wC r k F A) s.heap.size = Ad at hD ⊢
  have hA : ∀ q : Nat, s.heap.size ≤ q → Ad q := fun q h => by rw [← hAe]; exact Or.inr h
  have hS : va_S Ad s.heap s.heap [] := va_S.rf
  have hl := lv_entry ([.ref (r 0), .int rb]) (n := 3) (Nat.le_of_ble_eq_true rfl)
  rw [lg_entry_eq]
  generalize (lg_sl ([.ref (r 0), .int rb]) ++ List.replicate (3 - (lg_sl ([.ref (r 0), .int rb])).length) Slot.unset).toArray = ls at hl ⊢
  have hl : lv_has ls 3 [(0, .ref (r 0)), (1, .int rb)] := hl
  obtain ⟨⟨hp0, hp1⟩, ⟨hr0, hr1⟩, hg0, hg1⟩ := id hI; have hr2 : (F 2).toInt ≤ 60 := Int.le_trans hr1 (by decide)
  have hv := f_RS_report.eq_1 F A rb
  refine lv_aload_n hx hb d_RS_report_0 rfl (lv_at hl 0 rfl) ?_
  refine lv_iload_n hx hb d_RS_report_1 rfl (lv_at hl 1 rfl) ?_
  by_cases c_1 : f_RS_needRobot F A rb = 0
  · have hv := hv.trans (if_pos c_1)
    refine rdVv ⟨hx, hb, hml, hown, hW⟩ (c_RS_needRobot_k l dC dI r k F A rb   c_1) (cwV 1 hW (gIn k_77 k_78 k_79 k_15 k_80) rfl rfl rfl (by decide +kernel) ⟨Nat.le_of_ble_eq_true rfl, Nat.le_of_ble_eq_true rfl⟩) hK hP (va_recv hK hP (ci := 0) (q0 := 0) rfl rfl) rfl hl.1 rfl (Nat.le_of_ble_eq_true rfl) d_RS_report_2 ⟨Nat.zero_le _, Nat.zero_le _⟩ ?_
    refine lv_aload_n hx hb d_RS_report_5 rfl (lv_at hl 0 rfl) ?_
    refine va_get (D := (dC, dI)) (ci := 0) (v := .ref (r 1)) (C := R_RS) (T := F_RS) (N := 6) hx hb hW i_RS hown hK hP 0 rfl rfl 4 (by decide) (hW _ k_3) (fun _ h9 => h9) rfl d_RS_report_6 ?_
    refine lv_iload_n hx hb d_RS_report_9 rfl (lv_at hl 1 rfl) ?_
    refine lv_aload_n hx hb d_RS_report_10 rfl (lv_at hl 0 rfl) ?_
    refine va_get (D := (dC, dI)) (ci := 0) (v := .int (F 0)) (C := R_RS) (T := F_RS) (N := 6) hx hb hW i_RS hown hK hP 0 rfl rfl 0 (by decide) (hW _ k_7) (fun _ h9 => h9) rfl d_RS_report_11 ?_
    refine rdV ⟨hx, hb, hml, hown, hW⟩ (c_Rb_isSilent l dC dI r k F A rb (F 0) hI (ixR hI c_1)) (cwV 2 hW (gIn k_42 k_43 k_44 k_33 k_45) rfl rfl rfl (by decide +kernel) ⟨Nat.le_of_ble_eq_true rfl, Nat.le_of_ble_eq_true rfl⟩) hK hP (va_recv hK hP (ci := 1) (q0 := 1) rfl rfl) rfl hl.1 rfl (Nat.le_of_ble_eq_true rfl) d_RS_report_14 ⟨Nat.zero_le _, Nat.zero_le _⟩ ?_
    refine lv_istore_n (lv' := [(2, .int (f_Rb_isSilent F A rb (F 0))), (0, .ref (r 0)), (1, .int rb)]) hx hb d_RS_report_17 rfl hl (by decide) rfl (fun ls hl => ?_)
    refine lv_aload_n hx hb d_RS_report_18 rfl (lv_at hl 1 rfl) ?_
    refine va_get (D := (dC, dI)) (ci := 0) (v := .ref (r 1)) (C := R_RS) (T := F_RS) (N := 6) hx hb hW i_RS hown hK hP 0 rfl rfl 4 (by decide) (hW _ k_3) (fun _ h9 => h9) rfl d_RS_report_19 ?_
    refine va_get (D := (dC, dI)) (ci := 1) (v := .ref (r 10)) (C := R_Rb) (T := F_Rb) (N := 7) hx hb hW i_Rb hown hK hP 1 rfl rfl 6 (by decide) (hW _ k_93) (fun _ h9 => h9) rfl d_RS_report_22 ?_
    refine lv_iload_n hx hb d_RS_report_25 rfl (lv_at hl 2 rfl) ?_
    refine lv_aload_n hx hb d_RS_report_26 rfl (lv_at hl 1 rfl) ?_
    refine va_get (D := (dC, dI)) (ci := 0) (v := .int (F 0)) (C := R_RS) (T := F_RS) (N := 6) hx hb hW i_RS hown hK hP 0 rfl rfl 0 (by decide) (hW _ k_7) (fun _ h9 => h9) rfl d_RS_report_27 ?_
    refine va_iast hx hb hK hP hD hS 10 7 rfl rfl (ixR hI c_1) d_RS_report_30 (fun H locs hP hD hS => ?_)
    have hP := pCA_7 hP
    have hD := dCA_7 hD
    generalize hAg1 : (uA A 7 (upd (A 7) rb.toNatClampNeg (F 0))) = A1_ at hP hD hv
    refine lv_iload_n hx hb d_RS_report_31 rfl (lv_at hl 0 rfl) ?_
    exact W.zret (v := f_Rb_isSilent F A rb (F 0)) (ty := .boolean) hx hb hr (nar01 (b01_f_Rb_isSilent F A rb (F 0))) (fun t ht hW9 => ⟨⟨f_Rb_isSilent F A rb (F 0), (F, A1_), rfl, hv.symm, by rw [ht]; exact hP, va_K.moved hW9.alike hK, hD⟩, hS.F ht⟩) hS.2.2 d_RS_report_32
  · have hv := hv.trans (if_neg c_1)
    rw [hv] at hk
    exact absurd hk c_1
set_option maxHeartbeats 4000000 in
set_option maxRecDepth 100000 in
theorem c_RS_report_x (l : Launch) (hl9 : l.stackTraces = false) (dC : Nat → ClassId) (dI : Nat → Nat → Nat) (r : Nat → Nat) (k : Nat → ClassId) (F : Nat → Int32) (A : Nat → Nat → Int32) (sz : Nat) (rb : Int32) (hI : CI F) (hk : ¬ (f_RS_report F A rb).1 = 0) : vx_Met l y_RS_report w_RS_report ({ frames := 7, cells := 1, slots := 6, locals := 103 }) (va_Pc [.ref (r 0), .int rb] (XP (dC, dI) (wC r k F A) (tC k) sz)) (va_Qi (fun _ (_ : SC) => False) (fun (u : SC) t => aW (dC, dI) (tC k) (va_A (wC r k F A) sz) (wC r k u.1 u.2) t) (va_A (wC r k F A) sz)) (vx_X (fun u : Nat => f_RS_report F A rb = (u, 0, F, A)) (fun E u t => E = exN u ∧ aW (dC, dI) (tC k) (va_A (wC r k F A) sz) (wC r k F A) t) (va_A (wC r k F A) sz)) 1 6 (va_A (wC r k F A) sz) := by
  refine vx_ofW (cc := b_RS_report) (maxL := 3) (ret := (some .boolean)) (by decide) rfl ?_
  intro p e s m args below meth c s₁ B hml hEx hv0
  obtain ⟨rfl, ⟨hsz, hP, hK, hD0⟩, hXS⟩ := hv0
  have hx := B.exec
  have hb := B.bytes
  have hr := B.returns
  have hts := atoms_spec (ws := w_RS_report) B.pre
  have hW : ∀ w ∈ WALL, w.before ([.ref (r 0), .int rb] : List Value).toArray s = true := fun w h => hts w (List.mem_cons_of_mem _ h)
  have hown : s.vm.findClass R_RS = some m.cls := findClass_of_methodNamed B.named
  have hlocks := B.notSynchronized
  subst hsz
  have hD := hD0.self (sz := s.heap.size)
  generalize hAe : va_A (wC r k F A) s.heap.size = Ad at hD hXS ⊢
  have hA : ∀ q : Nat, s.heap.size ≤ q → Ad q := fun q h => by rw [← hAe]; exact Or.inr h
  have hS : va_S Ad s.heap s.heap [] := va_S.rf
  have hl := lv_entry ([.ref (r 0), .int rb]) (n := 3) (Nat.le_of_ble_eq_true rfl)
  rw [lg_entry_eq]
  generalize (lg_sl ([.ref (r 0), .int rb]) ++ List.replicate (3 - (lg_sl ([.ref (r 0), .int rb])).length) Slot.unset).toArray = ls at hl ⊢
  have hl : lv_has ls 3 [(0, .ref (r 0)), (1, .int rb)] := hl
  obtain ⟨⟨hp0, hp1⟩, ⟨hr0, hr1⟩, hg0, hg1⟩ := id hI; have hr2 : (F 2).toInt ≤ 60 := Int.le_trans hr1 (by decide)
  have hv := f_RS_report.eq_1 F A rb
  refine lv_aload_n hx hb d_RS_report_0 rfl (lv_at hl 0 rfl) ?_
  refine lv_iload_n hx hb d_RS_report_1 rfl (lv_at hl 1 rfl) ?_
  by_cases c_1 : f_RS_needRobot F A rb = 0
  · have hv := hv.trans (if_pos c_1)
    exact (hk ((congrArg Prod.fst hv).trans (by first | rfl | ((repeat' split) <;> (first | rfl | exact cd_next_L _ _ _ _ _ _ _))))).elim
  · have hv := hv.trans (if_neg c_1)
    refine gdV ⟨hx, hb, hml, hown, hW⟩ (c_RS_needRobot_x l hl9 dC dI r k F A _ rb   c_1) (cwV 1 hW (gIn k_77 k_78 k_79 k_15 k_80) rfl rfl rfl (by decide +kernel) ⟨Nat.le_of_ble_eq_true rfl, Nat.le_of_ble_eq_true rfl⟩) hK hP hXS hA (va_recv hK hP (ci := 0) (q0 := 0) rfl rfl) hS rfl hl.1 rfl (Nat.le_of_ble_eq_true rfl) d_RS_report_2 ⟨Nat.le_of_ble_eq_true rfl, Nat.le_of_ble_eq_true rfl⟩ (fun H locs q9 ce hP hS hce hcv hcl => ?_)
    exact vx_out (E := exN (f_RS_needRobot F A rb)) (fun x hx => (hEx x hx).elim) hlocks hce hcv hcl (fun t ht ha => ⟨f_RS_needRobot F A rb, hv, ⟨rfl, by rw [ht]; exact hP, va_K.moved ha hK, hD⟩, hS.F ht⟩) hS.2.2 (Nat.le_of_ble_eq_true rfl) (Nat.le_of_ble_eq_true rfl)
def f_Gr_endAllBy_L4 (F : Nat → Int32) (A : Nat → Nat → Int32) (tm : Int32) : Nat → (Nat → Nat → Int32) → Int32 → Int32 → Int32 × SC
  | 0, _, _, _ => (0, F, A)
  | n4 + 1, B, x2, x3 => if F 3 < x3 then (x2, F, B) else (if f_Gr_isLive F B x3 = 0 then (f_Gr_endAllBy_L4 F A tm n4 B x2 (x3 + 1)) else (if tm < B 11 x3.toNatClampNeg then (f_Gr_endAllBy_L4 F A tm n4 B x2 (x3 + 1)) else (f_Gr_endAllBy_L4 F A tm n4 (uA B 13 (upd (B 13) x3.toNatClampNeg 4)) (x2 + 1) (x3 + 1))))
def f_Gr_endAllBy (F : Nat → Int32) (A : Nat → Nat → Int32) (tm : Int32) : Int32 × SC := f_Gr_endAllBy_L4 F A tm 64 A 0 1
set_option maxHeartbeats 4000000 in
set_option maxRecDepth 100000 in
theorem c_Gr_endAllBy (l : Launch) (dC : Nat → ClassId) (dI : Nat → Nat → Nat) (r : Nat → Nat) (k : Nat → ClassId) (F : Nat → Int32) (A : Nat → Nat → Int32) (sz : Nat) (tm : Int32) (hI : CI F) : Met l y_Gr_endAllBy w_Gr_endAllBy ({ frames := 1, cells := 0, slots := 0, locals := 21 }) (va_Pc [.ref (r 2), .int tm] (SP (dC, dI) (wC r k F A) (tC k) sz)) (va_Qi (fun v (u : SC) => (v, u) = f_Gr_endAllBy F A tm) (fun (u : SC) t => aW (dC, dI) (tC k) (va_A (wC r k F A) sz) (wC r k u.1 u.2) t) (va_A (wC r k F A) sz)) 0 0 (va_A (wC r k F A) sz) := by
  refine Met.ofW (cc := b_Gr_endAllBy) (maxL := 4) (ret := (some .int)) (by decide) rfl ?_
  intro p e s m args below meth c s₁ B hml hv0
  obtain ⟨rfl, hsz, hP, hK, hD0⟩ := hv0
  have hx := B.exec
  have hb := B.bytes
  have hr := B.returns
  have hts := atoms_spec (ws := w_Gr_endAllBy) B.pre
  have hW : ∀ w ∈ WALL, w.before ([.ref (r 2), .int tm] : List Value).toArray s = true := fun w h => hts w (List.mem_cons_of_mem _ h)
  have hown : s.vm.findClass R_Gr = some m.cls := findClass_of_methodNamed B.named
  have hlocks := B.notSynchronized
  subst hsz
  have hD := hD0.self (sz := s.heap.size)
  generalize hAe : va_A (wC r k F A) s.heap.size = Ad at hD ⊢
  have hA : ∀ q : Nat, s.heap.size ≤ q → Ad q := fun q h => by rw [← hAe]; exact Or.inr h
  have hS : va_S Ad s.heap s.heap [] := va_S.rf
  have hl := lv_entry ([.ref (r 2), .int tm]) (n := 4) (Nat.le_of_ble_eq_true rfl)
  rw [lg_entry_eq]
  generalize (lg_sl ([.ref (r 2), .int tm]) ++ List.replicate (4 - (lg_sl ([.ref (r 2), .int tm])).length) Slot.unset).toArray = ls at hl ⊢
  have hl : lv_has ls 4 [(0, .ref (r 2)), (1, .int tm)] := hl
  obtain ⟨⟨hp0, hp1⟩, ⟨hr0, hr1⟩, hg0, hg1⟩ := id hI; have hr2 : (F 2).toInt ≤ 60 := Int.le_trans hr1 (by decide)
  have hv := f_Gr_endAllBy.eq_1 F A tm
  refine lv_iconst (v := 0) hx hb d_Gr_endAllBy_0 (by decide) ?_
  refine lv_istore_n (lv' := [(2, .int 0), (0, .ref (r 2)), (1, .int tm)]) hx hb d_Gr_endAllBy_1 rfl hl (by decide) rfl (fun ls hl => ?_)
  refine lv_iconst (v := 1) hx hb d_Gr_endAllBy_2 (by decide) ?_
  refine lv_istore_n (lv' := [(3, .int 1), (2, .int 0), (0, .ref (r 2)), (1, .int tm)]) hx hb d_Gr_endAllBy_3 rfl hl (by decide) rfl (fun ls hl => ?_)
  have loop4 : ∀ (n4 : Nat) (x2 : Int32) (x3 : Int32) (B : Nat → Nat → Int32) (H : Heap) (locs : List Loc) (ls : Array Slot), LA (F 3) x3 n4 → f_Gr_endAllBy F A tm = f_Gr_endAllBy_L4 F A tm n4 B x2 x3 → va_P (dC, dI) classes (wC r k F B) H → va_D Ad (wC r k F B) → va_S Ad s.heap H locs → lv_has ls 4 [(0, .ref (r 2)), (1, .int tm), (2, .int x2), (3, .int x3)] → W p l e (headSpec w_Gr_endAllBy ({ frames := 1, cells := 0, slots := 0, locals := 21 })).room s m ([.ref (r 2), .int tm] : List Value).toArray below meth c H locs 0 0 (MQ below (va_Qi (fun v (u : SC) => (v, u) = f_Gr_endAllBy F A tm) (fun (u : SC) t => aW (dC, dI) (tC k) Ad (wC r k u.1 u.2) t) Ad) ([.ref (r 2), .int tm] : List Value).toArray s 0 0 Ad) (F0 m 4 ls []) := by
    intro n4
    induction n4 with
    | zero => intro x2 x3 B H locs ls hlp; exact (hlp.z).elim
    | succ n4 ih4 =>
      intro x2 x3 B H locs ls hlp4 hv hP hD hS hl
      rw [f_Gr_endAllBy_L4] at hv
      refine lv_iload_n hx hb d_Gr_endAllBy_4 rfl (lv_at hl 3 rfl) ?_
      refine lv_aload_n hx hb d_Gr_endAllBy_5 rfl (lv_at hl 0 rfl) ?_
      refine va_get (D := (dC, dI)) (ci := 2) (v := .int (F 3)) (C := R_Gr) (T := F_Gr) (N := 7) hx hb hW i_Gr hown hK hP 2 rfl rfl 0 (by decide) (hW _ k_74) (fun _ h9 => h9) rfl d_Gr_endAllBy_6 ?_
      refine lv_icmp_gt (tgt := 46) hx hb d_Gr_endAllBy_9 (by decide) (fun c_1 => ?_) (fun c_1 => ?_)
      · have hv := hv.trans (if_pos c_1)
        refine lv_iload_n hx hb d_Gr_endAllBy_46 rfl (lv_at hl 2 rfl) ?_
        exact W.iret (v := x2) hx hb hr (fun t ht hW9 => ⟨⟨x2, (F, B), rfl, hv.symm, by rw [ht]; exact hP, va_K.moved hW9.alike hK, hD⟩, hS.F ht⟩) hS.2.2 d_Gr_endAllBy_47
      · have hv := hv.trans (if_neg c_1)
        refine lv_aload_n hx hb d_Gr_endAllBy_12 rfl (lv_at hl 0 rfl) ?_
        refine lv_iload_n hx hb d_Gr_endAllBy_13 rfl (lv_at hl 3 rfl) ?_
        refine rdV ⟨hx, hb, hml, hown, hW⟩ (c_Gr_isLive l dC dI r k F B x3 hI (LA.ix hlp4 c_1 hg1)) (cwV 1 hW (gIn k_49 k_50 k_51 k_52 k_53) rfl rfl rfl (by decide +kernel) ⟨Nat.le_of_ble_eq_true rfl, Nat.le_of_ble_eq_true rfl⟩) hK hP (va_recv hK hP (ci := 2) (q0 := 2) rfl rfl) rfl hl.1 rfl (Nat.le_of_ble_eq_true rfl) d_Gr_endAllBy_14 ⟨Nat.zero_le _, Nat.zero_le _⟩ ?_
        refine lv_if_eq (tgt := 40) hx hb d_Gr_endAllBy_17 (by decide) (fun c_2 => ?_) (fun c_2 => ?_)
        · have hv := hv.trans (if_pos c_2)
          refine lv_iinc (v := x3 + 1) (lv' := [(3, .int (x3 + 1)), (0, .ref (r 2)), (1, .int tm), (2, .int x2)]) hx hb d_Gr_endAllBy_40 hl (k := 3) rfl rfl (by decide) rfl (fun ls hl => ?_)
          refine lv_goto (tgt := 4) hx hb d_Gr_endAllBy_43 (by decide) ?_
          exact ih4 x2 (x3 + 1) B H locs ls (LA.s hlp4 c_1 hg1) hv hP hD hS (lv_sub hl [1, 2, 3, 0] rfl)
        · have hv := hv.trans (if_neg c_2)
          refine lv_aload_n hx hb d_Gr_endAllBy_20 rfl (lv_at hl 0 rfl) ?_
          refine va_get (D := (dC, dI)) (ci := 2) (v := .ref (r 14)) (C := R_Gr) (T := F_Gr) (N := 7) hx hb hW i_Gr hown hK hP 2 rfl rfl 4 (by decide) (hW _ k_55) (fun _ h9 => h9) rfl d_Gr_endAllBy_21 ?_
          refine lv_iload_n hx hb d_Gr_endAllBy_24 rfl (lv_at hl 3 rfl) ?_
          refine va_iald hx hb hK hP 14 11 rfl rfl (LA.ix hlp4 c_1 hg1) d_Gr_endAllBy_25 ?_
          refine lv_iload_n hx hb d_Gr_endAllBy_26 rfl (lv_at hl 1 rfl) ?_
          refine lv_icmp_gt (tgt := 40) hx hb d_Gr_endAllBy_27 (by decide) (fun c_3 => ?_) (fun c_3 => ?_)
          · have hv := hv.trans (if_pos c_3)
            refine lv_iinc (v := x3 + 1) (lv' := [(3, .int (x3 + 1)), (0, .ref (r 2)), (1, .int tm), (2, .int x2)]) hx hb d_Gr_endAllBy_40 hl (k := 3) rfl rfl (by decide) rfl (fun ls hl => ?_)
            refine lv_goto (tgt := 4) hx hb d_Gr_endAllBy_43 (by decide) ?_
            exact ih4 x2 (x3 + 1) B H locs ls (LA.s hlp4 c_1 hg1) hv hP hD hS (lv_sub hl [1, 2, 3, 0] rfl)
          · have hv := hv.trans (if_neg c_3)
            refine lv_aload_n hx hb d_Gr_endAllBy_30 rfl (lv_at hl 0 rfl) ?_
            refine va_get (D := (dC, dI)) (ci := 2) (v := .ref (r 16)) (C := R_Gr) (T := F_Gr) (N := 7) hx hb hW i_Gr hown hK hP 2 rfl rfl 6 (by decide) (hW _ k_48) (fun _ h9 => h9) rfl d_Gr_endAllBy_31 ?_
            refine lv_iload_n hx hb d_Gr_endAllBy_34 rfl (lv_at hl 3 rfl) ?_
            refine lv_iconst (v := 4) hx hb d_Gr_endAllBy_35 (by decide) ?_
            refine va_iast hx hb hK hP hD hS 16 13 rfl rfl (LA.ix hlp4 c_1 hg1) d_Gr_endAllBy_36 (fun H locs hP hD hS => ?_)
            have hP := pCA_13 hP
            have hD := dCA_13 hD
            generalize hAg1 : (uA B 13 (upd (B 13) x3.toNatClampNeg 4)) = A1_ at hP hD hv
            refine lv_iinc (v := x2 + 1) (lv' := [(2, .int (x2 + 1)), (0, .ref (r 2)), (1, .int tm), (3, .int x3)]) hx hb d_Gr_endAllBy_37 hl (k := 2) rfl rfl (by decide) rfl (fun ls hl => ?_)
            refine lv_iinc (v := x3 + 1) (lv' := [(3, .int (x3 + 1)), (2, .int (x2 + 1)), (0, .ref (r 2)), (1, .int tm)]) hx hb d_Gr_endAllBy_40 hl (k := 3) rfl rfl (by decide) rfl (fun ls hl => ?_)
            refine lv_goto (tgt := 4) hx hb d_Gr_endAllBy_43 (by decide) ?_
            exact ih4 (x2 + 1) (x3 + 1) A1_ H locs ls (LA.s hlp4 c_1 hg1) hv hP hD hS (lv_sub hl [2, 3, 1, 0] rfl)
  exact loop4 64 0 1 A _ _ ls (LA.i hg0 hg1) hv hP hD hS (lv_sub hl [2, 3, 1, 0] rfl)
theorem kf_Gr_endAllBy_L (F : Nat → Int32) (A : Nat → Nat → Int32) (tm : Int32) : ∀ (n : Nat) (B : Nat → Nat → Int32) (i0 i1 : Int32), (f_Gr_endAllBy_L4 F A tm n B i0 i1).2.1 = F := by
  intro n
  induction n with
  | zero => intros; rfl
  | succ n ih =>
    intro B i0 i1
    rw [f_Gr_endAllBy_L4]
    repeat' split
    all_goals first | rfl | exact ih _ _ _
theorem kf_Gr_endAllBy (F : Nat → Int32) (A : Nat → Nat → Int32) (tm : Int32) : (f_Gr_endAllBy F A tm).2.1 = F := kf_Gr_endAllBy_L F A tm 64 A 0 1
def f_RS_pass (F : Nat → Int32) (A : Nat → Nat → Int32) (tm : Int32) : Nat × Int32 × SC := if tm < F 0 then (2, 0, F, A) else (if tm ≤ 10000 then (0, (f_Gr_endAllBy (uF F 0 tm) A tm).1, ((f_Gr_endAllBy (uF F 0 tm) A tm).2.1), ((f_Gr_endAllBy (uF F 0 tm) A tm).2.2)) else (2, 0, F, A))
set_option maxHeartbeats 4000000 in
set_option maxRecDepth 100000 in
theorem c_RS_pass_k (l : Launch) (dC : Nat → ClassId) (dI : Nat → Nat → Nat) (r : Nat → Nat) (k : Nat → ClassId) (F : Nat → Int32) (A : Nat → Nat → Int32) (sz : Nat) (tm : Int32) (hI : CI F) (hk : (f_RS_pass F A tm).1 = 0) : Met l y_RS_pass w_RS_pass ({ frames := 2, cells := 0, slots := 0, locals := 44 }) (va_Pc [.ref (r 0), .int tm] (SP (dC, dI) (wC r k F A) (tC k) sz)) (va_Qi (fun v (u : SC) => (0, v, u) = f_RS_pass F A tm) (fun (u : SC) t => aW (dC, dI) (tC k) (va_A (wC r k F A) sz) (wC r k u.1 u.2) t) (va_A (wC r k F A) sz)) 0 0 (va_A (wC r k F A) sz) := by
  refine Met.ofW (cc := b_RS_pass) (maxL := 2) (ret := (some .int)) (by decide) rfl ?_
  intro p e s m args below meth c s₁ B hml hv0
  obtain ⟨rfl, hsz, hP, hK, hD0⟩ := hv0
  have hx := B.exec
  have hb := B.bytes
  have hr := B.returns
  have hts := atoms_spec (ws := w_RS_pass) B.pre
  have hW : ∀ w ∈ WALL, w.before ([.ref (r 0), .int tm] : List Value).toArray s = true := fun w h => hts w (List.mem_cons_of_mem _ h)
  have hown : s.vm.findClass R_RS = some m.cls := findClass_of_methodNamed B.named
  have hlocks := B.notSynchronized
  subst hsz
  have hD := hD0.self (sz := s.heap.size)
  generalize hAe : va_A (wC r k F A) s.heap.size = Ad at hD ⊢
  have hA : ∀ q : Nat, s.heap.size ≤ q → Ad q := fun q h => by rw [← hAe]; exact Or.inr h
  have hS : va_S Ad s.heap s.heap [] := va_S.rf
  have hl := lv_entry ([.ref (r 0), .int tm]) (n := 2) (Nat.le_of_ble_eq_true rfl)
  rw [lg_entry_eq]
  generalize (lg_sl ([.ref (r 0), .int tm]) ++ List.replicate (2 - (lg_sl ([.ref (r 0), .int tm])).length) Slot.unset).toArray = ls at hl ⊢
  have hl : lv_has ls 2 [(0, .ref (r 0)), (1, .int tm)] := hl
  obtain ⟨⟨hp0, hp1⟩, ⟨hr0, hr1⟩, hg0, hg1⟩ := id hI; have hr2 : (F 2).toInt ≤ 60 := Int.le_trans hr1 (by decide)
  have hv := f_RS_pass.eq_1 F A tm
  refine lv_iload_n hx hb d_RS_pass_0 rfl (lv_at hl 1 rfl) ?_
  refine lv_aload_n hx hb d_RS_pass_1 rfl (lv_at hl 0 rfl) ?_
  refine va_get (D := (dC, dI)) (ci := 0) (v := .int (F 0)) (C := R_RS) (T := F_RS) (N := 6) hx hb hW i_RS hown hK hP 0 rfl rfl 0 (by decide) (hW _ k_7) (fun _ h9 => h9) rfl d_RS_pass_2 ?_
  refine lv_icmp_lt (tgt := 15) hx hb d_RS_pass_5 (by decide) (fun c_1 => ?_) (fun c_1 => ?_)
  · have hv := hv.trans (if_pos c_1)
    rw [hv] at hk
    exact absurd (show (2 : Nat) = 0 from hk) (by decide)
  · have hv := hv.trans (if_neg c_1)
    refine lv_iload_n hx hb d_RS_pass_8 rfl (lv_at hl 1 rfl) ?_
    refine lv_sipush (v := 10000) hx hb d_RS_pass_9 (by decide) ?_
    refine lv_icmp_le (tgt := 25) hx hb d_RS_pass_12 (by decide) (fun c_2 => ?_) (fun c_2 => ?_)
    · have hv := hv.trans (if_pos c_2)
      refine lv_aload_n hx hb d_RS_pass_25 rfl (lv_at hl 0 rfl) ?_
      refine lv_iload_n hx hb d_RS_pass_26 rfl (lv_at hl 1 rfl) ?_
      refine va_put (D := (dC, dI)) (ci := 0) (v := .int tm) (ty := .int) (C := R_RS) (T := F_RS) (N := 6) hx hb hW i_RS t_RS t_RS_ok n_RS hown hK hP hD hS 0 rfl rfl 0 (by decide) (hW _ k_7) (fun _ h9 => h9) rfl (by decide +kernel) rfl rfl (Nat.le_of_ble_eq_true rfl) d_RS_pass_27 (fun H locs hP hD hS => ?_)
      have hP := pCF_0 hP
      have hD := dCF_0 hD
      refine lv_aload_n hx hb d_RS_pass_30 rfl (lv_at hl 0 rfl) ?_
      refine va_get (D := (dC, dI)) (ci := 0) (v := .ref (r 2)) (C := R_RS) (T := F_RS) (N := 6) hx hb hW i_RS hown hK hP 0 rfl rfl 5 (by decide) (hW _ k_5) (fun _ h9 => h9) rfl d_RS_pass_31 ?_
      refine lv_iload_n hx hb d_RS_pass_34 rfl (lv_at hl 1 rfl) ?_
      refine stVi (wf := fun u : SC => wC r k u.1 u.2) ⟨hx, hb, hml, hown, hW⟩ (c_Gr_endAllBy l dC dI r k (uF F 0 tm) A _ tm hI ) (cwV 1 hW (gIn k_165 k_166 k_167 k_52 k_168) rfl rfl rfl (by decide +kernel) ⟨Nat.le_of_ble_eq_true rfl, Nat.le_of_ble_eq_true rfl⟩) hK hP hD hS hA (va_recv hK hP (ci := 2) (q0 := 2) rfl rfl) rfl hl.1 rfl (Nat.le_of_ble_eq_true rfl) d_RS_pass_35 ⟨Nat.zero_le _, Nat.zero_le _⟩ (fun H locs hP hD hS => ?_)
      have hP : va_P (dC, dI) classes (wC r k ((f_Gr_endAllBy (uF F 0 tm) A tm).2.1) ((f_Gr_endAllBy (uF F 0 tm) A tm).2.2)) H := hP
      have hD : va_D Ad (wC r k ((f_Gr_endAllBy (uF F 0 tm) A tm).2.1) ((f_Gr_endAllBy (uF F 0 tm) A tm).2.2)) := hD
      exact W.iret (v := (f_Gr_endAllBy (uF F 0 tm) A tm).1) hx hb hr (fun t ht hW9 => ⟨⟨(f_Gr_endAllBy (uF F 0 tm) A tm).1, (((f_Gr_endAllBy (uF F 0 tm) A tm).2.1), ((f_Gr_endAllBy (uF F 0 tm) A tm).2.2)), rfl, hv.symm, by rw [ht]; exact hP, va_K.moved hW9.alike hK, hD⟩, hS.F ht⟩) hS.2.2 d_RS_pass_38
    · have hv := hv.trans (if_neg c_2)
      rw [hv] at hk
      exact absurd (show (2 : Nat) = 0 from hk) (by decide)
set_option maxHeartbeats 4000000 in
set_option maxRecDepth 100000 in
theorem c_RS_pass_x (l : Launch) (hl9 : l.stackTraces = false) (dC : Nat → ClassId) (dI : Nat → Nat → Nat) (r : Nat → Nat) (k : Nat → ClassId) (F : Nat → Int32) (A : Nat → Nat → Int32) (sz : Nat) (tm : Int32) (hI : CI F) (hk : ¬ (f_RS_pass F A tm).1 = 0) : vx_Met l y_RS_pass w_RS_pass ({ frames := 6, cells := 1, slots := 6, locals := 82 }) (va_Pc [.ref (r 0), .int tm] (XP (dC, dI) (wC r k F A) (tC k) sz)) (va_Qi (fun _ (_ : SC) => False) (fun (u : SC) t => aW (dC, dI) (tC k) (va_A (wC r k F A) sz) (wC r k u.1 u.2) t) (va_A (wC r k F A) sz)) (vx_X (fun u : Nat => f_RS_pass F A tm = (u, 0, F, A)) (fun E u t => E = exN u ∧ aW (dC, dI) (tC k) (va_A (wC r k F A) sz) (wC r k F A) t) (va_A (wC r k F A) sz)) 1 6 (va_A (wC r k F A) sz) := by
  refine vx_ofW (cc := b_RS_pass) (maxL := 2) (ret := (some .int)) (by decide) rfl ?_
  intro p e s m args below meth c s₁ B hml hEx hv0
  obtain ⟨rfl, ⟨hsz, hP, hK, hD0⟩, hXS⟩ := hv0
  have hx := B.exec
  have hb := B.bytes
  have hr := B.returns
  have hts := atoms_spec (ws := w_RS_pass) B.pre
  have hW : ∀ w ∈ WALL, w.before ([.ref (r 0), .int tm] : List Value).toArray s = true := fun w h => hts w (List.mem_cons_of_mem _ h)
  have hown : s.vm.findClass R_RS = some m.cls := findClass_of_methodNamed B.named
  have hlocks := B.notSynchronized
  subst hsz
  have hD := hD0.self (sz := s.heap.size)
  generalize hAe : va_A (wC r k F A) s.heap.size = Ad at hD hXS ⊢
  have hA : ∀ q : Nat, s.heap.size ≤ q → Ad q := fun q h => by rw [← hAe]; exact Or.inr h
  have hS : va_S Ad s.heap s.heap [] := va_S.rf
  have hl := lv_entry ([.ref (r 0), .int tm]) (n := 2) (Nat.le_of_ble_eq_true rfl)
  rw [lg_entry_eq]
  generalize (lg_sl ([.ref (r 0), .int tm]) ++ List.replicate (2 - (lg_sl ([.ref (r 0), .int tm])).length) Slot.unset).toArray = ls at hl ⊢
  have hl : lv_has ls 2 [(0, .ref (r 0)), (1, .int tm)] := hl
  obtain ⟨⟨hp0, hp1⟩, ⟨hr0, hr1⟩, hg0, hg1⟩ := id hI; have hr2 : (F 2).toInt ≤ 60 := Int.le_trans hr1 (by decide)
  have hv := f_RS_pass.eq_1 F A tm
  refine lv_iload_n hx hb d_RS_pass_0 rfl (lv_at hl 1 rfl) ?_
  refine lv_aload_n hx hb d_RS_pass_1 rfl (lv_at hl 0 rfl) ?_
  refine va_get (D := (dC, dI)) (ci := 0) (v := .int (F 0)) (C := R_RS) (T := F_RS) (N := 6) hx hb hW i_RS hown hK hP 0 rfl rfl 0 (by decide) (hW _ k_7) (fun _ h9 => h9) rfl d_RS_pass_2 ?_
  refine lv_icmp_lt (tgt := 15) hx hb d_RS_pass_5 (by decide) (fun c_1 => ?_) (fun c_1 => ?_)
  · have hv := hv.trans (if_pos c_1)
    exact thr hx hb hl9 hown hW hXS tw_17 hS (hl.1.trans hml.symm) d_RS_pass_15 d_RS_pass_18 d_RS_pass_19 d_RS_pass_21 d_RS_pass_24 hEx (Nat.le_of_ble_eq_true rfl) (Nat.le_of_ble_eq_true rfl) (Nat.le_of_ble_eq_true rfl) (Nat.le_of_ble_eq_true rfl) hlocks (fun t ha hsz hk9 => ⟨2, hv, ⟨rfl, hP.kept (fun k9 q hq => hk9 q.1 (hP k9 q hq).lt), va_K.moved ha hK, hD⟩, Nat.le_trans hS.1 hsz, fun q h1 h2 => (hk9 q (Nat.lt_of_lt_of_le h1 hS.1)).trans (hS.2.1 q h1 h2)⟩) hS.2.2 (Nat.le_of_ble_eq_true rfl) (Nat.le_of_ble_eq_true rfl)
  · have hv := hv.trans (if_neg c_1)
    refine lv_iload_n hx hb d_RS_pass_8 rfl (lv_at hl 1 rfl) ?_
    refine lv_sipush (v := 10000) hx hb d_RS_pass_9 (by decide) ?_
    refine lv_icmp_le (tgt := 25) hx hb d_RS_pass_12 (by decide) (fun c_2 => ?_) (fun c_2 => ?_)
    · have hv := hv.trans (if_pos c_2)
      exact (hk ((congrArg Prod.fst hv).trans (by first | rfl | ((repeat' split) <;> (first | rfl | exact cd_next_L _ _ _ _ _ _ _))))).elim
    · have hv := hv.trans (if_neg c_2)
      exact thr hx hb hl9 hown hW hXS tw_17 hS (hl.1.trans hml.symm) d_RS_pass_15 d_RS_pass_18 d_RS_pass_19 d_RS_pass_21 d_RS_pass_24 hEx (Nat.le_of_ble_eq_true rfl) (Nat.le_of_ble_eq_true rfl) (Nat.le_of_ble_eq_true rfl) (Nat.le_of_ble_eq_true rfl) hlocks (fun t ha hsz hk9 => ⟨2, hv, ⟨rfl, hP.kept (fun k9 q hq => hk9 q.1 (hP k9 q hq).lt), va_K.moved ha hK, hD⟩, Nat.le_trans hS.1 hsz, fun q h1 h2 => (hk9 q (Nat.lt_of_lt_of_le h1 hS.1)).trans (hS.2.1 q h1 h2)⟩) hS.2.2 (Nat.le_of_ble_eq_true rfl) (Nat.le_of_ble_eq_true rfl)
def f_Gr_robotGranted_L2 (F : Nat → Int32) (A : Nat → Nat → Int32) (pc tm : Int32) : Nat → Int32 → Int32
  | 0, _ => 0
  | n2 + 1, x3 => if F 3 < x3 then (-1) else (if f_Gr_isLiveFor F A x3 pc = 0 then (f_Gr_robotGranted_L2 F A pc tm n2 (x3 + 1)) else (if tm < A 10 x3.toNatClampNeg then (f_Gr_robotGranted_L2 F A pc tm n2 (x3 + 1)) else (if A 11 x3.toNatClampNeg ≤ tm then (f_Gr_robotGranted_L2 F A pc tm n2 (x3 + 1)) else (A 8 x3.toNatClampNeg))))
def f_Gr_robotGranted (F : Nat → Int32) (A : Nat → Nat → Int32) (pc tm : Int32) : Int32 := f_Gr_robotGranted_L2 F A pc tm 64 1
set_option maxHeartbeats 4000000 in
set_option maxRecDepth 100000 in
theorem c_Gr_robotGranted (l : Launch) (dC : Nat → ClassId) (dI : Nat → Nat → Nat) (r : Nat → Nat) (k : Nat → ClassId) (F : Nat → Int32) (A : Nat → Nat → Int32) (pc tm : Int32) (hI : CI F) : Met l y_Gr_robotGranted w_Gr_robotGranted ({ frames := 2, cells := 0, slots := 0, locals := 43 }) (va_Pc [.ref (r 2), .int pc, .int tm] (RO (dC, dI) (wC r k F A) (tC k))) (vp_Si (fun v => v = f_Gr_robotGranted F A pc tm)) 0 0 (fun _ => False) := by
  refine Met.ofW (cc := b_Gr_robotGranted) (maxL := 4) (ret := (some .int)) (by decide) rfl ?_
  intro p e s m args below meth c s₁ B hml hv0
  obtain ⟨rfl, hP, hK⟩ := hv0
  have hx := B.exec
  have hb := B.bytes
  have hr := B.returns
  have hts := atoms_spec (ws := w_Gr_robotGranted) B.pre
  have hW : ∀ w ∈ WALL, w.before ([.ref (r 2), .int pc, .int tm] : List Value).toArray s = true := fun w h => hts w (List.mem_cons_of_mem _ h)
  have hown : s.vm.findClass R_Gr = some m.cls := findClass_of_methodNamed B.named
  have hlocks := B.notSynchronized
  have hl := lv_entry ([.ref (r 2), .int pc, .int tm]) (n := 4) (Nat.le_of_ble_eq_true rfl)
  rw [lg_entry_eq]
  generalize (lg_sl ([.ref (r 2), .int pc, .int tm]) ++ List.replicate (4 - (lg_sl ([.ref (r 2), .int pc, .int tm])).length) Slot.unset).toArray = ls at hl ⊢
  have hl : lv_has ls 4 [(0, .ref (r 2)), (1, .int pc), (2, .int tm)] := hl
  obtain ⟨⟨hp0, hp1⟩, ⟨hr0, hr1⟩, hg0, hg1⟩ := id hI; have hr2 : (F 2).toInt ≤ 60 := Int.le_trans hr1 (by decide)
  have hv := f_Gr_robotGranted.eq_1 F A pc tm
  refine lv_iconst (v := 1) hx hb d_Gr_robotGranted_0 (by decide) ?_
  refine lv_istore_n (lv' := [(3, .int 1), (0, .ref (r 2)), (1, .int pc), (2, .int tm)]) hx hb d_Gr_robotGranted_1 rfl hl (by decide) rfl (fun ls hl => ?_)
  have loop2 : ∀ (n2 : Nat) (x3 : Int32) (ls : Array Slot), LA (F 3) x3 n2 → f_Gr_robotGranted F A pc tm = f_Gr_robotGranted_L2 F A pc tm n2 x3 → lv_has ls 4 [(0, .ref (r 2)), (1, .int pc), (2, .int tm), (3, .int x3)] → W p l e (headSpec w_Gr_robotGranted ({ frames := 2, cells := 0, slots := 0, locals := 43 })).room s m ([.ref (r 2), .int pc, .int tm] : List Value).toArray below meth c s.heap [] 0 0 (MQ below (vp_Si (fun v => v = f_Gr_robotGranted F A pc tm)) ([.ref (r 2), .int pc, .int tm] : List Value).toArray s 0 0 (fun _ => False)) (F0 m 2 ls []) := by
    intro n2
    induction n2 with
    | zero => intro x3 ls hlp; exact (hlp.z).elim
    | succ n2 ih2 =>
      intro x3 ls hlp2 hv hl
      rw [f_Gr_robotGranted_L2] at hv
      refine lv_iload_n hx hb d_Gr_robotGranted_2 rfl (lv_at hl 3 rfl) ?_
      refine lv_aload_n hx hb d_Gr_robotGranted_3 rfl (lv_at hl 0 rfl) ?_
      refine va_get (D := (dC, dI)) (ci := 2) (v := .int (F 3)) (C := R_Gr) (T := F_Gr) (N := 7) hx hb hW i_Gr hown hK hP 2 rfl rfl 0 (by decide) (hW _ k_74) (fun _ h9 => h9) rfl d_Gr_robotGranted_4 ?_
      refine lv_icmp_gt (tgt := 52) hx hb d_Gr_robotGranted_7 (by decide) (fun c_1 => ?_) (fun c_1 => ?_)
      · have hv := hv.trans (if_pos c_1)
        refine lv_iconst (v := (-1)) hx hb d_Gr_robotGranted_52 (by decide) ?_
        exact W.iret (v := (-1)) hx hb hr (fun t ht hW9 => ⟨(-1), rfl, hv.symm, ht⟩) (fun q hq => nomatch hq) d_Gr_robotGranted_53
      · have hv := hv.trans (if_neg c_1)
        refine lv_aload_n hx hb d_Gr_robotGranted_10 rfl (lv_at hl 0 rfl) ?_
        refine lv_iload_n hx hb d_Gr_robotGranted_11 rfl (lv_at hl 3 rfl) ?_
        refine lv_iload_n hx hb d_Gr_robotGranted_12 rfl (lv_at hl 1 rfl) ?_
        refine rdV ⟨hx, hb, hml, hown, hW⟩ (c_Gr_isLiveFor l dC dI r k F A x3 pc hI (LA.ix hlp2 c_1 hg1)) (cwV 2 hW (gIn k_56 k_57 k_58 k_52 k_59) rfl rfl rfl (by decide +kernel) ⟨Nat.le_of_ble_eq_true rfl, Nat.le_of_ble_eq_true rfl⟩) hK hP (va_recv hK hP (ci := 2) (q0 := 2) rfl rfl) rfl hl.1 rfl (Nat.le_of_ble_eq_true rfl) d_Gr_robotGranted_13 ⟨Nat.zero_le _, Nat.zero_le _⟩ ?_
        refine lv_if_eq (tgt := 46) hx hb d_Gr_robotGranted_16 (by decide) (fun c_2 => ?_) (fun c_2 => ?_)
        · have hv := hv.trans (if_pos c_2)
          refine lv_iinc (v := x3 + 1) (lv' := [(3, .int (x3 + 1)), (0, .ref (r 2)), (1, .int pc), (2, .int tm)]) hx hb d_Gr_robotGranted_46 hl (k := 3) rfl rfl (by decide) rfl (fun ls hl => ?_)
          refine lv_goto (tgt := 2) hx hb d_Gr_robotGranted_49 (by decide) ?_
          exact ih2 (x3 + 1) ls (LA.s hlp2 c_1 hg1) hv (lv_sub hl [1, 2, 3, 0] rfl)
        · have hv := hv.trans (if_neg c_2)
          refine lv_aload_n hx hb d_Gr_robotGranted_19 rfl (lv_at hl 0 rfl) ?_
          refine va_get (D := (dC, dI)) (ci := 2) (v := .ref (r 13)) (C := R_Gr) (T := F_Gr) (N := 7) hx hb hW i_Gr hown hK hP 2 rfl rfl 3 (by decide) (hW _ k_47) (fun _ h9 => h9) rfl d_Gr_robotGranted_20 ?_
          refine lv_iload_n hx hb d_Gr_robotGranted_23 rfl (lv_at hl 3 rfl) ?_
          refine va_iald hx hb hK hP 13 10 rfl rfl (LA.ix hlp2 c_1 hg1) d_Gr_robotGranted_24 ?_
          refine lv_iload_n hx hb d_Gr_robotGranted_25 rfl (lv_at hl 2 rfl) ?_
          refine lv_icmp_gt (tgt := 46) hx hb d_Gr_robotGranted_26 (by decide) (fun c_3 => ?_) (fun c_3 => ?_)
          · have hv := hv.trans (if_pos c_3)
            refine lv_iinc (v := x3 + 1) (lv' := [(3, .int (x3 + 1)), (0, .ref (r 2)), (1, .int pc), (2, .int tm)]) hx hb d_Gr_robotGranted_46 hl (k := 3) rfl rfl (by decide) rfl (fun ls hl => ?_)
            refine lv_goto (tgt := 2) hx hb d_Gr_robotGranted_49 (by decide) ?_
            exact ih2 (x3 + 1) ls (LA.s hlp2 c_1 hg1) hv (lv_sub hl [1, 2, 3, 0] rfl)
          · have hv := hv.trans (if_neg c_3)
            refine lv_iload_n hx hb d_Gr_robotGranted_29 rfl (lv_at hl 2 rfl) ?_
            refine lv_aload_n hx hb d_Gr_robotGranted_30 rfl (lv_at hl 0 rfl) ?_
            refine va_get (D := (dC, dI)) (ci := 2) (v := .ref (r 14)) (C := R_Gr) (T := F_Gr) (N := 7) hx hb hW i_Gr hown hK hP 2 rfl rfl 4 (by decide) (hW _ k_55) (fun _ h9 => h9) rfl d_Gr_robotGranted_31 ?_
            refine lv_iload_n hx hb d_Gr_robotGranted_34 rfl (lv_at hl 3 rfl) ?_
            refine va_iald hx hb hK hP 14 11 rfl rfl (LA.ix hlp2 c_1 hg1) d_Gr_robotGranted_35 ?_
            refine lv_icmp_ge (tgt := 46) hx hb d_Gr_robotGranted_36 (by decide) (fun c_4 => ?_) (fun c_4 => ?_)
            · have hv := hv.trans (if_pos c_4)
              refine lv_iinc (v := x3 + 1) (lv' := [(3, .int (x3 + 1)), (0, .ref (r 2)), (1, .int pc), (2, .int tm)]) hx hb d_Gr_robotGranted_46 hl (k := 3) rfl rfl (by decide) rfl (fun ls hl => ?_)
              refine lv_goto (tgt := 2) hx hb d_Gr_robotGranted_49 (by decide) ?_
              exact ih2 (x3 + 1) ls (LA.s hlp2 c_1 hg1) hv (lv_sub hl [1, 2, 3, 0] rfl)
            · have hv := hv.trans (if_neg c_4)
              refine lv_aload_n hx hb d_Gr_robotGranted_39 rfl (lv_at hl 0 rfl) ?_
              refine va_get (D := (dC, dI)) (ci := 2) (v := .ref (r 11)) (C := R_Gr) (T := F_Gr) (N := 7) hx hb hW i_Gr hown hK hP 2 rfl rfl 1 (by decide) (hW _ k_60) (fun _ h9 => h9) rfl d_Gr_robotGranted_40 ?_
              refine lv_iload_n hx hb d_Gr_robotGranted_43 rfl (lv_at hl 3 rfl) ?_
              refine va_iald hx hb hK hP 11 8 rfl rfl (LA.ix hlp2 c_1 hg1) d_Gr_robotGranted_44 ?_
              exact W.iret (v := A 8 x3.toNatClampNeg) hx hb hr (fun t ht hW9 => ⟨A 8 x3.toNatClampNeg, rfl, hv.symm, ht⟩) (fun q hq => nomatch hq) d_Gr_robotGranted_45
  exact loop2 64 1 ls (LA.i hg0 hg1) hv (lv_sub hl [1, 2, 3, 0] rfl)
def f_RS_holder (F : Nat → Int32) (A : Nat → Nat → Int32) (pc tm : Int32) : Nat × Int32 × SC := if f_RS_needPiece F A pc = 0 then (if F 0 ≤ tm then (if f_Rb_standingOn F A pc = (-1) then (0, f_Gr_robotGranted F A pc tm, F, A) else (0, f_Rb_standingOn F A pc, F, A)) else (2, 0, F, A)) else (f_RS_needPiece F A pc, 0, F, A)
set_option maxHeartbeats 4000000 in
set_option maxRecDepth 100000 in
theorem c_RS_holder_k (l : Launch) (dC : Nat → ClassId) (dI : Nat → Nat → Nat) (r : Nat → Nat) (k : Nat → ClassId) (F : Nat → Int32) (A : Nat → Nat → Int32) (sz : Nat) (pc tm : Int32) (hI : CI F) (hk : (f_RS_holder F A pc tm).1 = 0) : Met l y_RS_holder w_RS_holder ({ frames := 3, cells := 0, slots := 0, locals := 66 }) (va_Pc [.ref (r 0), .int pc, .int tm] (SP (dC, dI) (wC r k F A) (tC k) sz)) (va_Qi (fun v (u : SC) => (0, v, u) = f_RS_holder F A pc tm) (fun (u : SC) t => aW (dC, dI) (tC k) (va_A (wC r k F A) sz) (wC r k u.1 u.2) t) (va_A (wC r k F A) sz)) 0 0 (va_A (wC r k F A) sz) := by
  refine Met.ofW (cc := b_RS_holder) (maxL := 4) (ret := (some .int)) (by decide) rfl ?_
  intro p e s m args below meth c s₁ B hml hv0
  obtain ⟨rfl, hsz, hP, hK, hD0⟩ := hv0
  have hx := B.exec
  have hb := B.bytes
  have hr := B.returns
  have hts := atoms_spec (ws := w_RS_holder) B.pre
  have hW : ∀ w ∈ WALL, w.before ([.ref (r 0), .int pc, .int tm] : List Value).toArray s = true := fun w h => hts w (List.mem_cons_of_mem _ h)
  have hown : s.vm.findClass R_RS = some m.cls := findClass_of_methodNamed B.named
  have hlocks := B.notSynchronized
  subst hsz
  have hD := hD0.self (sz := s.heap.size)
  generalize hAe : va_A (wC r k F A) s.heap.size = Ad at hD ⊢
  have hA : ∀ q : Nat, s.heap.size ≤ q → Ad q := fun q h => by rw [← hAe]; exact Or.inr h
  have hS : va_S Ad s.heap s.heap [] := va_S.rf
  have hl := lv_entry ([.ref (r 0), .int pc, .int tm]) (n := 4) (Nat.le_of_ble_eq_true rfl)
  rw [lg_entry_eq]
  generalize (lg_sl ([.ref (r 0), .int pc, .int tm]) ++ List.replicate (4 - (lg_sl ([.ref (r 0), .int pc, .int tm])).length) Slot.unset).toArray = ls at hl ⊢
  have hl : lv_has ls 4 [(0, .ref (r 0)), (1, .int pc), (2, .int tm)] := hl
  obtain ⟨⟨hp0, hp1⟩, ⟨hr0, hr1⟩, hg0, hg1⟩ := id hI; have hr2 : (F 2).toInt ≤ 60 := Int.le_trans hr1 (by decide)
  have hv := f_RS_holder.eq_1 F A pc tm
  refine lv_aload_n hx hb d_RS_holder_0 rfl (lv_at hl 0 rfl) ?_
  refine lv_iload_n hx hb d_RS_holder_1 rfl (lv_at hl 1 rfl) ?_
  by_cases c_1 : f_RS_needPiece F A pc = 0
  · have hv := hv.trans (if_pos c_1)
    refine rdVv ⟨hx, hb, hml, hown, hW⟩ (c_RS_needPiece_k l dC dI r k F A pc   c_1) (cwV 1 hW (gIn k_12 k_13 k_14 k_15 k_16) rfl rfl rfl (by decide +kernel) ⟨Nat.le_of_ble_eq_true rfl, Nat.le_of_ble_eq_true rfl⟩) hK hP (va_recv hK hP (ci := 0) (q0 := 0) rfl rfl) rfl hl.1 rfl (Nat.le_of_ble_eq_true rfl) d_RS_holder_2 ⟨Nat.zero_le _, Nat.zero_le _⟩ ?_
    refine lv_iload_n hx hb d_RS_holder_5 rfl (lv_at hl 2 rfl) ?_
    refine lv_aload_n hx hb d_RS_holder_6 rfl (lv_at hl 0 rfl) ?_
    refine va_get (D := (dC, dI)) (ci := 0) (v := .int (F 0)) (C := R_RS) (T := F_RS) (N := 6) hx hb hW i_RS hown hK hP 0 rfl rfl 0 (by decide) (hW _ k_7) (fun _ h9 => h9) rfl d_RS_holder_7 ?_
    refine lv_icmp_ge (tgt := 23) hx hb d_RS_holder_10 (by decide) (fun c_2 => ?_) (fun c_2 => ?_)
    · have hv := hv.trans (if_pos c_2)
      refine lv_aload_n hx hb d_RS_holder_23 rfl (lv_at hl 0 rfl) ?_
      refine va_get (D := (dC, dI)) (ci := 0) (v := .ref (r 1)) (C := R_RS) (T := F_RS) (N := 6) hx hb hW i_RS hown hK hP 0 rfl rfl 4 (by decide) (hW _ k_3) (fun _ h9 => h9) rfl d_RS_holder_24 ?_
      refine lv_iload_n hx hb d_RS_holder_27 rfl (lv_at hl 1 rfl) ?_
      refine rdV ⟨hx, hb, hml, hown, hW⟩ (c_Rb_standingOn l dC dI r k F A pc hI ) (cwV 1 hW (gIn k_30 k_31 k_32 k_33 k_34) rfl rfl rfl (by decide +kernel) ⟨Nat.le_of_ble_eq_true rfl, Nat.le_of_ble_eq_true rfl⟩) hK hP (va_recv hK hP (ci := 1) (q0 := 1) rfl rfl) rfl hl.1 rfl (Nat.le_of_ble_eq_true rfl) d_RS_holder_28 ⟨Nat.zero_le _, Nat.zero_le _⟩ ?_
      refine lv_istore_n (lv' := [(3, .int (f_Rb_standingOn F A pc)), (0, .ref (r 0)), (1, .int pc), (2, .int tm)]) hx hb d_RS_holder_31 rfl hl (by decide) rfl (fun ls hl => ?_)
      refine lv_iload_n hx hb d_RS_holder_32 rfl (lv_at hl 0 rfl) ?_
      refine lv_iconst (v := (-1)) hx hb d_RS_holder_33 (by decide) ?_
      refine lv_icmp_eq (tgt := 41) hx hb d_RS_holder_34 (by decide) (fun c_3 => ?_) (fun c_3 => ?_)
      · have hv := hv.trans (if_pos c_3)
        refine lv_aload_n hx hb d_RS_holder_41 rfl (lv_at hl 1 rfl) ?_
        refine va_get (D := (dC, dI)) (ci := 0) (v := .ref (r 2)) (C := R_RS) (T := F_RS) (N := 6) hx hb hW i_RS hown hK hP 0 rfl rfl 5 (by decide) (hW _ k_5) (fun _ h9 => h9) rfl d_RS_holder_42 ?_
        refine lv_iload_n hx hb d_RS_holder_45 rfl (lv_at hl 2 rfl) ?_
        refine lv_iload_n hx hb d_RS_holder_46 rfl (lv_at hl 3 rfl) ?_
        refine rdV ⟨hx, hb, hml, hown, hW⟩ (c_Gr_robotGranted l dC dI r k F A pc tm hI ) (cwV 2 hW (gIn k_169 k_170 k_171 k_52 k_172) rfl rfl rfl (by decide +kernel) ⟨Nat.le_of_ble_eq_true rfl, Nat.le_of_ble_eq_true rfl⟩) hK hP (va_recv hK hP (ci := 2) (q0 := 2) rfl rfl) rfl hl.1 rfl (Nat.le_of_ble_eq_true rfl) d_RS_holder_47 ⟨Nat.zero_le _, Nat.zero_le _⟩ ?_
        exact W.iret (v := f_Gr_robotGranted F A pc tm) hx hb hr (fun t ht hW9 => ⟨⟨f_Gr_robotGranted F A pc tm, (F, A), rfl, hv.symm, by rw [ht]; exact hP, va_K.moved hW9.alike hK, hD⟩, hS.F ht⟩) hS.2.2 d_RS_holder_50
      · have hv := hv.trans (if_neg c_3)
        refine lv_iload_n hx hb d_RS_holder_37 rfl (lv_at hl 0 rfl) ?_
        refine lv_goto (tgt := 50) hx hb d_RS_holder_38 (by decide) ?_
        exact W.iret (v := f_Rb_standingOn F A pc) hx hb hr (fun t ht hW9 => ⟨⟨f_Rb_standingOn F A pc, (F, A), rfl, hv.symm, by rw [ht]; exact hP, va_K.moved hW9.alike hK, hD⟩, hS.F ht⟩) hS.2.2 d_RS_holder_50
    · have hv := hv.trans (if_neg c_2)
      rw [hv] at hk
      exact absurd (show (2 : Nat) = 0 from hk) (by decide)
  · have hv := hv.trans (if_neg c_1)
    rw [hv] at hk
    exact absurd hk c_1
set_option maxHeartbeats 4000000 in
set_option maxRecDepth 100000 in
theorem c_RS_holder_x (l : Launch) (hl9 : l.stackTraces = false) (dC : Nat → ClassId) (dI : Nat → Nat → Nat) (r : Nat → Nat) (k : Nat → ClassId) (F : Nat → Int32) (A : Nat → Nat → Int32) (sz : Nat) (pc tm : Int32) (hI : CI F) (hk : ¬ (f_RS_holder F A pc tm).1 = 0) : vx_Met l y_RS_holder w_RS_holder ({ frames := 7, cells := 1, slots := 6, locals := 103 }) (va_Pc [.ref (r 0), .int pc, .int tm] (XP (dC, dI) (wC r k F A) (tC k) sz)) (va_Qi (fun _ (_ : SC) => False) (fun (u : SC) t => aW (dC, dI) (tC k) (va_A (wC r k F A) sz) (wC r k u.1 u.2) t) (va_A (wC r k F A) sz)) (vx_X (fun u : Nat => f_RS_holder F A pc tm = (u, 0, F, A)) (fun E u t => E = exN u ∧ aW (dC, dI) (tC k) (va_A (wC r k F A) sz) (wC r k F A) t) (va_A (wC r k F A) sz)) 1 6 (va_A (wC r k F A) sz) := by
  refine vx_ofW (cc := b_RS_holder) (maxL := 4) (ret := (some .int)) (by decide) rfl ?_
  intro p e s m args below meth c s₁ B hml hEx hv0
  obtain ⟨rfl, ⟨hsz, hP, hK, hD0⟩, hXS⟩ := hv0
  have hx := B.exec
  have hb := B.bytes
  have hr := B.returns
  have hts := atoms_spec (ws := w_RS_holder) B.pre
  have hW : ∀ w ∈ WALL, w.before ([.ref (r 0), .int pc, .int tm] : List Value).toArray s = true := fun w h => hts w (List.mem_cons_of_mem _ h)
  have hown : s.vm.findClass R_RS = some m.cls := findClass_of_methodNamed B.named
  have hlocks := B.notSynchronized
  subst hsz
  have hD := hD0.self (sz := s.heap.size)
  generalize hAe : va_A (wC r k F A) s.heap.size = Ad at hD hXS ⊢
  have hA : ∀ q : Nat, s.heap.size ≤ q → Ad q := fun q h => by rw [← hAe]; exact Or.inr h
  have hS : va_S Ad s.heap s.heap [] := va_S.rf
  have hl := lv_entry ([.ref (r 0), .int pc, .int tm]) (n := 4) (Nat.le_of_ble_eq_true rfl)
  rw [lg_entry_eq]
  generalize (lg_sl ([.ref (r 0), .int pc, .int tm]) ++ List.replicate (4 - (lg_sl ([.ref (r 0), .int pc, .int tm])).length) Slot.unset).toArray = ls at hl ⊢
  have hl : lv_has ls 4 [(0, .ref (r 0)), (1, .int pc), (2, .int tm)] := hl
  obtain ⟨⟨hp0, hp1⟩, ⟨hr0, hr1⟩, hg0, hg1⟩ := id hI; have hr2 : (F 2).toInt ≤ 60 := Int.le_trans hr1 (by decide)
  have hv := f_RS_holder.eq_1 F A pc tm
  refine lv_aload_n hx hb d_RS_holder_0 rfl (lv_at hl 0 rfl) ?_
  refine lv_iload_n hx hb d_RS_holder_1 rfl (lv_at hl 1 rfl) ?_
  by_cases c_1 : f_RS_needPiece F A pc = 0
  · have hv := hv.trans (if_pos c_1)
    refine rdVv ⟨hx, hb, hml, hown, hW⟩ (c_RS_needPiece_k l dC dI r k F A pc   c_1) (cwV 1 hW (gIn k_12 k_13 k_14 k_15 k_16) rfl rfl rfl (by decide +kernel) ⟨Nat.le_of_ble_eq_true rfl, Nat.le_of_ble_eq_true rfl⟩) hK hP (va_recv hK hP (ci := 0) (q0 := 0) rfl rfl) rfl hl.1 rfl (Nat.le_of_ble_eq_true rfl) d_RS_holder_2 ⟨Nat.zero_le _, Nat.zero_le _⟩ ?_
    refine lv_iload_n hx hb d_RS_holder_5 rfl (lv_at hl 2 rfl) ?_
    refine lv_aload_n hx hb d_RS_holder_6 rfl (lv_at hl 0 rfl) ?_
    refine va_get (D := (dC, dI)) (ci := 0) (v := .int (F 0)) (C := R_RS) (T := F_RS) (N := 6) hx hb hW i_RS hown hK hP 0 rfl rfl 0 (by decide) (hW _ k_7) (fun _ h9 => h9) rfl d_RS_holder_7 ?_
    refine lv_icmp_ge (tgt := 23) hx hb d_RS_holder_10 (by decide) (fun c_2 => ?_) (fun c_2 => ?_)
    · have hv := hv.trans (if_pos c_2)
      exact (hk ((congrArg Prod.fst hv).trans (by first | rfl | ((repeat' split) <;> (first | rfl | exact cd_next_L _ _ _ _ _ _ _))))).elim
    · have hv := hv.trans (if_neg c_2)
      exact thr hx hb hl9 hown hW hXS tw_18 hS (hl.1.trans hml.symm) d_RS_holder_13 d_RS_holder_16 d_RS_holder_17 d_RS_holder_19 d_RS_holder_22 hEx (Nat.le_of_ble_eq_true rfl) (Nat.le_of_ble_eq_true rfl) (Nat.le_of_ble_eq_true rfl) (Nat.le_of_ble_eq_true rfl) hlocks (fun t ha hsz hk9 => ⟨2, hv, ⟨rfl, hP.kept (fun k9 q hq => hk9 q.1 (hP k9 q hq).lt), va_K.moved ha hK, hD⟩, Nat.le_trans hS.1 hsz, fun q h1 h2 => (hk9 q (Nat.lt_of_lt_of_le h1 hS.1)).trans (hS.2.1 q h1 h2)⟩) hS.2.2 (Nat.le_of_ble_eq_true rfl) (Nat.le_of_ble_eq_true rfl)
  · have hv := hv.trans (if_neg c_1)
    refine gdV ⟨hx, hb, hml, hown, hW⟩ (c_RS_needPiece_x l hl9 dC dI r k F A _ pc   c_1) (cwV 1 hW (gIn k_12 k_13 k_14 k_15 k_16) rfl rfl rfl (by decide +kernel) ⟨Nat.le_of_ble_eq_true rfl, Nat.le_of_ble_eq_true rfl⟩) hK hP hXS hA (va_recv hK hP (ci := 0) (q0 := 0) rfl rfl) hS rfl hl.1 rfl (Nat.le_of_ble_eq_true rfl) d_RS_holder_2 ⟨Nat.le_of_ble_eq_true rfl, Nat.le_of_ble_eq_true rfl⟩ (fun H locs q9 ce hP hS hce hcv hcl => ?_)
    exact vx_out (E := exN (f_RS_needPiece F A pc)) (fun x hx => (hEx x hx).elim) hlocks hce hcv hcl (fun t ht ha => ⟨f_RS_needPiece F A pc, hv, ⟨rfl, by rw [ht]; exact hP, va_K.moved ha hK, hD⟩, hS.F ht⟩) hS.2.2 (Nat.le_of_ble_eq_true rfl) (Nat.le_of_ble_eq_true rfl)
