def f_Mo_meets (F : Nat → Int32) (A : Nat → Nat → Int32) (gr oth : Int32) : Int32 × SC := if f_Mo_isGrant F A gr = 0 then (0, (uF F 0 1), A) else (if f_Mo_isGrant F A oth = 0 then (0, (uF F 0 1), A) else (if f_Mo_meet (uF F 0 0) A gr oth = 0 then (0, (uF F 0 0), A) else (1, (uF F 0 0), A)))
set_option maxHeartbeats 4000000 in
set_option maxRecDepth 100000 in
theorem c_Mo_meets (l : Launch) (dC : Nat → ClassId) (dI : Nat → Nat → Nat) (r : Nat → Nat) (k : Nat → ClassId) (F : Nat → Int32) (A : Nat → Nat → Int32) (sz : Nat) (gr oth : Int32) (hI : SI F) : Met l y_Mo_meets w_Mo_meets ({ frames := 2, cells := 0, slots := 0, locals := 43 }) (va_Pc [.ref (r 0), .int gr, .int oth] (SP (dC, dI) (wM r k F A) (tM k) sz)) (va_Qi (fun v (u : SC) => (v, u) = f_Mo_meets F A gr oth) (fun (u : SC) t => aW (dC, dI) (tM k) (va_A (wM r k F A) sz) (wM r k u.1 u.2) t) (va_A (wM r k F A) sz)) 0 0 (va_A (wM r k F A) sz) := by
  refine Met.ofW (cc := b_Mo_meets) (maxL := 3) (ret := (some .boolean)) (by decide) rfl ?_
  intro p e s m args below meth c s₁ B hml hv0
  obtain ⟨rfl, hsz, hP, hK, hD0⟩ := hv0
  have hx := B.exec
  have hb := B.bytes
  have hr := B.returns
  have hts := atoms_spec (ws := w_Mo_meets) B.pre
  have hW : ∀ w ∈ WALL, w.before ([.ref (r 0), .int gr, .int oth] : List Value).toArray s = true := fun w h => hts w (List.mem_cons_of_mem _ h)
  have hown : s.vm.findClass R_Mo = some m.cls := findClass_of_methodNamed B.named
  have hlocks := B.notSynchronized
  subst hsz
  have hD := hD0.self (sz := s.heap.size)
  generalize hAe : va_A (wM r k F A) s.heap.size = Ad at hD ⊢
  have hA : ∀ q : Nat, s.heap.size ≤ q → Ad q := fun q h => by rw [← hAe]; exact Or.inr h
  have hS : va_S Ad s.heap s.heap [] := va_S.rf
  have hl := lv_entry ([.ref (r 0), .int gr, .int oth]) (n := 3) (Nat.le_of_ble_eq_true rfl)
  rw [lg_entry_eq]
  generalize (lg_sl ([.ref (r 0), .int gr, .int oth]) ++ List.replicate (3 - (lg_sl ([.ref (r 0), .int gr, .int oth])).length) Slot.unset).toArray = ls at hl ⊢
  have hl : lv_has ls 3 [(0, .ref (r 0)), (1, .int gr), (2, .int oth)] := hl
  obtain ⟨⟨hp0, hp1⟩, ⟨hr0, hr1⟩, hg0, hg1⟩ := id hI; have hr2 : (F 3).toInt ≤ 60 := Int.le_trans hr1 (by decide); have hp2 : (F 2).toInt ≤ 60 := Int.le_trans hp1 (by decide)
  have hv := f_Mo_meets.eq_1 F A gr oth
  refine lv_aload_n hx hb d_Mo_meets_0 rfl (lv_at hl 0 rfl) ?_
  refine lv_aload_n hx hb d_Mo_meets_1 rfl (lv_at hl 0 rfl) ?_
  refine lv_iload_n hx hb d_Mo_meets_2 rfl (lv_at hl 1 rfl) ?_
  refine rdV ⟨hx, hb, hml, hown, hW⟩ (c_Mo_isGrant l dC dI r k F A gr  ) (cwV 1 hW (gIn k_240 k_241 k_242 k_193 k_243) rfl rfl rfl (by decide +kernel) ⟨Nat.le_of_ble_eq_true rfl, Nat.le_of_ble_eq_true rfl⟩) hK hP (va_recv hK hP (ci := 3) (q0 := 0) rfl rfl) rfl hl.1 rfl (Nat.le_of_ble_eq_true rfl) d_Mo_meets_3 ⟨Nat.zero_le _, Nat.zero_le _⟩ ?_
  refine lv_if_eq (tgt := 21) hx hb d_Mo_meets_6 (by decide) (fun c_1 => ?_) (fun c_1 => ?_)
  · have hv := hv.trans (if_pos c_1)
    refine lv_iconst (v := 1) hx hb d_Mo_meets_21 (by decide) ?_
    refine va_put (D := (dC, dI)) (ci := 3) (v := .int 1) (ty := .int) (C := R_Mo) (T := F_Mo) (N := 19) hx hb hW i_Mo t_Mo t_Mo_ok n_Mo hown hK hP hD hS 0 rfl rfl 0 (by decide) (hW _ k_189) (fun _ h9 => h9) rfl (by decide +kernel) rfl rfl (Nat.le_of_ble_eq_true rfl) d_Mo_meets_22 (fun H locs hP hD hS => ?_)
    have hP := pMF_0 hP
    have hD := dMF_0 hD
    refine lv_aload_n hx hb d_Mo_meets_25 rfl (lv_at hl 0 rfl) ?_
    refine va_get (D := (dC, dI)) (ci := 3) (v := .int 1) (C := R_Mo) (T := F_Mo) (N := 19) hx hb hW i_Mo hown hK hP 0 rfl rfl 0 (by decide) (hW _ k_189) (fun _ h9 => h9) rfl d_Mo_meets_26 ?_
    refine lv_if_ne (tgt := 45) hx hb d_Mo_meets_29 (by decide) (fun _ => ?_) (fun h9 => absurd h9 (by decide))
    refine lv_iconst (v := 0) hx hb d_Mo_meets_45 (by decide) ?_
    exact W.zret (v := 0) (ty := .boolean) hx hb hr rfl (fun t ht hW9 => ⟨⟨0, ((uF F 0 1), A), rfl, hv.symm, by rw [ht]; exact hP, va_K.moved hW9.alike hK, hD⟩, hS.F ht⟩) hS.2.2 d_Mo_meets_46
  · have hv := hv.trans (if_neg c_1)
    refine lv_aload_n hx hb d_Mo_meets_9 rfl (lv_at hl 0 rfl) ?_
    refine lv_iload_n hx hb d_Mo_meets_10 rfl (lv_at hl 2 rfl) ?_
    refine rdV ⟨hx, hb, hml, hown, hW⟩ (c_Mo_isGrant l dC dI r k F A oth  ) (cwV 1 hW (gIn k_240 k_241 k_242 k_193 k_243) rfl rfl rfl (by decide +kernel) ⟨Nat.le_of_ble_eq_true rfl, Nat.le_of_ble_eq_true rfl⟩) hK hP (va_recv hK hP (ci := 3) (q0 := 0) rfl rfl) rfl hl.1 rfl (Nat.le_of_ble_eq_true rfl) d_Mo_meets_11 ⟨Nat.zero_le _, Nat.zero_le _⟩ ?_
    refine lv_if_eq (tgt := 21) hx hb d_Mo_meets_14 (by decide) (fun c_2 => ?_) (fun c_2 => ?_)
    · have hv := hv.trans (if_pos c_2)
      refine lv_iconst (v := 1) hx hb d_Mo_meets_21 (by decide) ?_
      refine va_put (D := (dC, dI)) (ci := 3) (v := .int 1) (ty := .int) (C := R_Mo) (T := F_Mo) (N := 19) hx hb hW i_Mo t_Mo t_Mo_ok n_Mo hown hK hP hD hS 0 rfl rfl 0 (by decide) (hW _ k_189) (fun _ h9 => h9) rfl (by decide +kernel) rfl rfl (Nat.le_of_ble_eq_true rfl) d_Mo_meets_22 (fun H locs hP hD hS => ?_)
      have hP := pMF_0 hP
      have hD := dMF_0 hD
      refine lv_aload_n hx hb d_Mo_meets_25 rfl (lv_at hl 0 rfl) ?_
      refine va_get (D := (dC, dI)) (ci := 3) (v := .int 1) (C := R_Mo) (T := F_Mo) (N := 19) hx hb hW i_Mo hown hK hP 0 rfl rfl 0 (by decide) (hW _ k_189) (fun _ h9 => h9) rfl d_Mo_meets_26 ?_
      refine lv_if_ne (tgt := 45) hx hb d_Mo_meets_29 (by decide) (fun _ => ?_) (fun h9 => absurd h9 (by decide))
      refine lv_iconst (v := 0) hx hb d_Mo_meets_45 (by decide) ?_
      exact W.zret (v := 0) (ty := .boolean) hx hb hr rfl (fun t ht hW9 => ⟨⟨0, ((uF F 0 1), A), rfl, hv.symm, by rw [ht]; exact hP, va_K.moved hW9.alike hK, hD⟩, hS.F ht⟩) hS.2.2 d_Mo_meets_46
    · have hv := hv.trans (if_neg c_2)
      refine lv_iconst (v := 0) hx hb d_Mo_meets_17 (by decide) ?_
      refine lv_goto (tgt := 22) hx hb d_Mo_meets_18 (by decide) ?_
      refine va_put (D := (dC, dI)) (ci := 3) (v := .int 0) (ty := .int) (C := R_Mo) (T := F_Mo) (N := 19) hx hb hW i_Mo t_Mo t_Mo_ok n_Mo hown hK hP hD hS 0 rfl rfl 0 (by decide) (hW _ k_189) (fun _ h9 => h9) rfl (by decide +kernel) rfl rfl (Nat.le_of_ble_eq_true rfl) d_Mo_meets_22 (fun H locs hP hD hS => ?_)
      have hP := pMF_0 hP
      have hD := dMF_0 hD
      refine lv_aload_n hx hb d_Mo_meets_25 rfl (lv_at hl 0 rfl) ?_
      refine va_get (D := (dC, dI)) (ci := 3) (v := .int 0) (C := R_Mo) (T := F_Mo) (N := 19) hx hb hW i_Mo hown hK hP 0 rfl rfl 0 (by decide) (hW _ k_189) (fun _ h9 => h9) rfl d_Mo_meets_26 ?_
      refine lv_if_ne (tgt := 45) hx hb d_Mo_meets_29 (by decide) (fun h9 => absurd h9 (by decide)) (fun _ => ?_)
      refine lv_aload_n hx hb d_Mo_meets_32 rfl (lv_at hl 0 rfl) ?_
      refine lv_iload_n hx hb d_Mo_meets_33 rfl (lv_at hl 1 rfl) ?_
      refine lv_iload_n hx hb d_Mo_meets_34 rfl (lv_at hl 2 rfl) ?_
      refine rdV ⟨hx, hb, hml, hown, hW⟩ (c_Mo_meet l dC dI r k (uF F 0 0) A gr oth  (mxG hI c_1) (mxG hI c_2)) (cwV 2 hW (gIn k_218 k_219 k_220 k_193 k_221) rfl rfl rfl (by decide +kernel) ⟨Nat.le_of_ble_eq_true rfl, Nat.le_of_ble_eq_true rfl⟩) hK hP (va_recv hK hP (ci := 3) (q0 := 0) rfl rfl) rfl hl.1 rfl (Nat.le_of_ble_eq_true rfl) d_Mo_meets_35 ⟨Nat.zero_le _, Nat.zero_le _⟩ ?_
      refine lv_if_eq (tgt := 45) hx hb d_Mo_meets_38 (by decide) (fun c_3 => ?_) (fun c_3 => ?_)
      · have hv := hv.trans (if_pos c_3)
        refine lv_iconst (v := 0) hx hb d_Mo_meets_45 (by decide) ?_
        exact W.zret (v := 0) (ty := .boolean) hx hb hr rfl (fun t ht hW9 => ⟨⟨0, ((uF F 0 0), A), rfl, hv.symm, by rw [ht]; exact hP, va_K.moved hW9.alike hK, hD⟩, hS.F ht⟩) hS.2.2 d_Mo_meets_46
      · have hv := hv.trans (if_neg c_3)
        refine lv_iconst (v := 1) hx hb d_Mo_meets_41 (by decide) ?_
        refine lv_goto (tgt := 46) hx hb d_Mo_meets_42 (by decide) ?_
        exact W.zret (v := 1) (ty := .boolean) hx hb hr rfl (fun t ht hW9 => ⟨⟨1, ((uF F 0 0), A), rfl, hv.symm, by rw [ht]; exact hP, va_K.moved hW9.alike hK, hD⟩, hS.F ht⟩) hS.2.2 d_Mo_meets_46
def f_Mo_step_L102 (F : Nat → Int32) (A : Nat → Nat → Int32) (rb pc : Int32) (A1_ : Nat → Nat → Int32) : Nat → Int32 → Int32 × SC
  | 0, _ => (0, F, A)
  | n102 + 1, x3 => if F 4 < x3 then (0, (uF (uF F 0 0) 0 0), A1_) else (if A1_ 8 x3.toNatClampNeg = rb then (if A1_ 9 x3.toNatClampNeg = pc then (if A1_ 13 x3.toNatClampNeg = 0 then (if A1_ 10 x3.toNatClampNeg ≤ F 1 then (if f_Mo_isTaken (uF (uF F 0 0) 0 0) A1_ rb pc = 0 then (if (uA A1_ 13 (upd (A1_ 13) x3.toNatClampNeg 1)) 3 rb.toNatClampNeg = 0 then (x3, (uF (uF F 0 0) 0 0), (uA (uA (uA (uA A1_ 13 (upd (A1_ 13) x3.toNatClampNeg 1)) 4 (upd ((uA A1_ 13 (upd (A1_ 13) x3.toNatClampNeg 1)) 4) rb.toNatClampNeg (-1))) 2 (upd ((uA (uA A1_ 13 (upd (A1_ 13) x3.toNatClampNeg 1)) 4 (upd ((uA A1_ 13 (upd (A1_ 13) x3.toNatClampNeg 1)) 4) rb.toNatClampNeg (-1))) 2) rb.toNatClampNeg pc)) 5 (upd ((uA (uA (uA A1_ 13 (upd (A1_ 13) x3.toNatClampNeg 1)) 4 (upd ((uA A1_ 13 (upd (A1_ 13) x3.toNatClampNeg 1)) 4) rb.toNatClampNeg (-1))) 2 (upd ((uA (uA A1_ 13 (upd (A1_ 13) x3.toNatClampNeg 1)) 4 (upd ((uA A1_ 13 (upd (A1_ 13) x3.toNatClampNeg 1)) 4) rb.toNatClampNeg (-1))) 2) rb.toNatClampNeg pc)) 5) rb.toNatClampNeg (-1)))) else (x3, (uF (uF F 0 0) 0 0), (uA (uA (uA (uA A1_ 13 (upd (A1_ 13) x3.toNatClampNeg 1)) 4 (upd ((uA A1_ 13 (upd (A1_ 13) x3.toNatClampNeg 1)) 4) rb.toNatClampNeg ((uA A1_ 13 (upd (A1_ 13) x3.toNatClampNeg 1)) 2 rb.toNatClampNeg))) 2 (upd ((uA (uA A1_ 13 (upd (A1_ 13) x3.toNatClampNeg 1)) 4 (upd ((uA A1_ 13 (upd (A1_ 13) x3.toNatClampNeg 1)) 4) rb.toNatClampNeg ((uA A1_ 13 (upd (A1_ 13) x3.toNatClampNeg 1)) 2 rb.toNatClampNeg))) 2) rb.toNatClampNeg pc)) 5 (upd ((uA (uA (uA A1_ 13 (upd (A1_ 13) x3.toNatClampNeg 1)) 4 (upd ((uA A1_ 13 (upd (A1_ 13) x3.toNatClampNeg 1)) 4) rb.toNatClampNeg ((uA A1_ 13 (upd (A1_ 13) x3.toNatClampNeg 1)) 2 rb.toNatClampNeg))) 2 (upd ((uA (uA A1_ 13 (upd (A1_ 13) x3.toNatClampNeg 1)) 4 (upd ((uA A1_ 13 (upd (A1_ 13) x3.toNatClampNeg 1)) 4) rb.toNatClampNeg ((uA A1_ 13 (upd (A1_ 13) x3.toNatClampNeg 1)) 2 rb.toNatClampNeg))) 2) rb.toNatClampNeg pc)) 5) rb.toNatClampNeg (-1))))) else ((-1), (uF (uF F 0 0) 0 0), A1_)) else (f_Mo_step_L102 F A rb pc A1_ n102 (x3 + 1))) else (f_Mo_step_L102 F A rb pc A1_ n102 (x3 + 1))) else (f_Mo_step_L102 F A rb pc A1_ n102 (x3 + 1))) else (f_Mo_step_L102 F A rb pc A1_ n102 (x3 + 1)))
def f_Mo_step (F : Nat → Int32) (A : Nat → Nat → Int32) (rb pc : Int32) : Int32 × SC := if f_Mo_isRobot F A rb = 0 then (0, (uF F 0 1), A) else (if f_Mo_isPiece F A pc = 0 then (0, (uF F 0 1), A) else (if A 1 ((16 * (A 2 rb.toNatClampNeg)) + pc).toNatClampNeg = 0 then (0, (uF (uF F 0 0) 0 2), A) else (if A 7 rb.toNatClampNeg = 0 then (if f_Mo_isSilent (uF F 0 0) A rb = 0 then (f_Mo_step_L102 F A rb pc (uA A 6 (upd (A 6) rb.toNatClampNeg (F 1))) 64 1) else (0, (uF (uF F 0 0) 0 3), A)) else (0, (uF (uF F 0 0) 0 3), A))))
set_option maxHeartbeats 4000000 in
set_option maxRecDepth 100000 in
theorem c_Mo_step (l : Launch) (dC : Nat → ClassId) (dI : Nat → Nat → Nat) (r : Nat → Nat) (k : Nat → ClassId) (F : Nat → Int32) (A : Nat → Nat → Int32) (sz : Nat) (rb pc : Int32) (hI : SI F) (h_at : ∀ j : Nat, (j : Int) < (F 3).toInt → vp_in (A 2 j) 16) : Met l y_Mo_step w_Mo_step ({ frames := 2, cells := 0, slots := 0, locals := 44 }) (va_Pc [.ref (r 0), .int rb, .int pc] (SP (dC, dI) (wM r k F A) (tM k) sz)) (va_Qi (fun v (u : SC) => (v, u) = f_Mo_step F A rb pc) (fun (u : SC) t => aW (dC, dI) (tM k) (va_A (wM r k F A) sz) (wM r k u.1 u.2) t) (va_A (wM r k F A) sz)) 0 0 (va_A (wM r k F A) sz) := by
  refine Met.ofW (cc := b_Mo_step) (maxL := 4) (ret := (some .int)) (by decide) rfl ?_
  intro p e s m args below meth c s₁ B hml hv0
  obtain ⟨rfl, hsz, hP, hK, hD0⟩ := hv0
  have hx := B.exec
  have hb := B.bytes
  have hr := B.returns
  have hts := atoms_spec (ws := w_Mo_step) B.pre
  have hW : ∀ w ∈ WALL, w.before ([.ref (r 0), .int rb, .int pc] : List Value).toArray s = true := fun w h => hts w (List.mem_cons_of_mem _ h)
  have hown : s.vm.findClass R_Mo = some m.cls := findClass_of_methodNamed B.named
  have hlocks := B.notSynchronized
  subst hsz
  have hD := hD0.self (sz := s.heap.size)
  generalize hAe : va_A (wM r k F A) s.heap.size = Ad at hD ⊢
  have hA : ∀ q : Nat, s.heap.size ≤ q → Ad q := fun q h => by rw [← hAe]; exact Or.inr h
  have hS : va_S Ad s.heap s.heap [] := va_S.rf
  have hl := lv_entry ([.ref (r 0), .int rb, .int pc]) (n := 4) (Nat.le_of_ble_eq_true rfl)
  rw [lg_entry_eq]
  generalize (lg_sl ([.ref (r 0), .int rb, .int pc]) ++ List.replicate (4 - (lg_sl ([.ref (r 0), .int rb, .int pc])).length) Slot.unset).toArray = ls at hl ⊢
  have hl : lv_has ls 4 [(0, .ref (r 0)), (1, .int rb), (2, .int pc)] := hl
  obtain ⟨⟨hp0, hp1⟩, ⟨hr0, hr1⟩, hg0, hg1⟩ := id hI; have hr2 : (F 3).toInt ≤ 60 := Int.le_trans hr1 (by decide); have hp2 : (F 2).toInt ≤ 60 := Int.le_trans hp1 (by decide)
  have hv := f_Mo_step.eq_1 F A rb pc
  refine lv_aload_n hx hb d_Mo_step_0 rfl (lv_at hl 0 rfl) ?_
  refine lv_aload_n hx hb d_Mo_step_1 rfl (lv_at hl 0 rfl) ?_
  refine lv_iload_n hx hb d_Mo_step_2 rfl (lv_at hl 1 rfl) ?_
  refine rdV ⟨hx, hb, hml, hown, hW⟩ (c_Mo_isRobot l dC dI r k F A rb  ) (cwV 1 hW (gIn k_222 k_223 k_224 k_193 k_225) rfl rfl rfl (by decide +kernel) ⟨Nat.le_of_ble_eq_true rfl, Nat.le_of_ble_eq_true rfl⟩) hK hP (va_recv hK hP (ci := 3) (q0 := 0) rfl rfl) rfl hl.1 rfl (Nat.le_of_ble_eq_true rfl) d_Mo_step_3 ⟨Nat.zero_le _, Nat.zero_le _⟩ ?_
  refine lv_if_eq (tgt := 17) hx hb d_Mo_step_6 (by decide) (fun c_1 => ?_) (fun c_1 => ?_)
  · have hv := hv.trans (if_pos c_1)
    refine lv_iconst (v := 1) hx hb d_Mo_step_17 (by decide) ?_
    refine lv_goto (tgt := 22) hx hb d_Mo_step_18 (by decide) ?_
    refine va_put (D := (dC, dI)) (ci := 3) (v := .int 1) (ty := .int) (C := R_Mo) (T := F_Mo) (N := 19) hx hb hW i_Mo t_Mo t_Mo_ok n_Mo hown hK hP hD hS 0 rfl rfl 0 (by decide) (hW _ k_189) (fun _ h9 => h9) rfl (by decide +kernel) rfl rfl (Nat.le_of_ble_eq_true rfl) d_Mo_step_22 (fun H locs hP hD hS => ?_)
    have hP := pMF_0 hP
    have hD := dMF_0 hD
    refine lv_aload_n hx hb d_Mo_step_25 rfl (lv_at hl 0 rfl) ?_
    refine va_get (D := (dC, dI)) (ci := 3) (v := .int 1) (C := R_Mo) (T := F_Mo) (N := 19) hx hb hW i_Mo hown hK hP 0 rfl rfl 0 (by decide) (hW _ k_189) (fun _ h9 => h9) rfl d_Mo_step_26 ?_
    refine lv_if_ne (tgt := 81) hx hb d_Mo_step_29 (by decide) (fun _ => ?_) (fun h9 => absurd h9 (by decide))
    refine lv_aload_n hx hb d_Mo_step_81 rfl (lv_at hl 0 rfl) ?_
    refine va_get (D := (dC, dI)) (ci := 3) (v := .int 1) (C := R_Mo) (T := F_Mo) (N := 19) hx hb hW i_Mo hown hK hP 0 rfl rfl 0 (by decide) (hW _ k_189) (fun _ h9 => h9) rfl d_Mo_step_82 ?_
    refine lv_if_le (tgt := 90) hx hb d_Mo_step_85 (by decide) (fun h9 => absurd h9 (by decide)) (fun _ => ?_)
    refine lv_iconst (v := 0) hx hb d_Mo_step_88 (by decide) ?_
    exact W.iret (v := 0) hx hb hr (fun t ht hW9 => ⟨⟨0, ((uF F 0 1), A), rfl, hv.symm, by rw [ht]; exact hP, va_K.moved hW9.alike hK, hD⟩, hS.F ht⟩) hS.2.2 d_Mo_step_89
  · have hv := hv.trans (if_neg c_1)
    refine lv_aload_n hx hb d_Mo_step_9 rfl (lv_at hl 0 rfl) ?_
    refine lv_iload_n hx hb d_Mo_step_10 rfl (lv_at hl 2 rfl) ?_
    refine rdV ⟨hx, hb, hml, hown, hW⟩ (c_Mo_isPiece l dC dI r k F A pc  ) (cwV 1 hW (gIn k_197 k_198 k_199 k_193 k_200) rfl rfl rfl (by decide +kernel) ⟨Nat.le_of_ble_eq_true rfl, Nat.le_of_ble_eq_true rfl⟩) hK hP (va_recv hK hP (ci := 3) (q0 := 0) rfl rfl) rfl hl.1 rfl (Nat.le_of_ble_eq_true rfl) d_Mo_step_11 ⟨Nat.zero_le _, Nat.zero_le _⟩ ?_
    refine lv_if_ne (tgt := 21) hx hb d_Mo_step_14 (by decide) (fun c_2 => ?_) (fun c_2 => ?_)
    · have hv := hv.trans (if_neg c_2)
      refine lv_iconst (v := 0) hx hb d_Mo_step_21 (by decide) ?_
      refine va_put (D := (dC, dI)) (ci := 3) (v := .int 0) (ty := .int) (C := R_Mo) (T := F_Mo) (N := 19) hx hb hW i_Mo t_Mo t_Mo_ok n_Mo hown hK hP hD hS 0 rfl rfl 0 (by decide) (hW _ k_189) (fun _ h9 => h9) rfl (by decide +kernel) rfl rfl (Nat.le_of_ble_eq_true rfl) d_Mo_step_22 (fun H locs hP hD hS => ?_)
      have hP := pMF_0 hP
      have hD := dMF_0 hD
      refine lv_aload_n hx hb d_Mo_step_25 rfl (lv_at hl 0 rfl) ?_
      refine va_get (D := (dC, dI)) (ci := 3) (v := .int 0) (C := R_Mo) (T := F_Mo) (N := 19) hx hb hW i_Mo hown hK hP 0 rfl rfl 0 (by decide) (hW _ k_189) (fun _ h9 => h9) rfl d_Mo_step_26 ?_
      refine lv_if_ne (tgt := 81) hx hb d_Mo_step_29 (by decide) (fun h9 => absurd h9 (by decide)) (fun _ => ?_)
      refine lv_aload_n hx hb d_Mo_step_32 rfl (lv_at hl 0 rfl) ?_
      refine lv_aload_n hx hb d_Mo_step_33 rfl (lv_at hl 0 rfl) ?_
      refine va_get (D := (dC, dI)) (ci := 3) (v := .ref (r 2)) (C := R_Mo) (T := F_Mo) (N := 19) hx hb hW i_Mo hown hK hP 0 rfl rfl 4 (by decide) (hW _ k_201) (fun _ h9 => h9) rfl d_Mo_step_34 ?_
      refine lv_bipush (v := 16) hx hb d_Mo_step_37 (by decide) ?_
      refine lv_aload_n hx hb d_Mo_step_39 rfl (lv_at hl 0 rfl) ?_
      refine va_get (D := (dC, dI)) (ci := 3) (v := .ref (r 3)) (C := R_Mo) (T := F_Mo) (N := 19) hx hb hW i_Mo hown hK hP 0 rfl rfl 6 (by decide) (hW _ k_202) (fun _ h9 => h9) rfl d_Mo_step_40 ?_
      refine lv_iload_n hx hb d_Mo_step_43 rfl (lv_at hl 1 rfl) ?_
      refine va_iald hx hb hK hP 3 2 rfl rfl (mxR hI c_1) d_Mo_step_44 ?_
      refine lv_imul hx hb d_Mo_step_45 ?_
      refine lv_iload_n hx hb d_Mo_step_46 rfl (lv_at hl 2 rfl) ?_
      refine lv_iadd hx hb d_Mo_step_47 ?_
      refine va_zald hx hb hK hP 2 1 rfl rfl (mxK (mxA hI h_at c_1) (mxP hI c_2)) d_Mo_step_48 ?_
      refine lv_if_ne (tgt := 56) hx hb d_Mo_step_49 (by decide) (fun c_3 => ?_) (fun c_3 => ?_)
      · have hv := hv.trans (if_neg c_3)
        refine lv_aload_n hx hb d_Mo_step_56 rfl (lv_at hl 0 rfl) ?_
        refine va_get (D := (dC, dI)) (ci := 3) (v := .ref (r 8)) (C := R_Mo) (T := F_Mo) (N := 19) hx hb hW i_Mo hown hK hP 0 rfl rfl 11 (by decide) (hW _ k_226) (fun _ h9 => h9) rfl d_Mo_step_57 ?_
        refine lv_iload_n hx hb d_Mo_step_60 rfl (lv_at hl 1 rfl) ?_
        refine va_zald hx hb hK hP 8 7 rfl rfl (mxR hI c_1) d_Mo_step_61 ?_
        refine lv_if_ne (tgt := 73) hx hb d_Mo_step_62 (by decide) (fun c_4 => ?_) (fun c_4 => ?_)
        · have hv := hv.trans (if_neg c_4)
          refine lv_iconst (v := 3) hx hb d_Mo_step_73 (by decide) ?_
          refine lv_goto (tgt := 78) hx hb d_Mo_step_74 (by decide) ?_
          refine va_put (D := (dC, dI)) (ci := 3) (v := .int 3) (ty := .int) (C := R_Mo) (T := F_Mo) (N := 19) hx hb hW i_Mo t_Mo t_Mo_ok n_Mo hown hK hP hD hS 0 rfl rfl 0 (by decide) (hW _ k_189) (fun _ h9 => h9) rfl (by decide +kernel) rfl rfl (Nat.le_of_ble_eq_true rfl) d_Mo_step_78 (fun H locs hP hD hS => ?_)
          have hP := pMF_0 hP
          have hD := dMF_0 hD
          refine lv_aload_n hx hb d_Mo_step_81 rfl (lv_at hl 0 rfl) ?_
          refine va_get (D := (dC, dI)) (ci := 3) (v := .int 3) (C := R_Mo) (T := F_Mo) (N := 19) hx hb hW i_Mo hown hK hP 0 rfl rfl 0 (by decide) (hW _ k_189) (fun _ h9 => h9) rfl d_Mo_step_82 ?_
          refine lv_if_le (tgt := 90) hx hb d_Mo_step_85 (by decide) (fun h9 => absurd h9 (by decide)) (fun _ => ?_)
          refine lv_iconst (v := 0) hx hb d_Mo_step_88 (by decide) ?_
          exact W.iret (v := 0) hx hb hr (fun t ht hW9 => ⟨⟨0, ((uF (uF F 0 0) 0 3), A), rfl, hv.symm, by rw [ht]; exact hP, va_K.moved hW9.alike hK, hD⟩, hS.F ht⟩) hS.2.2 d_Mo_step_89
        · have hv := hv.trans (if_pos c_4)
          refine lv_aload_n hx hb d_Mo_step_65 rfl (lv_at hl 0 rfl) ?_
          refine lv_iload_n hx hb d_Mo_step_66 rfl (lv_at hl 1 rfl) ?_
          refine rdV ⟨hx, hb, hml, hown, hW⟩ (c_Mo_isSilent l dC dI r k (uF F 0 0) A rb  (mxR hI c_1)) (cwV 1 hW (gIn k_227 k_228 k_229 k_193 k_230) rfl rfl rfl (by decide +kernel) ⟨Nat.le_of_ble_eq_true rfl, Nat.le_of_ble_eq_true rfl⟩) hK hP (va_recv hK hP (ci := 3) (q0 := 0) rfl rfl) rfl hl.1 rfl (Nat.le_of_ble_eq_true rfl) d_Mo_step_67 ⟨Nat.zero_le _, Nat.zero_le _⟩ ?_
          refine lv_if_eq (tgt := 77) hx hb d_Mo_step_70 (by decide) (fun c_5 => ?_) (fun c_5 => ?_)
          · have hv := hv.trans (if_pos c_5)
            refine lv_iconst (v := 0) hx hb d_Mo_step_77 (by decide) ?_
            refine va_put (D := (dC, dI)) (ci := 3) (v := .int 0) (ty := .int) (C := R_Mo) (T := F_Mo) (N := 19) hx hb hW i_Mo t_Mo t_Mo_ok n_Mo hown hK hP hD hS 0 rfl rfl 0 (by decide) (hW _ k_189) (fun _ h9 => h9) rfl (by decide +kernel) rfl rfl (Nat.le_of_ble_eq_true rfl) d_Mo_step_78 (fun H locs hP hD hS => ?_)
            have hP := pMF_0 hP
            have hD := dMF_0 hD
            refine lv_aload_n hx hb d_Mo_step_81 rfl (lv_at hl 0 rfl) ?_
            refine va_get (D := (dC, dI)) (ci := 3) (v := .int 0) (C := R_Mo) (T := F_Mo) (N := 19) hx hb hW i_Mo hown hK hP 0 rfl rfl 0 (by decide) (hW _ k_189) (fun _ h9 => h9) rfl d_Mo_step_82 ?_
            refine lv_if_le (tgt := 90) hx hb d_Mo_step_85 (by decide) (fun _ => ?_) (fun h9 => absurd h9 (by decide))
            refine lv_aload_n hx hb d_Mo_step_90 rfl (lv_at hl 0 rfl) ?_
            refine va_get (D := (dC, dI)) (ci := 3) (v := .ref (r 7)) (C := R_Mo) (T := F_Mo) (N := 19) hx hb hW i_Mo hown hK hP 0 rfl rfl 10 (by decide) (hW _ k_211) (fun _ h9 => h9) rfl d_Mo_step_91 ?_
            refine lv_iload_n hx hb d_Mo_step_94 rfl (lv_at hl 1 rfl) ?_
            refine lv_aload_n hx hb d_Mo_step_95 rfl (lv_at hl 0 rfl) ?_
            refine va_get (D := (dC, dI)) (ci := 3) (v := .int (F 1)) (C := R_Mo) (T := F_Mo) (N := 19) hx hb hW i_Mo hown hK hP 0 rfl rfl 1 (by decide) (hW _ k_212) (fun _ h9 => h9) rfl d_Mo_step_96 ?_
            refine va_iast hx hb hK hP hD hS 7 6 rfl rfl (mxR hI c_1) d_Mo_step_99 (fun H locs hP hD hS => ?_)
            have hP := pMA_6 hP
            have hD := dMA_6 hD
            generalize hAg1 : (uA A 6 (upd (A 6) rb.toNatClampNeg (F 1))) = A1_ at hP hD hv
            refine lv_iconst (v := 1) hx hb d_Mo_step_100 (by decide) ?_
            refine lv_istore_n (lv' := [(3, .int 1), (0, .ref (r 0)), (1, .int rb), (2, .int pc)]) hx hb d_Mo_step_101 rfl hl (by decide) rfl (fun ls hl => ?_)
            have loop102 : ∀ (n102 : Nat) (x3 : Int32) (ls : Array Slot), LA (F 4) x3 n102 → f_Mo_step F A rb pc = f_Mo_step_L102 F A rb pc A1_ n102 x3 → lv_has ls 4 [(0, .ref (r 0)), (1, .int rb), (2, .int pc), (3, .int x3)] → W p l e (headSpec w_Mo_step ({ frames := 2, cells := 0, slots := 0, locals := 44 })).room s m ([.ref (r 0), .int rb, .int pc] : List Value).toArray below meth c H locs 0 0 (MQ below (va_Qi (fun v (u : SC) => (v, u) = f_Mo_step F A rb pc) (fun (u : SC) t => aW (dC, dI) (tM k) Ad (wM r k u.1 u.2) t) Ad) ([.ref (r 0), .int rb, .int pc] : List Value).toArray s 0 0 Ad) (F0 m 102 ls []) := by
              intro n102
              induction n102 with
              | zero => intro x3 ls hlp; exact (hlp.z).elim
              | succ n102 ih102 =>
                intro x3 ls hlp102 hv hl
                rw [f_Mo_step_L102] at hv
                refine lv_iload_n hx hb d_Mo_step_102 rfl (lv_at hl 3 rfl) ?_
                refine lv_aload_n hx hb d_Mo_step_103 rfl (lv_at hl 0 rfl) ?_
                refine va_get (D := (dC, dI)) (ci := 3) (v := .int (F 4)) (C := R_Mo) (T := F_Mo) (N := 19) hx hb hW i_Mo hown hK hP 0 rfl rfl 12 (by decide) (hW _ k_196) (fun _ h9 => h9) rfl d_Mo_step_104 ?_
                refine lv_icmp_gt (tgt := 158) hx hb d_Mo_step_107 (by decide) (fun c_6 => ?_) (fun c_6 => ?_)
                · have hv := hv.trans (if_pos c_6)
                  refine lv_iload_n hx hb d_Mo_step_158 rfl (lv_at hl 3 rfl) ?_
                  refine lv_aload_n hx hb d_Mo_step_159 rfl (lv_at hl 0 rfl) ?_
                  refine va_get (D := (dC, dI)) (ci := 3) (v := .int (F 4)) (C := R_Mo) (T := F_Mo) (N := 19) hx hb hW i_Mo hown hK hP 0 rfl rfl 12 (by decide) (hW _ k_196) (fun _ h9 => h9) rfl d_Mo_step_160 ?_
                  refine lv_icmp_le (tgt := 168) hx hb d_Mo_step_163 (by decide) (fun h9 => absurd h9 (Int32.not_le.mpr c_6)) (fun _ => ?_)
                  refine lv_iconst (v := 0) hx hb d_Mo_step_166 (by decide) ?_
                  exact W.iret (v := 0) hx hb hr (fun t ht hW9 => ⟨⟨0, ((uF (uF F 0 0) 0 0), A1_), rfl, hv.symm, by rw [ht]; exact hP, va_K.moved hW9.alike hK, hD⟩, hS.F ht⟩) hS.2.2 d_Mo_step_167
                · have hv := hv.trans (if_neg c_6)
                  refine lv_aload_n hx hb d_Mo_step_110 rfl (lv_at hl 0 rfl) ?_
                  refine va_get (D := (dC, dI)) (ci := 3) (v := .ref (r 9)) (C := R_Mo) (T := F_Mo) (N := 19) hx hb hW i_Mo hown hK hP 0 rfl rfl 13 (by decide) (hW _ k_217) (fun _ h9 => h9) rfl d_Mo_step_111 ?_
                  refine lv_iload_n hx hb d_Mo_step_114 rfl (lv_at hl 3 rfl) ?_
                  refine va_iald hx hb hK hP 9 8 rfl rfl (LA.ix hlp102 c_6 hg1) d_Mo_step_115 ?_
                  refine lv_iload_n hx hb d_Mo_step_116 rfl (lv_at hl 1 rfl) ?_
                  refine lv_icmp_ne (tgt := 152) hx hb d_Mo_step_117 (by decide) (fun c_7 => ?_) (fun c_7 => ?_)
                  · have hv := hv.trans (if_neg c_7)
                    refine lv_iinc (v := x3 + 1) (lv' := [(3, .int (x3 + 1)), (0, .ref (r 0)), (1, .int rb), (2, .int pc)]) hx hb d_Mo_step_152 hl (k := 3) rfl rfl (by decide) rfl (fun ls hl => ?_)
                    refine lv_goto (tgt := 102) hx hb d_Mo_step_155 (by decide) ?_
                    exact ih102 (x3 + 1) ls (LA.s hlp102 c_6 hg1) hv (lv_sub hl [1, 2, 3, 0] rfl)
                  · have hv := hv.trans (if_pos c_7)
                    refine lv_aload_n hx hb d_Mo_step_120 rfl (lv_at hl 0 rfl) ?_
                    refine va_get (D := (dC, dI)) (ci := 3) (v := .ref (r 10)) (C := R_Mo) (T := F_Mo) (N := 19) hx hb hW i_Mo hown hK hP 0 rfl rfl 14 (by decide) (hW _ k_213) (fun _ h9 => h9) rfl d_Mo_step_121 ?_
                    refine lv_iload_n hx hb d_Mo_step_124 rfl (lv_at hl 3 rfl) ?_
                    refine va_iald hx hb hK hP 10 9 rfl rfl (LA.ix hlp102 c_6 hg1) d_Mo_step_125 ?_
                    refine lv_iload_n hx hb d_Mo_step_126 rfl (lv_at hl 2 rfl) ?_
                    refine lv_icmp_ne (tgt := 152) hx hb d_Mo_step_127 (by decide) (fun c_8 => ?_) (fun c_8 => ?_)
                    · have hv := hv.trans (if_neg c_8)
                      refine lv_iinc (v := x3 + 1) (lv' := [(3, .int (x3 + 1)), (0, .ref (r 0)), (1, .int rb), (2, .int pc)]) hx hb d_Mo_step_152 hl (k := 3) rfl rfl (by decide) rfl (fun ls hl => ?_)
                      refine lv_goto (tgt := 102) hx hb d_Mo_step_155 (by decide) ?_
                      exact ih102 (x3 + 1) ls (LA.s hlp102 c_6 hg1) hv (lv_sub hl [1, 2, 3, 0] rfl)
                    · have hv := hv.trans (if_pos c_8)
                      refine lv_aload_n hx hb d_Mo_step_130 rfl (lv_at hl 0 rfl) ?_
                      refine va_get (D := (dC, dI)) (ci := 3) (v := .ref (r 14)) (C := R_Mo) (T := F_Mo) (N := 19) hx hb hW i_Mo hown hK hP 0 rfl rfl 18 (by decide) (hW _ k_216) (fun _ h9 => h9) rfl d_Mo_step_131 ?_
                      refine lv_iload_n hx hb d_Mo_step_134 rfl (lv_at hl 3 rfl) ?_
                      refine va_iald hx hb hK hP 14 13 rfl rfl (LA.ix hlp102 c_6 hg1) d_Mo_step_135 ?_
                      refine lv_if_ne (tgt := 152) hx hb d_Mo_step_136 (by decide) (fun c_9 => ?_) (fun c_9 => ?_)
                      · have hv := hv.trans (if_neg c_9)
                        refine lv_iinc (v := x3 + 1) (lv' := [(3, .int (x3 + 1)), (0, .ref (r 0)), (1, .int rb), (2, .int pc)]) hx hb d_Mo_step_152 hl (k := 3) rfl rfl (by decide) rfl (fun ls hl => ?_)
                        refine lv_goto (tgt := 102) hx hb d_Mo_step_155 (by decide) ?_
                        exact ih102 (x3 + 1) ls (LA.s hlp102 c_6 hg1) hv (lv_sub hl [1, 2, 3, 0] rfl)
                      · have hv := hv.trans (if_pos c_9)
                        refine lv_aload_n hx hb d_Mo_step_139 rfl (lv_at hl 0 rfl) ?_
                        refine va_get (D := (dC, dI)) (ci := 3) (v := .ref (r 11)) (C := R_Mo) (T := F_Mo) (N := 19) hx hb hW i_Mo hown hK hP 0 rfl rfl 15 (by decide) (hW _ k_214) (fun _ h9 => h9) rfl d_Mo_step_140 ?_
                        refine lv_iload_n hx hb d_Mo_step_143 rfl (lv_at hl 3 rfl) ?_
                        refine va_iald hx hb hK hP 11 10 rfl rfl (LA.ix hlp102 c_6 hg1) d_Mo_step_144 ?_
                        refine lv_aload_n hx hb d_Mo_step_145 rfl (lv_at hl 0 rfl) ?_
                        refine va_get (D := (dC, dI)) (ci := 3) (v := .int (F 1)) (C := R_Mo) (T := F_Mo) (N := 19) hx hb hW i_Mo hown hK hP 0 rfl rfl 1 (by decide) (hW _ k_212) (fun _ h9 => h9) rfl d_Mo_step_146 ?_
                        refine lv_icmp_le (tgt := 158) hx hb d_Mo_step_149 (by decide) (fun c_10 => ?_) (fun c_10 => ?_)
                        · have hv := hv.trans (if_pos c_10)
                          refine lv_iload_n hx hb d_Mo_step_158 rfl (lv_at hl 3 rfl) ?_
                          refine lv_aload_n hx hb d_Mo_step_159 rfl (lv_at hl 0 rfl) ?_
                          refine va_get (D := (dC, dI)) (ci := 3) (v := .int (F 4)) (C := R_Mo) (T := F_Mo) (N := 19) hx hb hW i_Mo hown hK hP 0 rfl rfl 12 (by decide) (hW _ k_196) (fun _ h9 => h9) rfl d_Mo_step_160 ?_
                          refine lv_icmp_le (tgt := 168) hx hb d_Mo_step_163 (by decide) (fun _ => ?_) (fun h9 => absurd (Int32.not_lt.mp c_6) h9)
                          refine lv_aload_n hx hb d_Mo_step_168 rfl (lv_at hl 0 rfl) ?_
                          refine lv_iload_n hx hb d_Mo_step_169 rfl (lv_at hl 1 rfl) ?_
                          refine lv_iload_n hx hb d_Mo_step_170 rfl (lv_at hl 2 rfl) ?_
                          refine rdV ⟨hx, hb, hml, hown, hW⟩ (c_Mo_isTaken l dC dI r k (uF (uF F 0 0) 0 0) A1_ rb pc hI ) (cwV 2 hW (gIn k_231 k_232 k_233 k_193 k_234) rfl rfl rfl (by decide +kernel) ⟨Nat.le_of_ble_eq_true rfl, Nat.le_of_ble_eq_true rfl⟩) hK hP (va_recv hK hP (ci := 3) (q0 := 0) rfl rfl) rfl hl.1 rfl (Nat.le_of_ble_eq_true rfl) d_Mo_step_171 ⟨Nat.zero_le _, Nat.zero_le _⟩ ?_
                          refine lv_if_eq (tgt := 179) hx hb d_Mo_step_174 (by decide) (fun c_11 => ?_) (fun c_11 => ?_)
                          · have hv := hv.trans (if_pos c_11)
                            refine lv_aload_n hx hb d_Mo_step_179 rfl (lv_at hl 0 rfl) ?_
                            refine va_get (D := (dC, dI)) (ci := 3) (v := .ref (r 14)) (C := R_Mo) (T := F_Mo) (N := 19) hx hb hW i_Mo hown hK hP 0 rfl rfl 18 (by decide) (hW _ k_216) (fun _ h9 => h9) rfl d_Mo_step_180 ?_
                            refine lv_iload_n hx hb d_Mo_step_183 rfl (lv_at hl 3 rfl) ?_
                            refine lv_iconst (v := 1) hx hb d_Mo_step_184 (by decide) ?_
                            refine va_iast hx hb hK hP hD hS 14 13 rfl rfl (LA.ix hlp102 c_6 hg1) d_Mo_step_185 (fun H locs hP hD hS => ?_)
                            have hP := pMA_13 hP
                            have hD := dMA_13 hD
                            generalize hAg2 : (uA A1_ 13 (upd (A1_ 13) x3.toNatClampNeg 1)) = A2_ at hP hD hv
                            refine lv_aload_n hx hb d_Mo_step_186 rfl (lv_at hl 0 rfl) ?_
                            refine va_get (D := (dC, dI)) (ci := 3) (v := .ref (r 5)) (C := R_Mo) (T := F_Mo) (N := 19) hx hb hW i_Mo hown hK hP 0 rfl rfl 8 (by decide) (hW _ k_203) (fun _ h9 => h9) rfl d_Mo_step_187 ?_
                            refine lv_iload_n hx hb d_Mo_step_190 rfl (lv_at hl 1 rfl) ?_
                            refine lv_aload_n hx hb d_Mo_step_191 rfl (lv_at hl 0 rfl) ?_
                            refine va_get (D := (dC, dI)) (ci := 3) (v := .ref (r 4)) (C := R_Mo) (T := F_Mo) (N := 19) hx hb hW i_Mo hown hK hP 0 rfl rfl 7 (by decide) (hW _ k_209) (fun _ h9 => h9) rfl d_Mo_step_192 ?_
                            refine lv_iload_n hx hb d_Mo_step_195 rfl (lv_at hl 1 rfl) ?_
                            refine va_zald hx hb hK hP 4 3 rfl rfl (mxR hI c_1) d_Mo_step_196 ?_
                            refine lv_if_eq (tgt := 209) hx hb d_Mo_step_197 (by decide) (fun c_12 => ?_) (fun c_12 => ?_)
                            · have hv := hv.trans (if_pos c_12)
                              refine lv_iconst (v := (-1)) hx hb d_Mo_step_209 (by decide) ?_
                              refine va_iast hx hb hK hP hD hS 5 4 rfl rfl (mxR hI c_1) d_Mo_step_210 (fun H locs hP hD hS => ?_)
                              have hP := pMA_4 hP
                              have hD := dMA_4 hD
                              generalize hAg3 : (uA A2_ 4 (upd (A2_ 4) rb.toNatClampNeg (-1))) = A3_ at hP hD hv
                              refine lv_aload_n hx hb d_Mo_step_211 rfl (lv_at hl 0 rfl) ?_
                              refine va_get (D := (dC, dI)) (ci := 3) (v := .ref (r 3)) (C := R_Mo) (T := F_Mo) (N := 19) hx hb hW i_Mo hown hK hP 0 rfl rfl 6 (by decide) (hW _ k_202) (fun _ h9 => h9) rfl d_Mo_step_212 ?_
                              refine lv_iload_n hx hb d_Mo_step_215 rfl (lv_at hl 1 rfl) ?_
                              refine lv_iload_n hx hb d_Mo_step_216 rfl (lv_at hl 2 rfl) ?_
                              refine va_iast hx hb hK hP hD hS 3 2 rfl rfl (mxR hI c_1) d_Mo_step_217 (fun H locs hP hD hS => ?_)
                              have hP := pMA_2 hP
                              have hD := dMA_2 hD
                              generalize hAg4 : (uA A3_ 2 (upd (A3_ 2) rb.toNatClampNeg pc)) = A4_ at hP hD hv
                              refine lv_aload_n hx hb d_Mo_step_218 rfl (lv_at hl 0 rfl) ?_
                              refine va_get (D := (dC, dI)) (ci := 3) (v := .ref (r 6)) (C := R_Mo) (T := F_Mo) (N := 19) hx hb hW i_Mo hown hK hP 0 rfl rfl 9 (by decide) (hW _ k_210) (fun _ h9 => h9) rfl d_Mo_step_219 ?_
                              refine lv_iload_n hx hb d_Mo_step_222 rfl (lv_at hl 1 rfl) ?_
                              refine lv_iconst (v := (-1)) hx hb d_Mo_step_223 (by decide) ?_
                              refine va_iast hx hb hK hP hD hS 6 5 rfl rfl (mxR hI c_1) d_Mo_step_224 (fun H locs hP hD hS => ?_)
                              have hP := pMA_5 hP
                              have hD := dMA_5 hD
                              generalize hAg5 : (uA A4_ 5 (upd (A4_ 5) rb.toNatClampNeg (-1))) = A5_ at hP hD hv
                              refine lv_iload_n hx hb d_Mo_step_225 rfl (lv_at hl 3 rfl) ?_
                              exact W.iret (v := x3) hx hb hr (fun t ht hW9 => ⟨⟨x3, ((uF (uF F 0 0) 0 0), A5_), rfl, hv.symm, by rw [ht]; exact hP, va_K.moved hW9.alike hK, hD⟩, hS.F ht⟩) hS.2.2 d_Mo_step_226
                            · have hv := hv.trans (if_neg c_12)
                              refine lv_aload_n hx hb d_Mo_step_200 rfl (lv_at hl 0 rfl) ?_
                              refine va_get (D := (dC, dI)) (ci := 3) (v := .ref (r 3)) (C := R_Mo) (T := F_Mo) (N := 19) hx hb hW i_Mo hown hK hP 0 rfl rfl 6 (by decide) (hW _ k_202) (fun _ h9 => h9) rfl d_Mo_step_201 ?_
                              refine lv_iload_n hx hb d_Mo_step_204 rfl (lv_at hl 1 rfl) ?_
                              refine va_iald hx hb hK hP 3 2 rfl rfl (mxR hI c_1) d_Mo_step_205 ?_
                              refine lv_goto (tgt := 210) hx hb d_Mo_step_206 (by decide) ?_
                              refine va_iast hx hb hK hP hD hS 5 4 rfl rfl (mxR hI c_1) d_Mo_step_210 (fun H locs hP hD hS => ?_)
                              have hP := pMA_4 hP
                              have hD := dMA_4 hD
                              generalize hAg6 : (uA A2_ 4 (upd (A2_ 4) rb.toNatClampNeg (A2_ 2 rb.toNatClampNeg))) = A6_ at hP hD hv
                              refine lv_aload_n hx hb d_Mo_step_211 rfl (lv_at hl 0 rfl) ?_
                              refine va_get (D := (dC, dI)) (ci := 3) (v := .ref (r 3)) (C := R_Mo) (T := F_Mo) (N := 19) hx hb hW i_Mo hown hK hP 0 rfl rfl 6 (by decide) (hW _ k_202) (fun _ h9 => h9) rfl d_Mo_step_212 ?_
                              refine lv_iload_n hx hb d_Mo_step_215 rfl (lv_at hl 1 rfl) ?_
                              refine lv_iload_n hx hb d_Mo_step_216 rfl (lv_at hl 2 rfl) ?_
                              refine va_iast hx hb hK hP hD hS 3 2 rfl rfl (mxR hI c_1) d_Mo_step_217 (fun H locs hP hD hS => ?_)
                              have hP := pMA_2 hP
                              have hD := dMA_2 hD
                              generalize hAg7 : (uA A6_ 2 (upd (A6_ 2) rb.toNatClampNeg pc)) = A7_ at hP hD hv
                              refine lv_aload_n hx hb d_Mo_step_218 rfl (lv_at hl 0 rfl) ?_
                              refine va_get (D := (dC, dI)) (ci := 3) (v := .ref (r 6)) (C := R_Mo) (T := F_Mo) (N := 19) hx hb hW i_Mo hown hK hP 0 rfl rfl 9 (by decide) (hW _ k_210) (fun _ h9 => h9) rfl d_Mo_step_219 ?_
                              refine lv_iload_n hx hb d_Mo_step_222 rfl (lv_at hl 1 rfl) ?_
                              refine lv_iconst (v := (-1)) hx hb d_Mo_step_223 (by decide) ?_
                              refine va_iast hx hb hK hP hD hS 6 5 rfl rfl (mxR hI c_1) d_Mo_step_224 (fun H locs hP hD hS => ?_)
                              have hP := pMA_5 hP
                              have hD := dMA_5 hD
                              generalize hAg8 : (uA A7_ 5 (upd (A7_ 5) rb.toNatClampNeg (-1))) = A8_ at hP hD hv
                              refine lv_iload_n hx hb d_Mo_step_225 rfl (lv_at hl 3 rfl) ?_
                              exact W.iret (v := x3) hx hb hr (fun t ht hW9 => ⟨⟨x3, ((uF (uF F 0 0) 0 0), A8_), rfl, hv.symm, by rw [ht]; exact hP, va_K.moved hW9.alike hK, hD⟩, hS.F ht⟩) hS.2.2 d_Mo_step_226
                          · have hv := hv.trans (if_neg c_11)
                            refine lv_iconst (v := (-1)) hx hb d_Mo_step_177 (by decide) ?_
                            exact W.iret (v := (-1)) hx hb hr (fun t ht hW9 => ⟨⟨(-1), ((uF (uF F 0 0) 0 0), A1_), rfl, hv.symm, by rw [ht]; exact hP, va_K.moved hW9.alike hK, hD⟩, hS.F ht⟩) hS.2.2 d_Mo_step_178
                        · have hv := hv.trans (if_neg c_10)
                          refine lv_iinc (v := x3 + 1) (lv' := [(3, .int (x3 + 1)), (0, .ref (r 0)), (1, .int rb), (2, .int pc)]) hx hb d_Mo_step_152 hl (k := 3) rfl rfl (by decide) rfl (fun ls hl => ?_)
                          refine lv_goto (tgt := 102) hx hb d_Mo_step_155 (by decide) ?_
                          exact ih102 (x3 + 1) ls (LA.s hlp102 c_6 hg1) hv (lv_sub hl [1, 2, 3, 0] rfl)
            exact loop102 64 1 ls (LA.i hg0 hg1) hv (lv_sub hl [1, 2, 3, 0] rfl)
          · have hv := hv.trans (if_neg c_5)
            refine lv_iconst (v := 3) hx hb d_Mo_step_73 (by decide) ?_
            refine lv_goto (tgt := 78) hx hb d_Mo_step_74 (by decide) ?_
            refine va_put (D := (dC, dI)) (ci := 3) (v := .int 3) (ty := .int) (C := R_Mo) (T := F_Mo) (N := 19) hx hb hW i_Mo t_Mo t_Mo_ok n_Mo hown hK hP hD hS 0 rfl rfl 0 (by decide) (hW _ k_189) (fun _ h9 => h9) rfl (by decide +kernel) rfl rfl (Nat.le_of_ble_eq_true rfl) d_Mo_step_78 (fun H locs hP hD hS => ?_)
            have hP := pMF_0 hP
            have hD := dMF_0 hD
            refine lv_aload_n hx hb d_Mo_step_81 rfl (lv_at hl 0 rfl) ?_
            refine va_get (D := (dC, dI)) (ci := 3) (v := .int 3) (C := R_Mo) (T := F_Mo) (N := 19) hx hb hW i_Mo hown hK hP 0 rfl rfl 0 (by decide) (hW _ k_189) (fun _ h9 => h9) rfl d_Mo_step_82 ?_
            refine lv_if_le (tgt := 90) hx hb d_Mo_step_85 (by decide) (fun h9 => absurd h9 (by decide)) (fun _ => ?_)
            refine lv_iconst (v := 0) hx hb d_Mo_step_88 (by decide) ?_
            exact W.iret (v := 0) hx hb hr (fun t ht hW9 => ⟨⟨0, ((uF (uF F 0 0) 0 3), A), rfl, hv.symm, by rw [ht]; exact hP, va_K.moved hW9.alike hK, hD⟩, hS.F ht⟩) hS.2.2 d_Mo_step_89
      · have hv := hv.trans (if_pos c_3)
        refine lv_iconst (v := 2) hx hb d_Mo_step_52 (by decide) ?_
        refine lv_goto (tgt := 78) hx hb d_Mo_step_53 (by decide) ?_
        refine va_put (D := (dC, dI)) (ci := 3) (v := .int 2) (ty := .int) (C := R_Mo) (T := F_Mo) (N := 19) hx hb hW i_Mo t_Mo t_Mo_ok n_Mo hown hK hP hD hS 0 rfl rfl 0 (by decide) (hW _ k_189) (fun _ h9 => h9) rfl (by decide +kernel) rfl rfl (Nat.le_of_ble_eq_true rfl) d_Mo_step_78 (fun H locs hP hD hS => ?_)
        have hP := pMF_0 hP
        have hD := dMF_0 hD
        refine lv_aload_n hx hb d_Mo_step_81 rfl (lv_at hl 0 rfl) ?_
        refine va_get (D := (dC, dI)) (ci := 3) (v := .int 2) (C := R_Mo) (T := F_Mo) (N := 19) hx hb hW i_Mo hown hK hP 0 rfl rfl 0 (by decide) (hW _ k_189) (fun _ h9 => h9) rfl d_Mo_step_82 ?_
        refine lv_if_le (tgt := 90) hx hb d_Mo_step_85 (by decide) (fun h9 => absurd h9 (by decide)) (fun _ => ?_)
        refine lv_iconst (v := 0) hx hb d_Mo_step_88 (by decide) ?_
        exact W.iret (v := 0) hx hb hr (fun t ht hW9 => ⟨⟨0, ((uF (uF F 0 0) 0 2), A), rfl, hv.symm, by rw [ht]; exact hP, va_K.moved hW9.alike hK, hD⟩, hS.F ht⟩) hS.2.2 d_Mo_step_89
    · have hv := hv.trans (if_pos c_2)
      refine lv_iconst (v := 1) hx hb d_Mo_step_17 (by decide) ?_
      refine lv_goto (tgt := 22) hx hb d_Mo_step_18 (by decide) ?_
      refine va_put (D := (dC, dI)) (ci := 3) (v := .int 1) (ty := .int) (C := R_Mo) (T := F_Mo) (N := 19) hx hb hW i_Mo t_Mo t_Mo_ok n_Mo hown hK hP hD hS 0 rfl rfl 0 (by decide) (hW _ k_189) (fun _ h9 => h9) rfl (by decide +kernel) rfl rfl (Nat.le_of_ble_eq_true rfl) d_Mo_step_22 (fun H locs hP hD hS => ?_)
      have hP := pMF_0 hP
      have hD := dMF_0 hD
      refine lv_aload_n hx hb d_Mo_step_25 rfl (lv_at hl 0 rfl) ?_
      refine va_get (D := (dC, dI)) (ci := 3) (v := .int 1) (C := R_Mo) (T := F_Mo) (N := 19) hx hb hW i_Mo hown hK hP 0 rfl rfl 0 (by decide) (hW _ k_189) (fun _ h9 => h9) rfl d_Mo_step_26 ?_
      refine lv_if_ne (tgt := 81) hx hb d_Mo_step_29 (by decide) (fun _ => ?_) (fun h9 => absurd h9 (by decide))
      refine lv_aload_n hx hb d_Mo_step_81 rfl (lv_at hl 0 rfl) ?_
      refine va_get (D := (dC, dI)) (ci := 3) (v := .int 1) (C := R_Mo) (T := F_Mo) (N := 19) hx hb hW i_Mo hown hK hP 0 rfl rfl 0 (by decide) (hW _ k_189) (fun _ h9 => h9) rfl d_Mo_step_82 ?_
      refine lv_if_le (tgt := 90) hx hb d_Mo_step_85 (by decide) (fun h9 => absurd h9 (by decide)) (fun _ => ?_)
      refine lv_iconst (v := 0) hx hb d_Mo_step_88 (by decide) ?_
      exact W.iret (v := 0) hx hb hr (fun t ht hW9 => ⟨⟨0, ((uF F 0 1), A), rfl, hv.symm, by rw [ht]; exact hP, va_K.moved hW9.alike hK, hD⟩, hS.F ht⟩) hS.2.2 d_Mo_step_89
def f_Mo_pull (F : Nat → Int32) (A : Nat → Nat → Int32) (rb : Int32) : Int32 × SC := if f_Mo_isRobot F A rb = 0 then (0, (uF F 0 1), A) else (if A 4 rb.toNatClampNeg = (-1) then (0, (uF (uF F 0 0) 0 2), A) else (A 4 rb.toNatClampNeg, (uF (uF F 0 0) 0 0), (uA (uA A 4 (upd (A 4) rb.toNatClampNeg (-1))) 6 (upd ((uA A 4 (upd (A 4) rb.toNatClampNeg (-1))) 6) rb.toNatClampNeg (F 1)))))
set_option maxHeartbeats 4000000 in
set_option maxRecDepth 100000 in
theorem c_Mo_pull (l : Launch) (dC : Nat → ClassId) (dI : Nat → Nat → Nat) (r : Nat → Nat) (k : Nat → ClassId) (F : Nat → Int32) (A : Nat → Nat → Int32) (sz : Nat) (rb : Int32) (hI : SI F) : Met l y_Mo_pull w_Mo_pull ({ frames := 2, cells := 0, slots := 0, locals := 43 }) (va_Pc [.ref (r 0), .int rb] (SP (dC, dI) (wM r k F A) (tM k) sz)) (va_Qi (fun v (u : SC) => (v, u) = f_Mo_pull F A rb) (fun (u : SC) t => aW (dC, dI) (tM k) (va_A (wM r k F A) sz) (wM r k u.1 u.2) t) (va_A (wM r k F A) sz)) 0 0 (va_A (wM r k F A) sz) := by
  refine Met.ofW (cc := b_Mo_pull) (maxL := 3) (ret := (some .int)) (by decide) rfl ?_
  intro p e s m args below meth c s₁ B hml hv0
  obtain ⟨rfl, hsz, hP, hK, hD0⟩ := hv0
  have hx := B.exec
  have hb := B.bytes
  have hr := B.returns
  have hts := atoms_spec (ws := w_Mo_pull) B.pre
  have hW : ∀ w ∈ WALL, w.before ([.ref (r 0), .int rb] : List Value).toArray s = true := fun w h => hts w (List.mem_cons_of_mem _ h)
  have hown : s.vm.findClass R_Mo = some m.cls := findClass_of_methodNamed B.named
  have hlocks := B.notSynchronized
  subst hsz
  have hD := hD0.self (sz := s.heap.size)
  generalize hAe : va_A (wM r k F A) s.heap.size = Ad at hD ⊢
  have hA : ∀ q : Nat, s.heap.size ≤ q → Ad q := fun q h => by rw [← hAe]; exact Or.inr h
  have hS : va_S Ad s.heap s.heap [] := va_S.rf
  have hl := lv_entry ([.ref (r 0), .int rb]) (n := 3) (Nat.le_of_ble_eq_true rfl)
  rw [lg_entry_eq]
  generalize (lg_sl ([.ref (r 0), .int rb]) ++ List.replicate (3 - (lg_sl ([.ref (r 0), .int rb])).length) Slot.unset).toArray = ls at hl ⊢
  have hl : lv_has ls 3 [(0, .ref (r 0)), (1, .int rb)] := hl
  obtain ⟨⟨hp0, hp1⟩, ⟨hr0, hr1⟩, hg0, hg1⟩ := id hI; have hr2 : (F 3).toInt ≤ 60 := Int.le_trans hr1 (by decide); have hp2 : (F 2).toInt ≤ 60 := Int.le_trans hp1 (by decide)
  have hv := f_Mo_pull.eq_1 F A rb
  refine lv_aload_n hx hb d_Mo_pull_0 rfl (lv_at hl 0 rfl) ?_
  refine lv_aload_n hx hb d_Mo_pull_1 rfl (lv_at hl 0 rfl) ?_
  refine lv_iload_n hx hb d_Mo_pull_2 rfl (lv_at hl 1 rfl) ?_
  refine rdV ⟨hx, hb, hml, hown, hW⟩ (c_Mo_isRobot l dC dI r k F A rb  ) (cwV 1 hW (gIn k_222 k_223 k_224 k_193 k_225) rfl rfl rfl (by decide +kernel) ⟨Nat.le_of_ble_eq_true rfl, Nat.le_of_ble_eq_true rfl⟩) hK hP (va_recv hK hP (ci := 3) (q0 := 0) rfl rfl) rfl hl.1 rfl (Nat.le_of_ble_eq_true rfl) d_Mo_pull_3 ⟨Nat.zero_le _, Nat.zero_le _⟩ ?_
  refine lv_if_ne (tgt := 13) hx hb d_Mo_pull_6 (by decide) (fun c_1 => ?_) (fun c_1 => ?_)
  · have hv := hv.trans (if_neg c_1)
    refine lv_iconst (v := 0) hx hb d_Mo_pull_13 (by decide) ?_
    refine va_put (D := (dC, dI)) (ci := 3) (v := .int 0) (ty := .int) (C := R_Mo) (T := F_Mo) (N := 19) hx hb hW i_Mo t_Mo t_Mo_ok n_Mo hown hK hP hD hS 0 rfl rfl 0 (by decide) (hW _ k_189) (fun _ h9 => h9) rfl (by decide +kernel) rfl rfl (Nat.le_of_ble_eq_true rfl) d_Mo_pull_14 (fun H locs hP hD hS => ?_)
    have hP := pMF_0 hP
    have hD := dMF_0 hD
    refine lv_aload_n hx hb d_Mo_pull_17 rfl (lv_at hl 0 rfl) ?_
    refine va_get (D := (dC, dI)) (ci := 3) (v := .int 0) (C := R_Mo) (T := F_Mo) (N := 19) hx hb hW i_Mo hown hK hP 0 rfl rfl 0 (by decide) (hW _ k_189) (fun _ h9 => h9) rfl d_Mo_pull_18 ?_
    refine lv_if_ne (tgt := 43) hx hb d_Mo_pull_21 (by decide) (fun h9 => absurd h9 (by decide)) (fun _ => ?_)
    refine lv_aload_n hx hb d_Mo_pull_24 rfl (lv_at hl 0 rfl) ?_
    refine lv_aload_n hx hb d_Mo_pull_25 rfl (lv_at hl 0 rfl) ?_
    refine va_get (D := (dC, dI)) (ci := 3) (v := .ref (r 5)) (C := R_Mo) (T := F_Mo) (N := 19) hx hb hW i_Mo hown hK hP 0 rfl rfl 8 (by decide) (hW _ k_203) (fun _ h9 => h9) rfl d_Mo_pull_26 ?_
    refine lv_iload_n hx hb d_Mo_pull_29 rfl (lv_at hl 1 rfl) ?_
    refine va_iald hx hb hK hP 5 4 rfl rfl (mxR hI c_1) d_Mo_pull_30 ?_
    refine lv_iconst (v := (-1)) hx hb d_Mo_pull_31 (by decide) ?_
    refine lv_icmp_ne (tgt := 39) hx hb d_Mo_pull_32 (by decide) (fun c_2 => ?_) (fun c_2 => ?_)
    · have hv := hv.trans (if_neg c_2)
      refine lv_iconst (v := 0) hx hb d_Mo_pull_39 (by decide) ?_
      refine va_put (D := (dC, dI)) (ci := 3) (v := .int 0) (ty := .int) (C := R_Mo) (T := F_Mo) (N := 19) hx hb hW i_Mo t_Mo t_Mo_ok n_Mo hown hK hP hD hS 0 rfl rfl 0 (by decide) (hW _ k_189) (fun _ h9 => h9) rfl (by decide +kernel) rfl rfl (Nat.le_of_ble_eq_true rfl) d_Mo_pull_40 (fun H locs hP hD hS => ?_)
      have hP := pMF_0 hP
      have hD := dMF_0 hD
      refine lv_aload_n hx hb d_Mo_pull_43 rfl (lv_at hl 0 rfl) ?_
      refine va_get (D := (dC, dI)) (ci := 3) (v := .int 0) (C := R_Mo) (T := F_Mo) (N := 19) hx hb hW i_Mo hown hK hP 0 rfl rfl 0 (by decide) (hW _ k_189) (fun _ h9 => h9) rfl d_Mo_pull_44 ?_
      refine lv_if_le (tgt := 52) hx hb d_Mo_pull_47 (by decide) (fun _ => ?_) (fun h9 => absurd h9 (by decide))
      refine lv_aload_n hx hb d_Mo_pull_52 rfl (lv_at hl 0 rfl) ?_
      refine va_get (D := (dC, dI)) (ci := 3) (v := .ref (r 5)) (C := R_Mo) (T := F_Mo) (N := 19) hx hb hW i_Mo hown hK hP 0 rfl rfl 8 (by decide) (hW _ k_203) (fun _ h9 => h9) rfl d_Mo_pull_53 ?_
      refine lv_iload_n hx hb d_Mo_pull_56 rfl (lv_at hl 1 rfl) ?_
      refine va_iald hx hb hK hP 5 4 rfl rfl (mxR hI c_1) d_Mo_pull_57 ?_
      refine lv_istore_n (lv' := [(2, .int (A 4 rb.toNatClampNeg)), (0, .ref (r 0)), (1, .int rb)]) hx hb d_Mo_pull_58 rfl hl (by decide) rfl (fun ls hl => ?_)
      refine lv_aload_n hx hb d_Mo_pull_59 rfl (lv_at hl 1 rfl) ?_
      refine va_get (D := (dC, dI)) (ci := 3) (v := .ref (r 5)) (C := R_Mo) (T := F_Mo) (N := 19) hx hb hW i_Mo hown hK hP 0 rfl rfl 8 (by decide) (hW _ k_203) (fun _ h9 => h9) rfl d_Mo_pull_60 ?_
      refine lv_iload_n hx hb d_Mo_pull_63 rfl (lv_at hl 2 rfl) ?_
      refine lv_iconst (v := (-1)) hx hb d_Mo_pull_64 (by decide) ?_
      refine va_iast hx hb hK hP hD hS 5 4 rfl rfl (mxR hI c_1) d_Mo_pull_65 (fun H locs hP hD hS => ?_)
      have hP := pMA_4 hP
      have hD := dMA_4 hD
      generalize hAg1 : (uA A 4 (upd (A 4) rb.toNatClampNeg (-1))) = A1_ at hP hD hv
      refine lv_aload_n hx hb d_Mo_pull_66 rfl (lv_at hl 1 rfl) ?_
      refine va_get (D := (dC, dI)) (ci := 3) (v := .ref (r 7)) (C := R_Mo) (T := F_Mo) (N := 19) hx hb hW i_Mo hown hK hP 0 rfl rfl 10 (by decide) (hW _ k_211) (fun _ h9 => h9) rfl d_Mo_pull_67 ?_
      refine lv_iload_n hx hb d_Mo_pull_70 rfl (lv_at hl 2 rfl) ?_
      refine lv_aload_n hx hb d_Mo_pull_71 rfl (lv_at hl 1 rfl) ?_
      refine va_get (D := (dC, dI)) (ci := 3) (v := .int (F 1)) (C := R_Mo) (T := F_Mo) (N := 19) hx hb hW i_Mo hown hK hP 0 rfl rfl 1 (by decide) (hW _ k_212) (fun _ h9 => h9) rfl d_Mo_pull_72 ?_
      refine va_iast hx hb hK hP hD hS 7 6 rfl rfl (mxR hI c_1) d_Mo_pull_75 (fun H locs hP hD hS => ?_)
      have hP := pMA_6 hP
      have hD := dMA_6 hD
      generalize hAg2 : (uA A1_ 6 (upd (A1_ 6) rb.toNatClampNeg (F 1))) = A2_ at hP hD hv
      refine lv_iload_n hx hb d_Mo_pull_76 rfl (lv_at hl 0 rfl) ?_
      exact W.iret (v := A 4 rb.toNatClampNeg) hx hb hr (fun t ht hW9 => ⟨⟨A 4 rb.toNatClampNeg, ((uF (uF F 0 0) 0 0), A2_), rfl, hv.symm, by rw [ht]; exact hP, va_K.moved hW9.alike hK, hD⟩, hS.F ht⟩) hS.2.2 d_Mo_pull_77
    · have hv := hv.trans (if_pos c_2)
      refine lv_iconst (v := 2) hx hb d_Mo_pull_35 (by decide) ?_
      refine lv_goto (tgt := 40) hx hb d_Mo_pull_36 (by decide) ?_
      refine va_put (D := (dC, dI)) (ci := 3) (v := .int 2) (ty := .int) (C := R_Mo) (T := F_Mo) (N := 19) hx hb hW i_Mo t_Mo t_Mo_ok n_Mo hown hK hP hD hS 0 rfl rfl 0 (by decide) (hW _ k_189) (fun _ h9 => h9) rfl (by decide +kernel) rfl rfl (Nat.le_of_ble_eq_true rfl) d_Mo_pull_40 (fun H locs hP hD hS => ?_)
      have hP := pMF_0 hP
      have hD := dMF_0 hD
      refine lv_aload_n hx hb d_Mo_pull_43 rfl (lv_at hl 0 rfl) ?_
      refine va_get (D := (dC, dI)) (ci := 3) (v := .int 2) (C := R_Mo) (T := F_Mo) (N := 19) hx hb hW i_Mo hown hK hP 0 rfl rfl 0 (by decide) (hW _ k_189) (fun _ h9 => h9) rfl d_Mo_pull_44 ?_
      refine lv_if_le (tgt := 52) hx hb d_Mo_pull_47 (by decide) (fun h9 => absurd h9 (by decide)) (fun _ => ?_)
      refine lv_iconst (v := 0) hx hb d_Mo_pull_50 (by decide) ?_
      exact W.iret (v := 0) hx hb hr (fun t ht hW9 => ⟨⟨0, ((uF (uF F 0 0) 0 2), A), rfl, hv.symm, by rw [ht]; exact hP, va_K.moved hW9.alike hK, hD⟩, hS.F ht⟩) hS.2.2 d_Mo_pull_51
  · have hv := hv.trans (if_pos c_1)
    refine lv_iconst (v := 1) hx hb d_Mo_pull_9 (by decide) ?_
    refine lv_goto (tgt := 14) hx hb d_Mo_pull_10 (by decide) ?_
    refine va_put (D := (dC, dI)) (ci := 3) (v := .int 1) (ty := .int) (C := R_Mo) (T := F_Mo) (N := 19) hx hb hW i_Mo t_Mo t_Mo_ok n_Mo hown hK hP hD hS 0 rfl rfl 0 (by decide) (hW _ k_189) (fun _ h9 => h9) rfl (by decide +kernel) rfl rfl (Nat.le_of_ble_eq_true rfl) d_Mo_pull_14 (fun H locs hP hD hS => ?_)
    have hP := pMF_0 hP
    have hD := dMF_0 hD
    refine lv_aload_n hx hb d_Mo_pull_17 rfl (lv_at hl 0 rfl) ?_
    refine va_get (D := (dC, dI)) (ci := 3) (v := .int 1) (C := R_Mo) (T := F_Mo) (N := 19) hx hb hW i_Mo hown hK hP 0 rfl rfl 0 (by decide) (hW _ k_189) (fun _ h9 => h9) rfl d_Mo_pull_18 ?_
    refine lv_if_ne (tgt := 43) hx hb d_Mo_pull_21 (by decide) (fun _ => ?_) (fun h9 => absurd h9 (by decide))
    refine lv_aload_n hx hb d_Mo_pull_43 rfl (lv_at hl 0 rfl) ?_
    refine va_get (D := (dC, dI)) (ci := 3) (v := .int 1) (C := R_Mo) (T := F_Mo) (N := 19) hx hb hW i_Mo hown hK hP 0 rfl rfl 0 (by decide) (hW _ k_189) (fun _ h9 => h9) rfl d_Mo_pull_44 ?_
    refine lv_if_le (tgt := 52) hx hb d_Mo_pull_47 (by decide) (fun h9 => absurd h9 (by decide)) (fun _ => ?_)
    refine lv_iconst (v := 0) hx hb d_Mo_pull_50 (by decide) ?_
    exact W.iret (v := 0) hx hb hr (fun t ht hW9 => ⟨⟨0, ((uF F 0 1), A), rfl, hv.symm, by rw [ht]; exact hP, va_K.moved hW9.alike hK, hD⟩, hS.F ht⟩) hS.2.2 d_Mo_pull_51
def f_Mo_await_L68 (F : Nat → Int32) (A : Nat → Nat → Int32) (rb pc : Int32) : Nat → Int32 → Int32 → Int32 × SC
  | 0, _, _ => (0, F, A)
  | n68 + 1, x3, x4 => if x4 = (-1) then (if x4 = rb then (-x3, (uF (uF F 0 0) 0 0), A) else (0, (uF (uF F 0 0) 0 0), (uA A 5 (upd (A 5) rb.toNatClampNeg pc)))) else (if x4 = rb then (-x3, (uF (uF F 0 0) 0 0), A) else (if 6 < x3 then (0, (uF (uF F 0 0) 0 0), (uA A 5 (upd (A 5) rb.toNatClampNeg pc))) else (if A 5 x4.toNatClampNeg = (-1) then (f_Mo_await_L68 F A rb pc n68 (x3 + 1) (-1)) else (f_Mo_await_L68 F A rb pc n68 (x3 + 1) (f_Mo_standing (uF (uF F 0 0) 0 0) A (A 5 x4.toNatClampNeg))))))
def f_Mo_await (F : Nat → Int32) (A : Nat → Nat → Int32) (rb pc : Int32) : Int32 × SC := if f_Mo_isRobot F A rb = 0 then (0, (uF F 0 1), A) else (if f_Mo_isPiece F A pc = 0 then (0, (uF F 0 1), A) else (if f_Mo_isTaken (uF F 0 0) A rb pc = 0 then (0, (uF (uF F 0 0) 0 2), A) else (f_Mo_await_L68 F A rb pc 64 1 (f_Mo_standing (uF (uF F 0 0) 0 0) A pc))))
set_option maxHeartbeats 4000000 in
set_option maxRecDepth 100000 in
theorem c_Mo_await (l : Launch) (dC : Nat → ClassId) (dI : Nat → Nat → Nat) (r : Nat → Nat) (k : Nat → ClassId) (F : Nat → Int32) (A : Nat → Nat → Int32) (sz : Nat) (rb pc : Int32) (hI : SI F) : Met l y_Mo_await w_Mo_await ({ frames := 2, cells := 0, slots := 0, locals := 44 }) (va_Pc [.ref (r 0), .int rb, .int pc] (SP (dC, dI) (wM r k F A) (tM k) sz)) (va_Qi (fun v (u : SC) => (v, u) = f_Mo_await F A rb pc) (fun (u : SC) t => aW (dC, dI) (tM k) (va_A (wM r k F A) sz) (wM r k u.1 u.2) t) (va_A (wM r k F A) sz)) 0 0 (va_A (wM r k F A) sz) := by
  refine Met.ofW (cc := b_Mo_await) (maxL := 5) (ret := (some .int)) (by decide) rfl ?_
  intro p e s m args below meth c s₁ B hml hv0
  obtain ⟨rfl, hsz, hP, hK, hD0⟩ := hv0
  have hx := B.exec
  have hb := B.bytes
  have hr := B.returns
  have hts := atoms_spec (ws := w_Mo_await) B.pre
  have hW : ∀ w ∈ WALL, w.before ([.ref (r 0), .int rb, .int pc] : List Value).toArray s = true := fun w h => hts w (List.mem_cons_of_mem _ h)
  have hown : s.vm.findClass R_Mo = some m.cls := findClass_of_methodNamed B.named
  have hlocks := B.notSynchronized
  subst hsz
  have hD := hD0.self (sz := s.heap.size)
  generalize hAe : va_A (wM r k F A) s.heap.size = Ad at hD ⊢
  have hA : ∀ q : Nat, s.heap.size ≤ q → Ad q := fun q h => by rw [← hAe]; exact Or.inr h
  have hS : va_S Ad s.heap s.heap [] := va_S.rf
  have hl := lv_entry ([.ref (r 0), .int rb, .int pc]) (n := 5) (Nat.le_of_ble_eq_true rfl)
  rw [lg_entry_eq]
  generalize (lg_sl ([.ref (r 0), .int rb, .int pc]) ++ List.replicate (5 - (lg_sl ([.ref (r 0), .int rb, .int pc])).length) Slot.unset).toArray = ls at hl ⊢
  have hl : lv_has ls 5 [(0, .ref (r 0)), (1, .int rb), (2, .int pc)] := hl
  obtain ⟨⟨hp0, hp1⟩, ⟨hr0, hr1⟩, hg0, hg1⟩ := id hI; have hr2 : (F 3).toInt ≤ 60 := Int.le_trans hr1 (by decide); have hp2 : (F 2).toInt ≤ 60 := Int.le_trans hp1 (by decide)
  have hv := f_Mo_await.eq_1 F A rb pc
  refine lv_aload_n hx hb d_Mo_await_0 rfl (lv_at hl 0 rfl) ?_
  refine lv_aload_n hx hb d_Mo_await_1 rfl (lv_at hl 0 rfl) ?_
  refine lv_iload_n hx hb d_Mo_await_2 rfl (lv_at hl 1 rfl) ?_
  refine rdV ⟨hx, hb, hml, hown, hW⟩ (c_Mo_isRobot l dC dI r k F A rb  ) (cwV 1 hW (gIn k_222 k_223 k_224 k_193 k_225) rfl rfl rfl (by decide +kernel) ⟨Nat.le_of_ble_eq_true rfl, Nat.le_of_ble_eq_true rfl⟩) hK hP (va_recv hK hP (ci := 3) (q0 := 0) rfl rfl) rfl hl.1 rfl (Nat.le_of_ble_eq_true rfl) d_Mo_await_3 ⟨Nat.zero_le _, Nat.zero_le _⟩ ?_
  refine lv_if_eq (tgt := 17) hx hb d_Mo_await_6 (by decide) (fun c_1 => ?_) (fun c_1 => ?_)
  · have hv := hv.trans (if_pos c_1)
    refine lv_iconst (v := 1) hx hb d_Mo_await_17 (by decide) ?_
    refine lv_goto (tgt := 22) hx hb d_Mo_await_18 (by decide) ?_
    refine va_put (D := (dC, dI)) (ci := 3) (v := .int 1) (ty := .int) (C := R_Mo) (T := F_Mo) (N := 19) hx hb hW i_Mo t_Mo t_Mo_ok n_Mo hown hK hP hD hS 0 rfl rfl 0 (by decide) (hW _ k_189) (fun _ h9 => h9) rfl (by decide +kernel) rfl rfl (Nat.le_of_ble_eq_true rfl) d_Mo_await_22 (fun H locs hP hD hS => ?_)
    have hP := pMF_0 hP
    have hD := dMF_0 hD
    refine lv_aload_n hx hb d_Mo_await_25 rfl (lv_at hl 0 rfl) ?_
    refine va_get (D := (dC, dI)) (ci := 3) (v := .int 1) (C := R_Mo) (T := F_Mo) (N := 19) hx hb hW i_Mo hown hK hP 0 rfl rfl 0 (by decide) (hW _ k_189) (fun _ h9 => h9) rfl d_Mo_await_26 ?_
    refine lv_if_ne (tgt := 50) hx hb d_Mo_await_29 (by decide) (fun _ => ?_) (fun h9 => absurd h9 (by decide))
    refine lv_aload_n hx hb d_Mo_await_50 rfl (lv_at hl 0 rfl) ?_
    refine va_get (D := (dC, dI)) (ci := 3) (v := .int 1) (C := R_Mo) (T := F_Mo) (N := 19) hx hb hW i_Mo hown hK hP 0 rfl rfl 0 (by decide) (hW _ k_189) (fun _ h9 => h9) rfl d_Mo_await_51 ?_
    refine lv_if_le (tgt := 59) hx hb d_Mo_await_54 (by decide) (fun h9 => absurd h9 (by decide)) (fun _ => ?_)
    refine lv_iconst (v := 0) hx hb d_Mo_await_57 (by decide) ?_
    exact W.iret (v := 0) hx hb hr (fun t ht hW9 => ⟨⟨0, ((uF F 0 1), A), rfl, hv.symm, by rw [ht]; exact hP, va_K.moved hW9.alike hK, hD⟩, hS.F ht⟩) hS.2.2 d_Mo_await_58
  · have hv := hv.trans (if_neg c_1)
    refine lv_aload_n hx hb d_Mo_await_9 rfl (lv_at hl 0 rfl) ?_
    refine lv_iload_n hx hb d_Mo_await_10 rfl (lv_at hl 2 rfl) ?_
    refine rdV ⟨hx, hb, hml, hown, hW⟩ (c_Mo_isPiece l dC dI r k F A pc  ) (cwV 1 hW (gIn k_197 k_198 k_199 k_193 k_200) rfl rfl rfl (by decide +kernel) ⟨Nat.le_of_ble_eq_true rfl, Nat.le_of_ble_eq_true rfl⟩) hK hP (va_recv hK hP (ci := 3) (q0 := 0) rfl rfl) rfl hl.1 rfl (Nat.le_of_ble_eq_true rfl) d_Mo_await_11 ⟨Nat.zero_le _, Nat.zero_le _⟩ ?_
    refine lv_if_ne (tgt := 21) hx hb d_Mo_await_14 (by decide) (fun c_2 => ?_) (fun c_2 => ?_)
    · have hv := hv.trans (if_neg c_2)
      refine lv_iconst (v := 0) hx hb d_Mo_await_21 (by decide) ?_
      refine va_put (D := (dC, dI)) (ci := 3) (v := .int 0) (ty := .int) (C := R_Mo) (T := F_Mo) (N := 19) hx hb hW i_Mo t_Mo t_Mo_ok n_Mo hown hK hP hD hS 0 rfl rfl 0 (by decide) (hW _ k_189) (fun _ h9 => h9) rfl (by decide +kernel) rfl rfl (Nat.le_of_ble_eq_true rfl) d_Mo_await_22 (fun H locs hP hD hS => ?_)
      have hP := pMF_0 hP
      have hD := dMF_0 hD
      refine lv_aload_n hx hb d_Mo_await_25 rfl (lv_at hl 0 rfl) ?_
      refine va_get (D := (dC, dI)) (ci := 3) (v := .int 0) (C := R_Mo) (T := F_Mo) (N := 19) hx hb hW i_Mo hown hK hP 0 rfl rfl 0 (by decide) (hW _ k_189) (fun _ h9 => h9) rfl d_Mo_await_26 ?_
      refine lv_if_ne (tgt := 50) hx hb d_Mo_await_29 (by decide) (fun h9 => absurd h9 (by decide)) (fun _ => ?_)
      refine lv_aload_n hx hb d_Mo_await_32 rfl (lv_at hl 0 rfl) ?_
      refine lv_aload_n hx hb d_Mo_await_33 rfl (lv_at hl 0 rfl) ?_
      refine lv_iload_n hx hb d_Mo_await_34 rfl (lv_at hl 1 rfl) ?_
      refine lv_iload_n hx hb d_Mo_await_35 rfl (lv_at hl 2 rfl) ?_
      refine rdV ⟨hx, hb, hml, hown, hW⟩ (c_Mo_isTaken l dC dI r k (uF F 0 0) A rb pc hI ) (cwV 2 hW (gIn k_231 k_232 k_233 k_193 k_234) rfl rfl rfl (by decide +kernel) ⟨Nat.le_of_ble_eq_true rfl, Nat.le_of_ble_eq_true rfl⟩) hK hP (va_recv hK hP (ci := 3) (q0 := 0) rfl rfl) rfl hl.1 rfl (Nat.le_of_ble_eq_true rfl) d_Mo_await_36 ⟨Nat.zero_le _, Nat.zero_le _⟩ ?_
      refine lv_if_ne (tgt := 46) hx hb d_Mo_await_39 (by decide) (fun c_3 => ?_) (fun c_3 => ?_)
      · have hv := hv.trans (if_neg c_3)
        refine lv_iconst (v := 0) hx hb d_Mo_await_46 (by decide) ?_
        refine va_put (D := (dC, dI)) (ci := 3) (v := .int 0) (ty := .int) (C := R_Mo) (T := F_Mo) (N := 19) hx hb hW i_Mo t_Mo t_Mo_ok n_Mo hown hK hP hD hS 0 rfl rfl 0 (by decide) (hW _ k_189) (fun _ h9 => h9) rfl (by decide +kernel) rfl rfl (Nat.le_of_ble_eq_true rfl) d_Mo_await_47 (fun H locs hP hD hS => ?_)
        have hP := pMF_0 hP
        have hD := dMF_0 hD
        refine lv_aload_n hx hb d_Mo_await_50 rfl (lv_at hl 0 rfl) ?_
        refine va_get (D := (dC, dI)) (ci := 3) (v := .int 0) (C := R_Mo) (T := F_Mo) (N := 19) hx hb hW i_Mo hown hK hP 0 rfl rfl 0 (by decide) (hW _ k_189) (fun _ h9 => h9) rfl d_Mo_await_51 ?_
        refine lv_if_le (tgt := 59) hx hb d_Mo_await_54 (by decide) (fun _ => ?_) (fun h9 => absurd h9 (by decide))
        refine lv_iconst (v := 1) hx hb d_Mo_await_59 (by decide) ?_
        refine lv_istore_n (lv' := [(3, .int 1), (0, .ref (r 0)), (1, .int rb), (2, .int pc)]) hx hb d_Mo_await_60 rfl hl (by decide) rfl (fun ls hl => ?_)
        refine lv_aload_n hx hb d_Mo_await_61 rfl (lv_at hl 1 rfl) ?_
        refine lv_iload_n hx hb d_Mo_await_62 rfl (lv_at hl 3 rfl) ?_
        refine rdV ⟨hx, hb, hml, hown, hW⟩ (c_Mo_standing l dC dI r k (uF (uF F 0 0) 0 0) A pc hI ) (cwV 1 hW (gIn k_204 k_205 k_206 k_193 k_207) rfl rfl rfl (by decide +kernel) ⟨Nat.le_of_ble_eq_true rfl, Nat.le_of_ble_eq_true rfl⟩) hK hP (va_recv hK hP (ci := 3) (q0 := 0) rfl rfl) rfl hl.1 rfl (Nat.le_of_ble_eq_true rfl) d_Mo_await_63 ⟨Nat.zero_le _, Nat.zero_le _⟩ ?_
        refine lv_istore (lv' := [(4, .int (f_Mo_standing (uF (uF F 0 0) 0 0) A pc)), (3, .int 1), (0, .ref (r 0)), (1, .int rb), (2, .int pc)]) hx hb d_Mo_await_66 hl (by decide) rfl (fun ls hl => ?_)
        have loop68 : ∀ (n68 : Nat) (x3 : Int32) (x4 : Int32) (ls : Array Slot), LW x3 x4 n68 → f_Mo_await F A rb pc = f_Mo_await_L68 F A rb pc n68 x3 x4 → lv_has ls 5 [(0, .ref (r 0)), (1, .int rb), (2, .int pc), (3, .int x3), (4, .int x4)] → W p l e (headSpec w_Mo_await ({ frames := 2, cells := 0, slots := 0, locals := 44 })).room s m ([.ref (r 0), .int rb, .int pc] : List Value).toArray below meth c H locs 0 0 (MQ below (va_Qi (fun v (u : SC) => (v, u) = f_Mo_await F A rb pc) (fun (u : SC) t => aW (dC, dI) (tM k) Ad (wM r k u.1 u.2) t) Ad) ([.ref (r 0), .int rb, .int pc] : List Value).toArray s 0 0 Ad) (F0 m 68 ls []) := by
          intro n68
          induction n68 with
          | zero => intro x3 x4 ls hlp; exact (hlp.z).elim
          | succ n68 ih68 =>
            intro x3 x4 ls hlp68 hv hl
            rw [f_Mo_await_L68] at hv
            refine lv_iload hx hb d_Mo_await_68 (lv_at hl 4 rfl) ?_
            refine lv_iconst (v := (-1)) hx hb d_Mo_await_70 (by decide) ?_
            refine lv_icmp_eq (tgt := 120) hx hb d_Mo_await_71 (by decide) (fun c_4 => ?_) (fun c_4 => ?_)
            · have hv := hv.trans (if_pos c_4)
              refine lv_iload hx hb d_Mo_await_120 (lv_at hl 4 rfl) ?_
              refine lv_iload_n hx hb d_Mo_await_122 rfl (lv_at hl 1 rfl) ?_
              refine lv_icmp_ne (tgt := 129) hx hb d_Mo_await_123 (by decide) (fun c_5 => ?_) (fun c_5 => ?_)
              · have hv := hv.trans (if_neg c_5)
                refine lv_aload_n hx hb d_Mo_await_129 rfl (lv_at hl 0 rfl) ?_
                refine va_get (D := (dC, dI)) (ci := 3) (v := .ref (r 6)) (C := R_Mo) (T := F_Mo) (N := 19) hx hb hW i_Mo hown hK hP 0 rfl rfl 9 (by decide) (hW _ k_210) (fun _ h9 => h9) rfl d_Mo_await_130 ?_
                refine lv_iload_n hx hb d_Mo_await_133 rfl (lv_at hl 1 rfl) ?_
                refine lv_iload_n hx hb d_Mo_await_134 rfl (lv_at hl 2 rfl) ?_
                refine va_iast hx hb hK hP hD hS 6 5 rfl rfl (mxR hI c_1) d_Mo_await_135 (fun H locs hP hD hS => ?_)
                have hP := pMA_5 hP
                have hD := dMA_5 hD
                generalize hAg1 : (uA A 5 (upd (A 5) rb.toNatClampNeg pc)) = A1_ at hP hD hv
                refine lv_iconst (v := 0) hx hb d_Mo_await_136 (by decide) ?_
                exact W.iret (v := 0) hx hb hr (fun t ht hW9 => ⟨⟨0, ((uF (uF F 0 0) 0 0), A1_), rfl, hv.symm, by rw [ht]; exact hP, va_K.moved hW9.alike hK, hD⟩, hS.F ht⟩) hS.2.2 d_Mo_await_137
              · have hv := hv.trans (if_pos c_5)
                refine lv_iload_n hx hb d_Mo_await_126 rfl (lv_at hl 3 rfl) ?_
                refine lv_ineg hx hb d_Mo_await_127 ?_
                exact W.iret (v := -x3) hx hb hr (fun t ht hW9 => ⟨⟨-x3, ((uF (uF F 0 0) 0 0), A), rfl, hv.symm, by rw [ht]; exact hP, va_K.moved hW9.alike hK, hD⟩, hS.F ht⟩) hS.2.2 d_Mo_await_128
            · have hv := hv.trans (if_neg c_4)
              refine lv_iload hx hb d_Mo_await_74 (lv_at hl 4 rfl) ?_
              refine lv_iload_n hx hb d_Mo_await_76 rfl (lv_at hl 1 rfl) ?_
              refine lv_icmp_eq (tgt := 120) hx hb d_Mo_await_77 (by decide) (fun c_6 => ?_) (fun c_6 => ?_)
              · have hv := hv.trans (if_pos c_6)
                refine lv_iload hx hb d_Mo_await_120 (lv_at hl 4 rfl) ?_
                refine lv_iload_n hx hb d_Mo_await_122 rfl (lv_at hl 1 rfl) ?_
                refine lv_icmp_ne (tgt := 129) hx hb d_Mo_await_123 (by decide) (fun h9 => absurd c_6 h9) (fun _ => ?_)
                refine lv_iload_n hx hb d_Mo_await_126 rfl (lv_at hl 3 rfl) ?_
                refine lv_ineg hx hb d_Mo_await_127 ?_
                exact W.iret (v := -x3) hx hb hr (fun t ht hW9 => ⟨⟨-x3, ((uF (uF F 0 0) 0 0), A), rfl, hv.symm, by rw [ht]; exact hP, va_K.moved hW9.alike hK, hD⟩, hS.F ht⟩) hS.2.2 d_Mo_await_128
              · have hv := hv.trans (if_neg c_6)
                refine lv_iload_n hx hb d_Mo_await_80 rfl (lv_at hl 3 rfl) ?_
                refine lv_bipush (v := 6) hx hb d_Mo_await_81 (by decide) ?_
                refine lv_icmp_gt (tgt := 120) hx hb d_Mo_await_83 (by decide) (fun c_7 => ?_) (fun c_7 => ?_)
                · have hv := hv.trans (if_pos c_7)
                  refine lv_iload hx hb d_Mo_await_120 (lv_at hl 4 rfl) ?_
                  refine lv_iload_n hx hb d_Mo_await_122 rfl (lv_at hl 1 rfl) ?_
                  refine lv_icmp_ne (tgt := 129) hx hb d_Mo_await_123 (by decide) (fun _ => ?_) (fun h9 => absurd h9 c_6)
                  refine lv_aload_n hx hb d_Mo_await_129 rfl (lv_at hl 0 rfl) ?_
                  refine va_get (D := (dC, dI)) (ci := 3) (v := .ref (r 6)) (C := R_Mo) (T := F_Mo) (N := 19) hx hb hW i_Mo hown hK hP 0 rfl rfl 9 (by decide) (hW _ k_210) (fun _ h9 => h9) rfl d_Mo_await_130 ?_
                  refine lv_iload_n hx hb d_Mo_await_133 rfl (lv_at hl 1 rfl) ?_
                  refine lv_iload_n hx hb d_Mo_await_134 rfl (lv_at hl 2 rfl) ?_
                  refine va_iast hx hb hK hP hD hS 6 5 rfl rfl (mxR hI c_1) d_Mo_await_135 (fun H locs hP hD hS => ?_)
                  have hP := pMA_5 hP
                  have hD := dMA_5 hD
                  generalize hAg2 : (uA A 5 (upd (A 5) rb.toNatClampNeg pc)) = A2_ at hP hD hv
                  refine lv_iconst (v := 0) hx hb d_Mo_await_136 (by decide) ?_
                  exact W.iret (v := 0) hx hb hr (fun t ht hW9 => ⟨⟨0, ((uF (uF F 0 0) 0 0), A2_), rfl, hv.symm, by rw [ht]; exact hP, va_K.moved hW9.alike hK, hD⟩, hS.F ht⟩) hS.2.2 d_Mo_await_137
                · have hv := hv.trans (if_neg c_7)
                  refine lv_iinc (v := x3 + 1) (lv' := [(3, .int (x3 + 1)), (0, .ref (r 0)), (1, .int rb), (2, .int pc), (4, .int x4)]) hx hb d_Mo_await_86 hl (k := 3) rfl rfl (by decide) rfl (fun ls hl => ?_)
                  refine lv_aload_n hx hb d_Mo_await_89 rfl (lv_at hl 1 rfl) ?_
                  refine va_get (D := (dC, dI)) (ci := 3) (v := .ref (r 6)) (C := R_Mo) (T := F_Mo) (N := 19) hx hb hW i_Mo hown hK hP 0 rfl rfl 9 (by decide) (hW _ k_210) (fun _ h9 => h9) rfl d_Mo_await_90 ?_
                  refine lv_iload hx hb d_Mo_await_93 (lv_at hl 4 rfl) ?_
                  refine va_iald hx hb hK hP 6 5 rfl rfl (LW.ix hlp68 c_4) d_Mo_await_95 ?_
                  refine lv_iconst (v := (-1)) hx hb d_Mo_await_96 (by decide) ?_
                  refine lv_icmp_ne (tgt := 104) hx hb d_Mo_await_97 (by decide) (fun c_8 => ?_) (fun c_8 => ?_)
                  · have hv := hv.trans (if_neg c_8)
                    refine lv_aload_n hx hb d_Mo_await_104 rfl (lv_at hl 1 rfl) ?_
                    refine lv_aload_n hx hb d_Mo_await_105 rfl (lv_at hl 1 rfl) ?_
                    refine va_get (D := (dC, dI)) (ci := 3) (v := .ref (r 6)) (C := R_Mo) (T := F_Mo) (N := 19) hx hb hW i_Mo hown hK hP 0 rfl rfl 9 (by decide) (hW _ k_210) (fun _ h9 => h9) rfl d_Mo_await_106 ?_
                    refine lv_iload hx hb d_Mo_await_109 (lv_at hl 4 rfl) ?_
                    refine va_iald hx hb hK hP 6 5 rfl rfl (LW.ix hlp68 c_4) d_Mo_await_111 ?_
                    refine rdV ⟨hx, hb, hml, hown, hW⟩ (c_Mo_standing l dC dI r k (uF (uF F 0 0) 0 0) A (A 5 x4.toNatClampNeg) hI ) (cwV 1 hW (gIn k_204 k_205 k_206 k_193 k_207) rfl rfl rfl (by decide +kernel) ⟨Nat.le_of_ble_eq_true rfl, Nat.le_of_ble_eq_true rfl⟩) hK hP (va_recv hK hP (ci := 3) (q0 := 0) rfl rfl) rfl hl.1 rfl (Nat.le_of_ble_eq_true rfl) d_Mo_await_112 ⟨Nat.zero_le _, Nat.zero_le _⟩ ?_
                    refine lv_istore (lv' := [(4, .int (f_Mo_standing (uF (uF F 0 0) 0 0) A (A 5 x4.toNatClampNeg))), (3, .int (x3 + 1)), (0, .ref (r 0)), (1, .int rb), (2, .int pc)]) hx hb d_Mo_await_115 hl (by decide) rfl (fun ls hl => ?_)
                    refine lv_goto (tgt := 68) hx hb d_Mo_await_117 (by decide) ?_
                    exact ih68 (x3 + 1) (f_Mo_standing (uF (uF F 0 0) 0 0) A (A 5 x4.toNatClampNeg)) ls (LW.s hlp68 c_7 (st_okM hI rfl)) hv (lv_sub hl [2, 3, 4, 1, 0] rfl)
                  · have hv := hv.trans (if_pos c_8)
                    refine lv_iconst (v := (-1)) hx hb d_Mo_await_100 (by decide) ?_
                    refine lv_goto (tgt := 115) hx hb d_Mo_await_101 (by decide) ?_
                    refine lv_istore (lv' := [(4, .int (-1)), (3, .int (x3 + 1)), (0, .ref (r 0)), (1, .int rb), (2, .int pc)]) hx hb d_Mo_await_115 hl (by decide) rfl (fun ls hl => ?_)
                    refine lv_goto (tgt := 68) hx hb d_Mo_await_117 (by decide) ?_
                    exact ih68 (x3 + 1) (-1) ls (LW.s hlp68 c_7 (Or.inl rfl)) hv (lv_sub hl [2, 3, 4, 1, 0] rfl)
        exact loop68 64 1 (f_Mo_standing (uF (uF F 0 0) 0 0) A pc) ls (LW.i (st_okM hI rfl)) hv (lv_sub hl [2, 3, 4, 1, 0] rfl)
      · have hv := hv.trans (if_pos c_3)
        refine lv_iconst (v := 2) hx hb d_Mo_await_42 (by decide) ?_
        refine lv_goto (tgt := 47) hx hb d_Mo_await_43 (by decide) ?_
        refine va_put (D := (dC, dI)) (ci := 3) (v := .int 2) (ty := .int) (C := R_Mo) (T := F_Mo) (N := 19) hx hb hW i_Mo t_Mo t_Mo_ok n_Mo hown hK hP hD hS 0 rfl rfl 0 (by decide) (hW _ k_189) (fun _ h9 => h9) rfl (by decide +kernel) rfl rfl (Nat.le_of_ble_eq_true rfl) d_Mo_await_47 (fun H locs hP hD hS => ?_)
        have hP := pMF_0 hP
        have hD := dMF_0 hD
        refine lv_aload_n hx hb d_Mo_await_50 rfl (lv_at hl 0 rfl) ?_
        refine va_get (D := (dC, dI)) (ci := 3) (v := .int 2) (C := R_Mo) (T := F_Mo) (N := 19) hx hb hW i_Mo hown hK hP 0 rfl rfl 0 (by decide) (hW _ k_189) (fun _ h9 => h9) rfl d_Mo_await_51 ?_
        refine lv_if_le (tgt := 59) hx hb d_Mo_await_54 (by decide) (fun h9 => absurd h9 (by decide)) (fun _ => ?_)
        refine lv_iconst (v := 0) hx hb d_Mo_await_57 (by decide) ?_
        exact W.iret (v := 0) hx hb hr (fun t ht hW9 => ⟨⟨0, ((uF (uF F 0 0) 0 2), A), rfl, hv.symm, by rw [ht]; exact hP, va_K.moved hW9.alike hK, hD⟩, hS.F ht⟩) hS.2.2 d_Mo_await_58
    · have hv := hv.trans (if_pos c_2)
      refine lv_iconst (v := 1) hx hb d_Mo_await_17 (by decide) ?_
      refine lv_goto (tgt := 22) hx hb d_Mo_await_18 (by decide) ?_
      refine va_put (D := (dC, dI)) (ci := 3) (v := .int 1) (ty := .int) (C := R_Mo) (T := F_Mo) (N := 19) hx hb hW i_Mo t_Mo t_Mo_ok n_Mo hown hK hP hD hS 0 rfl rfl 0 (by decide) (hW _ k_189) (fun _ h9 => h9) rfl (by decide +kernel) rfl rfl (Nat.le_of_ble_eq_true rfl) d_Mo_await_22 (fun H locs hP hD hS => ?_)
      have hP := pMF_0 hP
      have hD := dMF_0 hD
      refine lv_aload_n hx hb d_Mo_await_25 rfl (lv_at hl 0 rfl) ?_
      refine va_get (D := (dC, dI)) (ci := 3) (v := .int 1) (C := R_Mo) (T := F_Mo) (N := 19) hx hb hW i_Mo hown hK hP 0 rfl rfl 0 (by decide) (hW _ k_189) (fun _ h9 => h9) rfl d_Mo_await_26 ?_
      refine lv_if_ne (tgt := 50) hx hb d_Mo_await_29 (by decide) (fun _ => ?_) (fun h9 => absurd h9 (by decide))
      refine lv_aload_n hx hb d_Mo_await_50 rfl (lv_at hl 0 rfl) ?_
      refine va_get (D := (dC, dI)) (ci := 3) (v := .int 1) (C := R_Mo) (T := F_Mo) (N := 19) hx hb hW i_Mo hown hK hP 0 rfl rfl 0 (by decide) (hW _ k_189) (fun _ h9 => h9) rfl d_Mo_await_51 ?_
      refine lv_if_le (tgt := 59) hx hb d_Mo_await_54 (by decide) (fun h9 => absurd h9 (by decide)) (fun _ => ?_)
      refine lv_iconst (v := 0) hx hb d_Mo_await_57 (by decide) ?_
      exact W.iret (v := 0) hx hb hr (fun t ht hW9 => ⟨⟨0, ((uF F 0 1), A), rfl, hv.symm, by rw [ht]; exact hP, va_K.moved hW9.alike hK, hD⟩, hS.F ht⟩) hS.2.2 d_Mo_await_58
