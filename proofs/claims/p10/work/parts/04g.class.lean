def f_RS_told (F : Nat → Int32) (A : Nat → Nat → Int32) (rb wh : Int32) : Nat × Int32 × SC := if f_RS_needRobot F A rb = 0 then (if wh = 0 then (0, A 2 rb.toNatClampNeg, F, A) else (if wh = 1 then (0, A 4 rb.toNatClampNeg, F, A) else (if wh = 2 then (0, A 5 rb.toNatClampNeg, F, A) else (if wh = 3 then (0, f_Gr_liveOf F A rb, F, A) else (if wh = 4 then (if A 6 rb.toNatClampNeg = 0 then (0, 0, F, A) else (0, 1, F, A)) else (if wh = 5 then (if f_Rb_isSilent F A rb (F 0) = 0 then (0, 0, F, A) else (0, 1, F, A)) else (if wh = 6 then (0, A 7 rb.toNatClampNeg, F, A) else ((2, 0, F, A))))))))) else (f_RS_needRobot F A rb, 0, F, A)
set_option maxHeartbeats 4000000 in
set_option maxRecDepth 100000 in
theorem c_RS_told_k (l : Launch) (dC : Nat → ClassId) (dI : Nat → Nat → Nat) (r : Nat → Nat) (k : Nat → ClassId) (F : Nat → Int32) (A : Nat → Nat → Int32) (sz : Nat) (rb wh : Int32) (hI : CI F) (hk : (f_RS_told F A rb wh).1 = 0) : Met l y_RS_told w_RS_told ({ frames := 3, cells := 0, slots := 0, locals := 66 }) (va_Pc [.ref (r 0), .int rb, .int wh] (SP (dC, dI) (wC r k F A) (tC k) sz)) (va_Qi (fun v (u : SC) => (0, v, u) = f_RS_told F A rb wh) (fun (u : SC) t => aW (dC, dI) (tC k) (va_A (wC r k F A) sz) (wC r k u.1 u.2) t) (va_A (wC r k F A) sz)) 0 0 (va_A (wC r k F A) sz) := by
  refine Met.ofW (cc := b_RS_told) (maxL := 3) (ret := (some .int)) (by decide) rfl ?_
  intro p e s m args below meth c s₁ B hml hv0
  obtain ⟨rfl, hsz, hP, hK, hD0⟩ := hv0
  have hx := B.exec
  have hb := B.bytes
  have hr := B.returns
  have hts := atoms_spec (ws := w_RS_told) B.pre
  have hW : ∀ w ∈ WALL, w.before ([.ref (r 0), .int rb, .int wh] : List Value).toArray s = true := fun w h => hts w (List.mem_cons_of_mem _ h)
  have hown : s.vm.findClass R_RS = some m.cls := findClass_of_methodNamed B.named
  have hlocks := B.notSynchronized
  subst hsz
  have hD := hD0.self (sz := s.heap.size)
  generalize hAe : va_A (wC r k F A) s.heap.size = Ad at hD ⊢
  have hA : ∀ q : Nat, s.heap.size ≤ q → Ad q := fun q h => by rw [← hAe]; exact Or.inr h
  have hS : va_S Ad s.heap s.heap [] := va_S.rf
  have hl := lv_entry ([.ref (r 0), .int rb, .int wh]) (n := 3) (Nat.le_of_ble_eq_true rfl)
  rw [lg_entry_eq]
  generalize (lg_sl ([.ref (r 0), .int rb, .int wh]) ++ List.replicate (3 - (lg_sl ([.ref (r 0), .int rb, .int wh])).length) Slot.unset).toArray = ls at hl ⊢
  have hl : lv_has ls 3 [(0, .ref (r 0)), (1, .int rb), (2, .int wh)] := hl
  obtain ⟨⟨hp0, hp1⟩, ⟨hr0, hr1⟩, hg0, hg1⟩ := id hI; have hr2 : (F 2).toInt ≤ 60 := Int.le_trans hr1 (by decide)
  have hv := f_RS_told.eq_1 F A rb wh
  refine lv_aload_n hx hb d_RS_told_0 rfl (lv_at hl 0 rfl) ?_
  refine lv_iload_n hx hb d_RS_told_1 rfl (lv_at hl 1 rfl) ?_
  by_cases c_1 : f_RS_needRobot F A rb = 0
  · have hv := hv.trans (if_pos c_1)
    refine rdVv ⟨hx, hb, hml, hown, hW⟩ (c_RS_needRobot_k l dC dI r k F A rb   c_1) (cwV 1 hW (gIn k_77 k_78 k_79 k_15 k_80) rfl rfl rfl (by decide +kernel) ⟨Nat.le_of_ble_eq_true rfl, Nat.le_of_ble_eq_true rfl⟩) hK hP (va_recv hK hP (ci := 0) (q0 := 0) rfl rfl) rfl hl.1 rfl (Nat.le_of_ble_eq_true rfl) d_RS_told_2 ⟨Nat.zero_le _, Nat.zero_le _⟩ ?_
    refine lv_iload_n hx hb d_RS_told_5 rfl (lv_at hl 2 rfl) ?_
    by_cases c_2 : wh = 0
    · have hv := hv.trans (if_pos c_2)
      refine lv_tableIn (off := 42) (tgt := 48) hx hb d_RS_told_6 (by rw [c_2]; decide) (by rw [c_2]; decide) (by rw [c_2]; rfl) (by decide) ?_
      refine lv_aload_n hx hb d_RS_told_48 rfl (lv_at hl 0 rfl) ?_
      refine va_get (D := (dC, dI)) (ci := 0) (v := .ref (r 1)) (C := R_RS) (T := F_RS) (N := 6) hx hb hW i_RS hown hK hP 0 rfl rfl 4 (by decide) (hW _ k_3) (fun _ h9 => h9) rfl d_RS_told_49 ?_
      refine va_get (D := (dC, dI)) (ci := 1) (v := .ref (r 5)) (C := R_Rb) (T := F_Rb) (N := 7) hx hb hW i_Rb hown hK hP 1 rfl rfl 1 (by decide) (hW _ k_130) (fun _ h9 => h9) rfl d_RS_told_52 ?_
      refine lv_iload_n hx hb d_RS_told_55 rfl (lv_at hl 1 rfl) ?_
      refine va_iald hx hb hK hP 5 2 rfl rfl (ixR hI c_1) d_RS_told_56 ?_
      exact W.iret (v := A 2 rb.toNatClampNeg) hx hb hr (fun t ht hW9 => ⟨⟨A 2 rb.toNatClampNeg, (F, A), rfl, hv.symm, by rw [ht]; exact hP, va_K.moved hW9.alike hK, hD⟩, hS.F ht⟩) hS.2.2 d_RS_told_57
    have hv := hv.trans (if_neg c_2)
    by_cases c_3 : wh = 1
    · have hv := hv.trans (if_pos c_3)
      refine lv_tableIn (off := 52) (tgt := 58) hx hb d_RS_told_6 (by rw [c_3]; decide) (by rw [c_3]; decide) (by rw [c_3]; rfl) (by decide) ?_
      refine lv_aload_n hx hb d_RS_told_58 rfl (lv_at hl 0 rfl) ?_
      refine va_get (D := (dC, dI)) (ci := 0) (v := .ref (r 1)) (C := R_RS) (T := F_RS) (N := 6) hx hb hW i_RS hown hK hP 0 rfl rfl 4 (by decide) (hW _ k_3) (fun _ h9 => h9) rfl d_RS_told_59 ?_
      refine va_get (D := (dC, dI)) (ci := 1) (v := .ref (r 7)) (C := R_Rb) (T := F_Rb) (N := 7) hx hb hW i_Rb hown hK hP 1 rfl rfl 3 (by decide) (hW _ k_143) (fun _ h9 => h9) rfl d_RS_told_62 ?_
      refine lv_iload_n hx hb d_RS_told_65 rfl (lv_at hl 1 rfl) ?_
      refine va_iald hx hb hK hP 7 4 rfl rfl (ixR hI c_1) d_RS_told_66 ?_
      exact W.iret (v := A 4 rb.toNatClampNeg) hx hb hr (fun t ht hW9 => ⟨⟨A 4 rb.toNatClampNeg, (F, A), rfl, hv.symm, by rw [ht]; exact hP, va_K.moved hW9.alike hK, hD⟩, hS.F ht⟩) hS.2.2 d_RS_told_67
    have hv := hv.trans (if_neg c_3)
    by_cases c_4 : wh = 2
    · have hv := hv.trans (if_pos c_4)
      refine lv_tableIn (off := 62) (tgt := 68) hx hb d_RS_told_6 (by rw [c_4]; decide) (by rw [c_4]; decide) (by rw [c_4]; rfl) (by decide) ?_
      refine lv_aload_n hx hb d_RS_told_68 rfl (lv_at hl 0 rfl) ?_
      refine va_get (D := (dC, dI)) (ci := 0) (v := .ref (r 1)) (C := R_RS) (T := F_RS) (N := 6) hx hb hW i_RS hown hK hP 0 rfl rfl 4 (by decide) (hW _ k_3) (fun _ h9 => h9) rfl d_RS_told_69 ?_
      refine va_get (D := (dC, dI)) (ci := 1) (v := .ref (r 8)) (C := R_Rb) (T := F_Rb) (N := 7) hx hb hW i_Rb hown hK hP 1 rfl rfl 4 (by decide) (hW _ k_148) (fun _ h9 => h9) rfl d_RS_told_72 ?_
      refine lv_iload_n hx hb d_RS_told_75 rfl (lv_at hl 1 rfl) ?_
      refine va_iald hx hb hK hP 8 5 rfl rfl (ixR hI c_1) d_RS_told_76 ?_
      exact W.iret (v := A 5 rb.toNatClampNeg) hx hb hr (fun t ht hW9 => ⟨⟨A 5 rb.toNatClampNeg, (F, A), rfl, hv.symm, by rw [ht]; exact hP, va_K.moved hW9.alike hK, hD⟩, hS.F ht⟩) hS.2.2 d_RS_told_77
    have hv := hv.trans (if_neg c_4)
    by_cases c_5 : wh = 3
    · have hv := hv.trans (if_pos c_5)
      refine lv_tableIn (off := 72) (tgt := 78) hx hb d_RS_told_6 (by rw [c_5]; decide) (by rw [c_5]; decide) (by rw [c_5]; rfl) (by decide) ?_
      refine lv_aload_n hx hb d_RS_told_78 rfl (lv_at hl 0 rfl) ?_
      refine va_get (D := (dC, dI)) (ci := 0) (v := .ref (r 2)) (C := R_RS) (T := F_RS) (N := 6) hx hb hW i_RS hown hK hP 0 rfl rfl 5 (by decide) (hW _ k_5) (fun _ h9 => h9) rfl d_RS_told_79 ?_
      refine lv_iload_n hx hb d_RS_told_82 rfl (lv_at hl 1 rfl) ?_
      refine rdV ⟨hx, hb, hml, hown, hW⟩ (c_Gr_liveOf l dC dI r k F A rb hI ) (cwV 1 hW (gIn k_121 k_122 k_123 k_52 k_124) rfl rfl rfl (by decide +kernel) ⟨Nat.le_of_ble_eq_true rfl, Nat.le_of_ble_eq_true rfl⟩) hK hP (va_recv hK hP (ci := 2) (q0 := 2) rfl rfl) rfl hl.1 rfl (Nat.le_of_ble_eq_true rfl) d_RS_told_83 ⟨Nat.zero_le _, Nat.zero_le _⟩ ?_
      exact W.iret (v := f_Gr_liveOf F A rb) hx hb hr (fun t ht hW9 => ⟨⟨f_Gr_liveOf F A rb, (F, A), rfl, hv.symm, by rw [ht]; exact hP, va_K.moved hW9.alike hK, hD⟩, hS.F ht⟩) hS.2.2 d_RS_told_86
    have hv := hv.trans (if_neg c_5)
    by_cases c_6 : wh = 4
    · have hv := hv.trans (if_pos c_6)
      refine lv_tableIn (off := 81) (tgt := 87) hx hb d_RS_told_6 (by rw [c_6]; decide) (by rw [c_6]; decide) (by rw [c_6]; rfl) (by decide) ?_
      refine lv_aload_n hx hb d_RS_told_87 rfl (lv_at hl 0 rfl) ?_
      refine va_get (D := (dC, dI)) (ci := 0) (v := .ref (r 1)) (C := R_RS) (T := F_RS) (N := 6) hx hb hW i_RS hown hK hP 0 rfl rfl 4 (by decide) (hW _ k_3) (fun _ h9 => h9) rfl d_RS_told_88 ?_
      refine va_get (D := (dC, dI)) (ci := 1) (v := .ref (r 9)) (C := R_Rb) (T := F_Rb) (N := 7) hx hb hW i_Rb hown hK hP 1 rfl rfl 5 (by decide) (hW _ k_41) (fun _ h9 => h9) rfl d_RS_told_91 ?_
      refine lv_iload_n hx hb d_RS_told_94 rfl (lv_at hl 1 rfl) ?_
      refine va_zald hx hb hK hP 9 6 rfl rfl (ixR hI c_1) d_RS_told_95 ?_
      refine lv_if_eq (tgt := 103) hx hb d_RS_told_96 (by decide) (fun c_7 => ?_) (fun c_7 => ?_)
      · have hv := hv.trans (if_pos c_7)
        refine lv_iconst (v := 0) hx hb d_RS_told_103 (by decide) ?_
        exact W.iret (v := 0) hx hb hr (fun t ht hW9 => ⟨⟨0, (F, A), rfl, hv.symm, by rw [ht]; exact hP, va_K.moved hW9.alike hK, hD⟩, hS.F ht⟩) hS.2.2 d_RS_told_104
      · have hv := hv.trans (if_neg c_7)
        refine lv_iconst (v := 1) hx hb d_RS_told_99 (by decide) ?_
        refine lv_goto (tgt := 104) hx hb d_RS_told_100 (by decide) ?_
        exact W.iret (v := 1) hx hb hr (fun t ht hW9 => ⟨⟨1, (F, A), rfl, hv.symm, by rw [ht]; exact hP, va_K.moved hW9.alike hK, hD⟩, hS.F ht⟩) hS.2.2 d_RS_told_104
    have hv := hv.trans (if_neg c_6)
    by_cases c_8 : wh = 5
    · have hv := hv.trans (if_pos c_8)
      refine lv_tableIn (off := 99) (tgt := 105) hx hb d_RS_told_6 (by rw [c_8]; decide) (by rw [c_8]; decide) (by rw [c_8]; rfl) (by decide) ?_
      refine lv_aload_n hx hb d_RS_told_105 rfl (lv_at hl 0 rfl) ?_
      refine va_get (D := (dC, dI)) (ci := 0) (v := .ref (r 1)) (C := R_RS) (T := F_RS) (N := 6) hx hb hW i_RS hown hK hP 0 rfl rfl 4 (by decide) (hW _ k_3) (fun _ h9 => h9) rfl d_RS_told_106 ?_
      refine lv_iload_n hx hb d_RS_told_109 rfl (lv_at hl 1 rfl) ?_
      refine lv_aload_n hx hb d_RS_told_110 rfl (lv_at hl 0 rfl) ?_
      refine va_get (D := (dC, dI)) (ci := 0) (v := .int (F 0)) (C := R_RS) (T := F_RS) (N := 6) hx hb hW i_RS hown hK hP 0 rfl rfl 0 (by decide) (hW _ k_7) (fun _ h9 => h9) rfl d_RS_told_111 ?_
      refine rdV ⟨hx, hb, hml, hown, hW⟩ (c_Rb_isSilent l dC dI r k F A rb (F 0) hI (ixR hI c_1)) (cwV 2 hW (gIn k_42 k_43 k_44 k_33 k_45) rfl rfl rfl (by decide +kernel) ⟨Nat.le_of_ble_eq_true rfl, Nat.le_of_ble_eq_true rfl⟩) hK hP (va_recv hK hP (ci := 1) (q0 := 1) rfl rfl) rfl hl.1 rfl (Nat.le_of_ble_eq_true rfl) d_RS_told_114 ⟨Nat.zero_le _, Nat.zero_le _⟩ ?_
      refine lv_if_eq (tgt := 124) hx hb d_RS_told_117 (by decide) (fun c_9 => ?_) (fun c_9 => ?_)
      · have hv := hv.trans (if_pos c_9)
        refine lv_iconst (v := 0) hx hb d_RS_told_124 (by decide) ?_
        exact W.iret (v := 0) hx hb hr (fun t ht hW9 => ⟨⟨0, (F, A), rfl, hv.symm, by rw [ht]; exact hP, va_K.moved hW9.alike hK, hD⟩, hS.F ht⟩) hS.2.2 d_RS_told_125
      · have hv := hv.trans (if_neg c_9)
        refine lv_iconst (v := 1) hx hb d_RS_told_120 (by decide) ?_
        refine lv_goto (tgt := 125) hx hb d_RS_told_121 (by decide) ?_
        exact W.iret (v := 1) hx hb hr (fun t ht hW9 => ⟨⟨1, (F, A), rfl, hv.symm, by rw [ht]; exact hP, va_K.moved hW9.alike hK, hD⟩, hS.F ht⟩) hS.2.2 d_RS_told_125
    have hv := hv.trans (if_neg c_8)
    by_cases c_10 : wh = 6
    · have hv := hv.trans (if_pos c_10)
      refine lv_tableIn (off := 120) (tgt := 126) hx hb d_RS_told_6 (by rw [c_10]; decide) (by rw [c_10]; decide) (by rw [c_10]; rfl) (by decide) ?_
      refine lv_aload_n hx hb d_RS_told_126 rfl (lv_at hl 0 rfl) ?_
      refine va_get (D := (dC, dI)) (ci := 0) (v := .ref (r 1)) (C := R_RS) (T := F_RS) (N := 6) hx hb hW i_RS hown hK hP 0 rfl rfl 4 (by decide) (hW _ k_3) (fun _ h9 => h9) rfl d_RS_told_127 ?_
      refine va_get (D := (dC, dI)) (ci := 1) (v := .ref (r 10)) (C := R_Rb) (T := F_Rb) (N := 7) hx hb hW i_Rb hown hK hP 1 rfl rfl 6 (by decide) (hW _ k_93) (fun _ h9 => h9) rfl d_RS_told_130 ?_
      refine lv_iload_n hx hb d_RS_told_133 rfl (lv_at hl 1 rfl) ?_
      refine va_iald hx hb hK hP 10 7 rfl rfl (ixR hI c_1) d_RS_told_134 ?_
      exact W.iret (v := A 7 rb.toNatClampNeg) hx hb hr (fun t ht hW9 => ⟨⟨A 7 rb.toNatClampNeg, (F, A), rfl, hv.symm, by rw [ht]; exact hP, va_K.moved hW9.alike hK, hD⟩, hS.F ht⟩) hS.2.2 d_RS_told_135
    have hv := hv.trans (if_neg c_10)
    refine lv_tableOut (tgt := 136) hx hb d_RS_told_6 (tsw7 c_2 c_3 c_4 c_5 c_6 c_8 c_10) (by decide) ?_
    rw [hv] at hk
    exact absurd (show (2 : Nat) = 0 from hk) (by decide)
  · have hv := hv.trans (if_neg c_1)
    rw [hv] at hk
    exact absurd hk c_1
set_option maxHeartbeats 4000000 in
set_option maxRecDepth 100000 in
theorem c_RS_told_x (l : Launch) (hl9 : l.stackTraces = false) (dC : Nat → ClassId) (dI : Nat → Nat → Nat) (r : Nat → Nat) (k : Nat → ClassId) (F : Nat → Int32) (A : Nat → Nat → Int32) (sz : Nat) (rb wh : Int32) (hI : CI F) (hk : ¬ (f_RS_told F A rb wh).1 = 0) : vx_Met l y_RS_told w_RS_told ({ frames := 7, cells := 1, slots := 6, locals := 103 }) (va_Pc [.ref (r 0), .int rb, .int wh] (XP (dC, dI) (wC r k F A) (tC k) sz)) (va_Qi (fun _ (_ : SC) => False) (fun (u : SC) t => aW (dC, dI) (tC k) (va_A (wC r k F A) sz) (wC r k u.1 u.2) t) (va_A (wC r k F A) sz)) (vx_X (fun u : Nat => f_RS_told F A rb wh = (u, 0, F, A)) (fun E u t => E = exN u ∧ aW (dC, dI) (tC k) (va_A (wC r k F A) sz) (wC r k F A) t) (va_A (wC r k F A) sz)) 1 6 (va_A (wC r k F A) sz) := by
  refine vx_ofW (cc := b_RS_told) (maxL := 3) (ret := (some .int)) (by decide) rfl ?_
  intro p e s m args below meth c s₁ B hml hEx hv0
  obtain ⟨rfl, ⟨hsz, hP, hK, hD0⟩, hXS⟩ := hv0
  have hx := B.exec
  have hb := B.bytes
  have hr := B.returns
  have hts := atoms_spec (ws := w_RS_told) B.pre
  have hW : ∀ w ∈ WALL, w.before ([.ref (r 0), .int rb, .int wh] : List Value).toArray s = true := fun w h => hts w (List.mem_cons_of_mem _ h)
  have hown : s.vm.findClass R_RS = some m.cls := findClass_of_methodNamed B.named
  have hlocks := B.notSynchronized
  subst hsz
  have hD := hD0.self (sz := s.heap.size)
  generalize hAe : va_A (wC r k F A) s.heap.size = Ad at hD hXS ⊢
  have hA : ∀ q : Nat, s.heap.size ≤ q → Ad q := fun q h => by rw [← hAe]; exact Or.inr h
  have hS : va_S Ad s.heap s.heap [] := va_S.rf
  have hl := lv_entry ([.ref (r 0), .int rb, .int wh]) (n := 3) (Nat.le_of_ble_eq_true rfl)
  rw [lg_entry_eq]
  generalize (lg_sl ([.ref (r 0), .int rb, .int wh]) ++ List.replicate (3 - (lg_sl ([.ref (r 0), .int rb, .int wh])).length) Slot.unset).toArray = ls at hl ⊢
  have hl : lv_has ls 3 [(0, .ref (r 0)), (1, .int rb), (2, .int wh)] := hl
  obtain ⟨⟨hp0, hp1⟩, ⟨hr0, hr1⟩, hg0, hg1⟩ := id hI; have hr2 : (F 2).toInt ≤ 60 := Int.le_trans hr1 (by decide)
  have hv := f_RS_told.eq_1 F A rb wh
  refine lv_aload_n hx hb d_RS_told_0 rfl (lv_at hl 0 rfl) ?_
  refine lv_iload_n hx hb d_RS_told_1 rfl (lv_at hl 1 rfl) ?_
  by_cases c_1 : f_RS_needRobot F A rb = 0
  · have hv := hv.trans (if_pos c_1)
    refine rdVv ⟨hx, hb, hml, hown, hW⟩ (c_RS_needRobot_k l dC dI r k F A rb   c_1) (cwV 1 hW (gIn k_77 k_78 k_79 k_15 k_80) rfl rfl rfl (by decide +kernel) ⟨Nat.le_of_ble_eq_true rfl, Nat.le_of_ble_eq_true rfl⟩) hK hP (va_recv hK hP (ci := 0) (q0 := 0) rfl rfl) rfl hl.1 rfl (Nat.le_of_ble_eq_true rfl) d_RS_told_2 ⟨Nat.zero_le _, Nat.zero_le _⟩ ?_
    refine lv_iload_n hx hb d_RS_told_5 rfl (lv_at hl 2 rfl) ?_
    by_cases c_2 : wh = 0
    · have hv := hv.trans (if_pos c_2)
      exact (hk ((congrArg Prod.fst hv).trans (by first | rfl | ((repeat' split) <;> (first | rfl | exact cd_next_L _ _ _ _ _ _ _))))).elim
    have hv := hv.trans (if_neg c_2)
    by_cases c_3 : wh = 1
    · have hv := hv.trans (if_pos c_3)
      exact (hk ((congrArg Prod.fst hv).trans (by first | rfl | ((repeat' split) <;> (first | rfl | exact cd_next_L _ _ _ _ _ _ _))))).elim
    have hv := hv.trans (if_neg c_3)
    by_cases c_4 : wh = 2
    · have hv := hv.trans (if_pos c_4)
      exact (hk ((congrArg Prod.fst hv).trans (by first | rfl | ((repeat' split) <;> (first | rfl | exact cd_next_L _ _ _ _ _ _ _))))).elim
    have hv := hv.trans (if_neg c_4)
    by_cases c_5 : wh = 3
    · have hv := hv.trans (if_pos c_5)
      exact (hk ((congrArg Prod.fst hv).trans (by first | rfl | ((repeat' split) <;> (first | rfl | exact cd_next_L _ _ _ _ _ _ _))))).elim
    have hv := hv.trans (if_neg c_5)
    by_cases c_6 : wh = 4
    · have hv := hv.trans (if_pos c_6)
      exact (hk ((congrArg Prod.fst hv).trans (by first | rfl | ((repeat' split) <;> (first | rfl | exact cd_next_L _ _ _ _ _ _ _))))).elim
    have hv := hv.trans (if_neg c_6)
    by_cases c_8 : wh = 5
    · have hv := hv.trans (if_pos c_8)
      exact (hk ((congrArg Prod.fst hv).trans (by first | rfl | ((repeat' split) <;> (first | rfl | exact cd_next_L _ _ _ _ _ _ _))))).elim
    have hv := hv.trans (if_neg c_8)
    by_cases c_10 : wh = 6
    · have hv := hv.trans (if_pos c_10)
      exact (hk ((congrArg Prod.fst hv).trans (by first | rfl | ((repeat' split) <;> (first | rfl | exact cd_next_L _ _ _ _ _ _ _))))).elim
    have hv := hv.trans (if_neg c_10)
    refine lv_tableOut (tgt := 136) hx hb d_RS_told_6 (tsw7 c_2 c_3 c_4 c_5 c_6 c_8 c_10) (by decide) ?_
    exact thr hx hb hl9 hown hW hXS tw_19 hS (hl.1.trans hml.symm) d_RS_told_136 d_RS_told_139 d_RS_told_140 d_RS_told_142 d_RS_told_145 hEx (Nat.le_of_ble_eq_true rfl) (Nat.le_of_ble_eq_true rfl) (Nat.le_of_ble_eq_true rfl) (Nat.le_of_ble_eq_true rfl) hlocks (fun t ha hsz hk9 => ⟨2, hv, ⟨rfl, hP.kept (fun k9 q hq => hk9 q.1 (hP k9 q hq).lt), va_K.moved ha hK, hD⟩, Nat.le_trans hS.1 hsz, fun q h1 h2 => (hk9 q (Nat.lt_of_lt_of_le h1 hS.1)).trans (hS.2.1 q h1 h2)⟩) hS.2.2 (Nat.le_of_ble_eq_true rfl) (Nat.le_of_ble_eq_true rfl)
  · have hv := hv.trans (if_neg c_1)
    refine gdV ⟨hx, hb, hml, hown, hW⟩ (c_RS_needRobot_x l hl9 dC dI r k F A _ rb   c_1) (cwV 1 hW (gIn k_77 k_78 k_79 k_15 k_80) rfl rfl rfl (by decide +kernel) ⟨Nat.le_of_ble_eq_true rfl, Nat.le_of_ble_eq_true rfl⟩) hK hP hXS hA (va_recv hK hP (ci := 0) (q0 := 0) rfl rfl) hS rfl hl.1 rfl (Nat.le_of_ble_eq_true rfl) d_RS_told_2 ⟨Nat.le_of_ble_eq_true rfl, Nat.le_of_ble_eq_true rfl⟩ (fun H locs q9 ce hP hS hce hcv hcl => ?_)
    exact vx_out (E := exN (f_RS_needRobot F A rb)) (fun x hx => (hEx x hx).elim) hlocks hce hcv hcl (fun t ht ha => ⟨f_RS_needRobot F A rb, hv, ⟨rfl, by rw [ht]; exact hP, va_K.moved ha hK, hD⟩, hS.F ht⟩) hS.2.2 (Nat.le_of_ble_eq_true rfl) (Nat.le_of_ble_eq_true rfl)
def f_RS_grant (F : Nat → Int32) (A : Nat → Nat → Int32) (gr wh : Int32) : Nat × Int32 × SC := if f_RS_needGrant F A gr = 0 then (if wh = 0 then (0, A 8 gr.toNatClampNeg, F, A) else (if wh = 1 then (0, A 9 gr.toNatClampNeg, F, A) else (if wh = 2 then (0, A 10 gr.toNatClampNeg, F, A) else (if wh = 3 then (0, A 11 gr.toNatClampNeg, F, A) else (if wh = 4 then (0, A 12 gr.toNatClampNeg, F, A) else (if wh = 5 then (0, A 13 gr.toNatClampNeg, F, A) else ((2, 0, F, A)))))))) else (f_RS_needGrant F A gr, 0, F, A)
set_option maxHeartbeats 4000000 in
set_option maxRecDepth 100000 in
theorem c_RS_grant_k (l : Launch) (dC : Nat → ClassId) (dI : Nat → Nat → Nat) (r : Nat → Nat) (k : Nat → ClassId) (F : Nat → Int32) (A : Nat → Nat → Int32) (sz : Nat) (gr wh : Int32) (hI : CI F) (hk : (f_RS_grant F A gr wh).1 = 0) : Met l y_RS_grant w_RS_grant ({ frames := 1, cells := 0, slots := 0, locals := 21 }) (va_Pc [.ref (r 0), .int gr, .int wh] (SP (dC, dI) (wC r k F A) (tC k) sz)) (va_Qi (fun v (u : SC) => (0, v, u) = f_RS_grant F A gr wh) (fun (u : SC) t => aW (dC, dI) (tC k) (va_A (wC r k F A) sz) (wC r k u.1 u.2) t) (va_A (wC r k F A) sz)) 0 0 (va_A (wC r k F A) sz) := by
  refine Met.ofW (cc := b_RS_grant) (maxL := 3) (ret := (some .int)) (by decide) rfl ?_
  intro p e s m args below meth c s₁ B hml hv0
  obtain ⟨rfl, hsz, hP, hK, hD0⟩ := hv0
  have hx := B.exec
  have hb := B.bytes
  have hr := B.returns
  have hts := atoms_spec (ws := w_RS_grant) B.pre
  have hW : ∀ w ∈ WALL, w.before ([.ref (r 0), .int gr, .int wh] : List Value).toArray s = true := fun w h => hts w (List.mem_cons_of_mem _ h)
  have hown : s.vm.findClass R_RS = some m.cls := findClass_of_methodNamed B.named
  have hlocks := B.notSynchronized
  subst hsz
  have hD := hD0.self (sz := s.heap.size)
  generalize hAe : va_A (wC r k F A) s.heap.size = Ad at hD ⊢
  have hA : ∀ q : Nat, s.heap.size ≤ q → Ad q := fun q h => by rw [← hAe]; exact Or.inr h
  have hS : va_S Ad s.heap s.heap [] := va_S.rf
  have hl := lv_entry ([.ref (r 0), .int gr, .int wh]) (n := 3) (Nat.le_of_ble_eq_true rfl)
  rw [lg_entry_eq]
  generalize (lg_sl ([.ref (r 0), .int gr, .int wh]) ++ List.replicate (3 - (lg_sl ([.ref (r 0), .int gr, .int wh])).length) Slot.unset).toArray = ls at hl ⊢
  have hl : lv_has ls 3 [(0, .ref (r 0)), (1, .int gr), (2, .int wh)] := hl
  obtain ⟨⟨hp0, hp1⟩, ⟨hr0, hr1⟩, hg0, hg1⟩ := id hI; have hr2 : (F 2).toInt ≤ 60 := Int.le_trans hr1 (by decide)
  have hv := f_RS_grant.eq_1 F A gr wh
  refine lv_aload_n hx hb d_RS_grant_0 rfl (lv_at hl 0 rfl) ?_
  refine lv_iload_n hx hb d_RS_grant_1 rfl (lv_at hl 1 rfl) ?_
  by_cases c_1 : f_RS_needGrant F A gr = 0
  · have hv := hv.trans (if_pos c_1)
    refine rdVv ⟨hx, hb, hml, hown, hW⟩ (c_RS_needGrant_k l dC dI r k F A gr   c_1) (cwV 1 hW (gIn k_114 k_115 k_116 k_15 k_117) rfl rfl rfl (by decide +kernel) ⟨Nat.le_of_ble_eq_true rfl, Nat.le_of_ble_eq_true rfl⟩) hK hP (va_recv hK hP (ci := 0) (q0 := 0) rfl rfl) rfl hl.1 rfl (Nat.le_of_ble_eq_true rfl) d_RS_grant_2 ⟨Nat.zero_le _, Nat.zero_le _⟩ ?_
    refine lv_iload_n hx hb d_RS_grant_5 rfl (lv_at hl 2 rfl) ?_
    by_cases c_2 : wh = 0
    · have hv := hv.trans (if_pos c_2)
      refine lv_tableIn (off := 38) (tgt := 44) hx hb d_RS_grant_6 (by rw [c_2]; decide) (by rw [c_2]; decide) (by rw [c_2]; rfl) (by decide) ?_
      refine lv_aload_n hx hb d_RS_grant_44 rfl (lv_at hl 0 rfl) ?_
      refine va_get (D := (dC, dI)) (ci := 0) (v := .ref (r 2)) (C := R_RS) (T := F_RS) (N := 6) hx hb hW i_RS hown hK hP 0 rfl rfl 5 (by decide) (hW _ k_5) (fun _ h9 => h9) rfl d_RS_grant_45 ?_
      refine va_get (D := (dC, dI)) (ci := 2) (v := .ref (r 11)) (C := R_Gr) (T := F_Gr) (N := 7) hx hb hW i_Gr hown hK hP 2 rfl rfl 1 (by decide) (hW _ k_120) (fun _ h9 => h9) rfl d_RS_grant_48 ?_
      refine lv_iload_n hx hb d_RS_grant_51 rfl (lv_at hl 1 rfl) ?_
      refine va_iald hx hb hK hP 11 8 rfl rfl (ixG hI c_1) d_RS_grant_52 ?_
      exact W.iret (v := A 8 gr.toNatClampNeg) hx hb hr (fun t ht hW9 => ⟨⟨A 8 gr.toNatClampNeg, (F, A), rfl, hv.symm, by rw [ht]; exact hP, va_K.moved hW9.alike hK, hD⟩, hS.F ht⟩) hS.2.2 d_RS_grant_53
    have hv := hv.trans (if_neg c_2)
    by_cases c_3 : wh = 1
    · have hv := hv.trans (if_pos c_3)
      refine lv_tableIn (off := 48) (tgt := 54) hx hb d_RS_grant_6 (by rw [c_3]; decide) (by rw [c_3]; decide) (by rw [c_3]; rfl) (by decide) ?_
      refine lv_aload_n hx hb d_RS_grant_54 rfl (lv_at hl 0 rfl) ?_
      refine va_get (D := (dC, dI)) (ci := 0) (v := .ref (r 2)) (C := R_RS) (T := F_RS) (N := 6) hx hb hW i_RS hown hK hP 0 rfl rfl 5 (by decide) (hW _ k_5) (fun _ h9 => h9) rfl d_RS_grant_55 ?_
      refine va_get (D := (dC, dI)) (ci := 2) (v := .ref (r 12)) (C := R_Gr) (T := F_Gr) (N := 7) hx hb hW i_Gr hown hK hP 2 rfl rfl 2 (by decide) (hW _ k_173) (fun _ h9 => h9) rfl d_RS_grant_58 ?_
      refine lv_iload_n hx hb d_RS_grant_61 rfl (lv_at hl 1 rfl) ?_
      refine va_iald hx hb hK hP 12 9 rfl rfl (ixG hI c_1) d_RS_grant_62 ?_
      exact W.iret (v := A 9 gr.toNatClampNeg) hx hb hr (fun t ht hW9 => ⟨⟨A 9 gr.toNatClampNeg, (F, A), rfl, hv.symm, by rw [ht]; exact hP, va_K.moved hW9.alike hK, hD⟩, hS.F ht⟩) hS.2.2 d_RS_grant_63
    have hv := hv.trans (if_neg c_3)
    by_cases c_4 : wh = 2
    · have hv := hv.trans (if_pos c_4)
      refine lv_tableIn (off := 58) (tgt := 64) hx hb d_RS_grant_6 (by rw [c_4]; decide) (by rw [c_4]; decide) (by rw [c_4]; rfl) (by decide) ?_
      refine lv_aload_n hx hb d_RS_grant_64 rfl (lv_at hl 0 rfl) ?_
      refine va_get (D := (dC, dI)) (ci := 0) (v := .ref (r 2)) (C := R_RS) (T := F_RS) (N := 6) hx hb hW i_RS hown hK hP 0 rfl rfl 5 (by decide) (hW _ k_5) (fun _ h9 => h9) rfl d_RS_grant_65 ?_
      refine va_get (D := (dC, dI)) (ci := 2) (v := .ref (r 13)) (C := R_Gr) (T := F_Gr) (N := 7) hx hb hW i_Gr hown hK hP 2 rfl rfl 3 (by decide) (hW _ k_174) (fun _ h9 => h9) rfl d_RS_grant_68 ?_
      refine lv_iload_n hx hb d_RS_grant_71 rfl (lv_at hl 1 rfl) ?_
      refine va_iald hx hb hK hP 13 10 rfl rfl (ixG hI c_1) d_RS_grant_72 ?_
      exact W.iret (v := A 10 gr.toNatClampNeg) hx hb hr (fun t ht hW9 => ⟨⟨A 10 gr.toNatClampNeg, (F, A), rfl, hv.symm, by rw [ht]; exact hP, va_K.moved hW9.alike hK, hD⟩, hS.F ht⟩) hS.2.2 d_RS_grant_73
    have hv := hv.trans (if_neg c_4)
    by_cases c_5 : wh = 3
    · have hv := hv.trans (if_pos c_5)
      refine lv_tableIn (off := 68) (tgt := 74) hx hb d_RS_grant_6 (by rw [c_5]; decide) (by rw [c_5]; decide) (by rw [c_5]; rfl) (by decide) ?_
      refine lv_aload_n hx hb d_RS_grant_74 rfl (lv_at hl 0 rfl) ?_
      refine va_get (D := (dC, dI)) (ci := 0) (v := .ref (r 2)) (C := R_RS) (T := F_RS) (N := 6) hx hb hW i_RS hown hK hP 0 rfl rfl 5 (by decide) (hW _ k_5) (fun _ h9 => h9) rfl d_RS_grant_75 ?_
      refine va_get (D := (dC, dI)) (ci := 2) (v := .ref (r 14)) (C := R_Gr) (T := F_Gr) (N := 7) hx hb hW i_Gr hown hK hP 2 rfl rfl 4 (by decide) (hW _ k_175) (fun _ h9 => h9) rfl d_RS_grant_78 ?_
      refine lv_iload_n hx hb d_RS_grant_81 rfl (lv_at hl 1 rfl) ?_
      refine va_iald hx hb hK hP 14 11 rfl rfl (ixG hI c_1) d_RS_grant_82 ?_
      exact W.iret (v := A 11 gr.toNatClampNeg) hx hb hr (fun t ht hW9 => ⟨⟨A 11 gr.toNatClampNeg, (F, A), rfl, hv.symm, by rw [ht]; exact hP, va_K.moved hW9.alike hK, hD⟩, hS.F ht⟩) hS.2.2 d_RS_grant_83
    have hv := hv.trans (if_neg c_5)
    by_cases c_6 : wh = 4
    · have hv := hv.trans (if_pos c_6)
      refine lv_tableIn (off := 78) (tgt := 84) hx hb d_RS_grant_6 (by rw [c_6]; decide) (by rw [c_6]; decide) (by rw [c_6]; rfl) (by decide) ?_
      refine lv_aload_n hx hb d_RS_grant_84 rfl (lv_at hl 0 rfl) ?_
      refine va_get (D := (dC, dI)) (ci := 0) (v := .ref (r 2)) (C := R_RS) (T := F_RS) (N := 6) hx hb hW i_RS hown hK hP 0 rfl rfl 5 (by decide) (hW _ k_5) (fun _ h9 => h9) rfl d_RS_grant_85 ?_
      refine va_get (D := (dC, dI)) (ci := 2) (v := .ref (r 15)) (C := R_Gr) (T := F_Gr) (N := 7) hx hb hW i_Gr hown hK hP 2 rfl rfl 5 (by decide) (hW _ k_65) (fun _ h9 => h9) rfl d_RS_grant_88 ?_
      refine lv_iload_n hx hb d_RS_grant_91 rfl (lv_at hl 1 rfl) ?_
      refine va_iald hx hb hK hP 15 12 rfl rfl (ixG hI c_1) d_RS_grant_92 ?_
      exact W.iret (v := A 12 gr.toNatClampNeg) hx hb hr (fun t ht hW9 => ⟨⟨A 12 gr.toNatClampNeg, (F, A), rfl, hv.symm, by rw [ht]; exact hP, va_K.moved hW9.alike hK, hD⟩, hS.F ht⟩) hS.2.2 d_RS_grant_93
    have hv := hv.trans (if_neg c_6)
    by_cases c_7 : wh = 5
    · have hv := hv.trans (if_pos c_7)
      refine lv_tableIn (off := 88) (tgt := 94) hx hb d_RS_grant_6 (by rw [c_7]; decide) (by rw [c_7]; decide) (by rw [c_7]; rfl) (by decide) ?_
      refine lv_aload_n hx hb d_RS_grant_94 rfl (lv_at hl 0 rfl) ?_
      refine va_get (D := (dC, dI)) (ci := 0) (v := .ref (r 2)) (C := R_RS) (T := F_RS) (N := 6) hx hb hW i_RS hown hK hP 0 rfl rfl 5 (by decide) (hW _ k_5) (fun _ h9 => h9) rfl d_RS_grant_95 ?_
      refine va_get (D := (dC, dI)) (ci := 2) (v := .ref (r 16)) (C := R_Gr) (T := F_Gr) (N := 7) hx hb hW i_Gr hown hK hP 2 rfl rfl 6 (by decide) (hW _ k_119) (fun _ h9 => h9) rfl d_RS_grant_98 ?_
      refine lv_iload_n hx hb d_RS_grant_101 rfl (lv_at hl 1 rfl) ?_
      refine va_iald hx hb hK hP 16 13 rfl rfl (ixG hI c_1) d_RS_grant_102 ?_
      exact W.iret (v := A 13 gr.toNatClampNeg) hx hb hr (fun t ht hW9 => ⟨⟨A 13 gr.toNatClampNeg, (F, A), rfl, hv.symm, by rw [ht]; exact hP, va_K.moved hW9.alike hK, hD⟩, hS.F ht⟩) hS.2.2 d_RS_grant_103
    have hv := hv.trans (if_neg c_7)
    refine lv_tableOut (tgt := 104) hx hb d_RS_grant_6 (tsw6 c_2 c_3 c_4 c_5 c_6 c_7) (by decide) ?_
    rw [hv] at hk
    exact absurd (show (2 : Nat) = 0 from hk) (by decide)
  · have hv := hv.trans (if_neg c_1)
    rw [hv] at hk
    exact absurd hk c_1
set_option maxHeartbeats 4000000 in
set_option maxRecDepth 100000 in
theorem c_RS_grant_x (l : Launch) (hl9 : l.stackTraces = false) (dC : Nat → ClassId) (dI : Nat → Nat → Nat) (r : Nat → Nat) (k : Nat → ClassId) (F : Nat → Int32) (A : Nat → Nat → Int32) (sz : Nat) (gr wh : Int32) (hI : CI F) (hk : ¬ (f_RS_grant F A gr wh).1 = 0) : vx_Met l y_RS_grant w_RS_grant ({ frames := 7, cells := 1, slots := 6, locals := 103 }) (va_Pc [.ref (r 0), .int gr, .int wh] (XP (dC, dI) (wC r k F A) (tC k) sz)) (va_Qi (fun _ (_ : SC) => False) (fun (u : SC) t => aW (dC, dI) (tC k) (va_A (wC r k F A) sz) (wC r k u.1 u.2) t) (va_A (wC r k F A) sz)) (vx_X (fun u : Nat => f_RS_grant F A gr wh = (u, 0, F, A)) (fun E u t => E = exN u ∧ aW (dC, dI) (tC k) (va_A (wC r k F A) sz) (wC r k F A) t) (va_A (wC r k F A) sz)) 1 6 (va_A (wC r k F A) sz) := by
  refine vx_ofW (cc := b_RS_grant) (maxL := 3) (ret := (some .int)) (by decide) rfl ?_
  intro p e s m args below meth c s₁ B hml hEx hv0
  obtain ⟨rfl, ⟨hsz, hP, hK, hD0⟩, hXS⟩ := hv0
  have hx := B.exec
  have hb := B.bytes
  have hr := B.returns
  have hts := atoms_spec (ws := w_RS_grant) B.pre
  have hW : ∀ w ∈ WALL, w.before ([.ref (r 0), .int gr, .int wh] : List Value).toArray s = true := fun w h => hts w (List.mem_cons_of_mem _ h)
  have hown : s.vm.findClass R_RS = some m.cls := findClass_of_methodNamed B.named
  have hlocks := B.notSynchronized
  subst hsz
  have hD := hD0.self (sz := s.heap.size)
  generalize hAe : va_A (wC r k F A) s.heap.size = Ad at hD hXS ⊢
  have hA : ∀ q : Nat, s.heap.size ≤ q → Ad q := fun q h => by rw [← hAe]; exact Or.inr h
  have hS : va_S Ad s.heap s.heap [] := va_S.rf
  have hl := lv_entry ([.ref (r 0), .int gr, .int wh]) (n := 3) (Nat.le_of_ble_eq_true rfl)
  rw [lg_entry_eq]
  generalize (lg_sl ([.ref (r 0), .int gr, .int wh]) ++ List.replicate (3 - (lg_sl ([.ref (r 0), .int gr, .int wh])).length) Slot.unset).toArray = ls at hl ⊢
  have hl : lv_has ls 3 [(0, .ref (r 0)), (1, .int gr), (2, .int wh)] := hl
  obtain ⟨⟨hp0, hp1⟩, ⟨hr0, hr1⟩, hg0, hg1⟩ := id hI; have hr2 : (F 2).toInt ≤ 60 := Int.le_trans hr1 (by decide)
  have hv := f_RS_grant.eq_1 F A gr wh
  refine lv_aload_n hx hb d_RS_grant_0 rfl (lv_at hl 0 rfl) ?_
  refine lv_iload_n hx hb d_RS_grant_1 rfl (lv_at hl 1 rfl) ?_
  by_cases c_1 : f_RS_needGrant F A gr = 0
  · have hv := hv.trans (if_pos c_1)
    refine rdVv ⟨hx, hb, hml, hown, hW⟩ (c_RS_needGrant_k l dC dI r k F A gr   c_1) (cwV 1 hW (gIn k_114 k_115 k_116 k_15 k_117) rfl rfl rfl (by decide +kernel) ⟨Nat.le_of_ble_eq_true rfl, Nat.le_of_ble_eq_true rfl⟩) hK hP (va_recv hK hP (ci := 0) (q0 := 0) rfl rfl) rfl hl.1 rfl (Nat.le_of_ble_eq_true rfl) d_RS_grant_2 ⟨Nat.zero_le _, Nat.zero_le _⟩ ?_
    refine lv_iload_n hx hb d_RS_grant_5 rfl (lv_at hl 2 rfl) ?_
    by_cases c_2 : wh = 0
    · have hv := hv.trans (if_pos c_2)
      exact (hk ((congrArg Prod.fst hv).trans (by first | rfl | ((repeat' split) <;> (first | rfl | exact cd_next_L _ _ _ _ _ _ _))))).elim
    have hv := hv.trans (if_neg c_2)
    by_cases c_3 : wh = 1
    · have hv := hv.trans (if_pos c_3)
      exact (hk ((congrArg Prod.fst hv).trans (by first | rfl | ((repeat' split) <;> (first | rfl | exact cd_next_L _ _ _ _ _ _ _))))).elim
    have hv := hv.trans (if_neg c_3)
    by_cases c_4 : wh = 2
    · have hv := hv.trans (if_pos c_4)
      exact (hk ((congrArg Prod.fst hv).trans (by first | rfl | ((repeat' split) <;> (first | rfl | exact cd_next_L _ _ _ _ _ _ _))))).elim
    have hv := hv.trans (if_neg c_4)
    by_cases c_5 : wh = 3
    · have hv := hv.trans (if_pos c_5)
      exact (hk ((congrArg Prod.fst hv).trans (by first | rfl | ((repeat' split) <;> (first | rfl | exact cd_next_L _ _ _ _ _ _ _))))).elim
    have hv := hv.trans (if_neg c_5)
    by_cases c_6 : wh = 4
    · have hv := hv.trans (if_pos c_6)
      exact (hk ((congrArg Prod.fst hv).trans (by first | rfl | ((repeat' split) <;> (first | rfl | exact cd_next_L _ _ _ _ _ _ _))))).elim
    have hv := hv.trans (if_neg c_6)
    by_cases c_7 : wh = 5
    · have hv := hv.trans (if_pos c_7)
      exact (hk ((congrArg Prod.fst hv).trans (by first | rfl | ((repeat' split) <;> (first | rfl | exact cd_next_L _ _ _ _ _ _ _))))).elim
    have hv := hv.trans (if_neg c_7)
    refine lv_tableOut (tgt := 104) hx hb d_RS_grant_6 (tsw6 c_2 c_3 c_4 c_5 c_6 c_7) (by decide) ?_
    exact thr hx hb hl9 hown hW hXS tw_20 hS (hl.1.trans hml.symm) d_RS_grant_104 d_RS_grant_107 d_RS_grant_108 d_RS_grant_110 d_RS_grant_113 hEx (Nat.le_of_ble_eq_true rfl) (Nat.le_of_ble_eq_true rfl) (Nat.le_of_ble_eq_true rfl) (Nat.le_of_ble_eq_true rfl) hlocks (fun t ha hsz hk9 => ⟨2, hv, ⟨rfl, hP.kept (fun k9 q hq => hk9 q.1 (hP k9 q hq).lt), va_K.moved ha hK, hD⟩, Nat.le_trans hS.1 hsz, fun q h1 h2 => (hk9 q (Nat.lt_of_lt_of_le h1 hS.1)).trans (hS.2.1 q h1 h2)⟩) hS.2.2 (Nat.le_of_ble_eq_true rfl) (Nat.le_of_ble_eq_true rfl)
  · have hv := hv.trans (if_neg c_1)
    refine gdV ⟨hx, hb, hml, hown, hW⟩ (c_RS_needGrant_x l hl9 dC dI r k F A _ gr   c_1) (cwV 1 hW (gIn k_114 k_115 k_116 k_15 k_117) rfl rfl rfl (by decide +kernel) ⟨Nat.le_of_ble_eq_true rfl, Nat.le_of_ble_eq_true rfl⟩) hK hP hXS hA (va_recv hK hP (ci := 0) (q0 := 0) rfl rfl) hS rfl hl.1 rfl (Nat.le_of_ble_eq_true rfl) d_RS_grant_2 ⟨Nat.le_of_ble_eq_true rfl, Nat.le_of_ble_eq_true rfl⟩ (fun H locs q9 ce hP hS hce hcv hcl => ?_)
    exact vx_out (E := exN (f_RS_needGrant F A gr)) (fun x hx => (hEx x hx).elim) hlocks hce hcv hcl (fun t ht ha => ⟨f_RS_needGrant F A gr, hv, ⟨rfl, by rw [ht]; exact hP, va_K.moved ha hK, hD⟩, hS.F ht⟩) hS.2.2 (Nat.le_of_ble_eq_true rfl) (Nat.le_of_ble_eq_true rfl)
def f_Gr_allLive_L4 (F : Nat → Int32) (A : Nat → Nat → Int32) : Nat → Int32 → Int32 → Int32
  | 0, _, _ => 0
  | n4 + 1, x1, x2 => if F 3 < x2 then x1 else (if f_Gr_isLive F A x2 = 0 then (f_Gr_allLive_L4 F A n4 x1 (x2 + 1)) else (f_Gr_allLive_L4 F A n4 (x1 + 1) (x2 + 1)))
def f_Gr_allLive (F : Nat → Int32) (A : Nat → Nat → Int32) : Int32 := f_Gr_allLive_L4 F A 64 0 1
set_option maxHeartbeats 4000000 in
set_option maxRecDepth 100000 in
theorem c_Gr_allLive (l : Launch) (dC : Nat → ClassId) (dI : Nat → Nat → Nat) (r : Nat → Nat) (k : Nat → ClassId) (F : Nat → Int32) (A : Nat → Nat → Int32) (hI : CI F) : Met l y_Gr_allLive w_Gr_allLive ({ frames := 1, cells := 0, slots := 0, locals := 21 }) (va_Pc [.ref (r 2)] (RO (dC, dI) (wC r k F A) (tC k))) (vp_Si (fun v => v = f_Gr_allLive F A)) 0 0 (fun _ => False) := by
  refine Met.ofW (cc := b_Gr_allLive) (maxL := 3) (ret := (some .int)) (by decide) rfl ?_
  intro p e s m args below meth c s₁ B hml hv0
  obtain ⟨rfl, hP, hK⟩ := hv0
  have hx := B.exec
  have hb := B.bytes
  have hr := B.returns
  have hts := atoms_spec (ws := w_Gr_allLive) B.pre
  have hW : ∀ w ∈ WALL, w.before ([.ref (r 2)] : List Value).toArray s = true := fun w h => hts w (List.mem_cons_of_mem _ h)
  have hown : s.vm.findClass R_Gr = some m.cls := findClass_of_methodNamed B.named
  have hlocks := B.notSynchronized
  have hl := lv_entry ([.ref (r 2)]) (n := 3) (Nat.le_of_ble_eq_true rfl)
  rw [lg_entry_eq]
  generalize (lg_sl ([.ref (r 2)]) ++ List.replicate (3 - (lg_sl ([.ref (r 2)])).length) Slot.unset).toArray = ls at hl ⊢
  have hl : lv_has ls 3 [(0, .ref (r 2))] := hl
  obtain ⟨⟨hp0, hp1⟩, ⟨hr0, hr1⟩, hg0, hg1⟩ := id hI; have hr2 : (F 2).toInt ≤ 60 := Int.le_trans hr1 (by decide)
  have hv := f_Gr_allLive.eq_1 F A
  refine lv_iconst (v := 0) hx hb d_Gr_allLive_0 (by decide) ?_
  refine lv_istore_n (lv' := [(1, .int 0), (0, .ref (r 2))]) hx hb d_Gr_allLive_1 rfl hl (by decide) rfl (fun ls hl => ?_)
  refine lv_iconst (v := 1) hx hb d_Gr_allLive_2 (by decide) ?_
  refine lv_istore_n (lv' := [(2, .int 1), (1, .int 0), (0, .ref (r 2))]) hx hb d_Gr_allLive_3 rfl hl (by decide) rfl (fun ls hl => ?_)
  have loop4 : ∀ (n4 : Nat) (x1 : Int32) (x2 : Int32) (ls : Array Slot), LA (F 3) x2 n4 → f_Gr_allLive F A = f_Gr_allLive_L4 F A n4 x1 x2 → lv_has ls 3 [(0, .ref (r 2)), (1, .int x1), (2, .int x2)] → W p l e (headSpec w_Gr_allLive ({ frames := 1, cells := 0, slots := 0, locals := 21 })).room s m ([.ref (r 2)] : List Value).toArray below meth c s.heap [] 0 0 (MQ below (vp_Si (fun v => v = f_Gr_allLive F A)) ([.ref (r 2)] : List Value).toArray s 0 0 (fun _ => False)) (F0 m 4 ls []) := by
    intro n4
    induction n4 with
    | zero => intro x1 x2 ls hlp; exact (hlp.z).elim
    | succ n4 ih4 =>
      intro x1 x2 ls hlp4 hv hl
      rw [f_Gr_allLive_L4] at hv
      refine lv_iload_n hx hb d_Gr_allLive_4 rfl (lv_at hl 2 rfl) ?_
      refine lv_aload_n hx hb d_Gr_allLive_5 rfl (lv_at hl 0 rfl) ?_
      refine va_get (D := (dC, dI)) (ci := 2) (v := .int (F 3)) (C := R_Gr) (T := F_Gr) (N := 7) hx hb hW i_Gr hown hK hP 2 rfl rfl 0 (by decide) (hW _ k_74) (fun _ h9 => h9) rfl d_Gr_allLive_6 ?_
      refine lv_icmp_gt (tgt := 29) hx hb d_Gr_allLive_9 (by decide) (fun c_1 => ?_) (fun c_1 => ?_)
      · have hv := hv.trans (if_pos c_1)
        refine lv_iload_n hx hb d_Gr_allLive_29 rfl (lv_at hl 1 rfl) ?_
        exact W.iret (v := x1) hx hb hr (fun t ht hW9 => ⟨x1, rfl, hv.symm, ht⟩) (fun q hq => nomatch hq) d_Gr_allLive_30
      · have hv := hv.trans (if_neg c_1)
        refine lv_aload_n hx hb d_Gr_allLive_12 rfl (lv_at hl 0 rfl) ?_
        refine lv_iload_n hx hb d_Gr_allLive_13 rfl (lv_at hl 2 rfl) ?_
        refine rdV ⟨hx, hb, hml, hown, hW⟩ (c_Gr_isLive l dC dI r k F A x2 hI (LA.ix hlp4 c_1 hg1)) (cwV 1 hW (gIn k_49 k_50 k_51 k_52 k_53) rfl rfl rfl (by decide +kernel) ⟨Nat.le_of_ble_eq_true rfl, Nat.le_of_ble_eq_true rfl⟩) hK hP (va_recv hK hP (ci := 2) (q0 := 2) rfl rfl) rfl hl.1 rfl (Nat.le_of_ble_eq_true rfl) d_Gr_allLive_14 ⟨Nat.zero_le _, Nat.zero_le _⟩ ?_
        refine lv_if_eq (tgt := 23) hx hb d_Gr_allLive_17 (by decide) (fun c_2 => ?_) (fun c_2 => ?_)
        · have hv := hv.trans (if_pos c_2)
          refine lv_iinc (v := x2 + 1) (lv' := [(2, .int (x2 + 1)), (0, .ref (r 2)), (1, .int x1)]) hx hb d_Gr_allLive_23 hl (k := 2) rfl rfl (by decide) rfl (fun ls hl => ?_)
          refine lv_goto (tgt := 4) hx hb d_Gr_allLive_26 (by decide) ?_
          exact ih4 x1 (x2 + 1) ls (LA.s hlp4 c_1 hg1) hv (lv_sub hl [1, 2, 0] rfl)
        · have hv := hv.trans (if_neg c_2)
          refine lv_iinc (v := x1 + 1) (lv' := [(1, .int (x1 + 1)), (0, .ref (r 2)), (2, .int x2)]) hx hb d_Gr_allLive_20 hl (k := 1) rfl rfl (by decide) rfl (fun ls hl => ?_)
          refine lv_iinc (v := x2 + 1) (lv' := [(2, .int (x2 + 1)), (1, .int (x1 + 1)), (0, .ref (r 2))]) hx hb d_Gr_allLive_23 hl (k := 2) rfl rfl (by decide) rfl (fun ls hl => ?_)
          refine lv_goto (tgt := 4) hx hb d_Gr_allLive_26 (by decide) ?_
          exact ih4 (x1 + 1) (x2 + 1) ls (LA.s hlp4 c_1 hg1) hv (lv_sub hl [2, 1, 0] rfl)
  exact loop4 64 0 1 ls (LA.i hg0 hg1) hv (lv_sub hl [2, 1, 0] rfl)
def f_Rb_allWaiting_L4 (F : Nat → Int32) (A : Nat → Nat → Int32) : Nat → Int32 → Int32 → Int32
  | 0, _, _ => 0
  | n4 + 1, x1, x2 => if F 2 ≤ x2 then x1 else (if A 5 x2.toNatClampNeg = (-1) then (f_Rb_allWaiting_L4 F A n4 x1 (x2 + 1)) else (f_Rb_allWaiting_L4 F A n4 (x1 + 1) (x2 + 1)))
def f_Rb_allWaiting (F : Nat → Int32) (A : Nat → Nat → Int32) : Int32 := f_Rb_allWaiting_L4 F A 64 0 0
set_option maxHeartbeats 4000000 in
set_option maxRecDepth 100000 in
theorem c_Rb_allWaiting (l : Launch) (dC : Nat → ClassId) (dI : Nat → Nat → Nat) (r : Nat → Nat) (k : Nat → ClassId) (F : Nat → Int32) (A : Nat → Nat → Int32) (hI : CI F) : Met l y_Rb_allWaiting w_Rb_allWaiting ({ frames := 0, cells := 0, slots := 0, locals := 0 }) (va_Pc [.ref (r 1)] (RO (dC, dI) (wC r k F A) (tC k))) (vp_Si (fun v => v = f_Rb_allWaiting F A)) 0 0 (fun _ => False) := by
  refine Met.ofW (cc := b_Rb_allWaiting) (maxL := 3) (ret := (some .int)) (by decide) rfl ?_
  intro p e s m args below meth c s₁ B hml hv0
  obtain ⟨rfl, hP, hK⟩ := hv0
  have hx := B.exec
  have hb := B.bytes
  have hr := B.returns
  have hts := atoms_spec (ws := w_Rb_allWaiting) B.pre
  have hW : ∀ w ∈ WALL, w.before ([.ref (r 1)] : List Value).toArray s = true := fun w h => hts w (List.mem_cons_of_mem _ h)
  have hown : s.vm.findClass R_Rb = some m.cls := findClass_of_methodNamed B.named
  have hlocks := B.notSynchronized
  have hl := lv_entry ([.ref (r 1)]) (n := 3) (Nat.le_of_ble_eq_true rfl)
  rw [lg_entry_eq]
  generalize (lg_sl ([.ref (r 1)]) ++ List.replicate (3 - (lg_sl ([.ref (r 1)])).length) Slot.unset).toArray = ls at hl ⊢
  have hl : lv_has ls 3 [(0, .ref (r 1))] := hl
  obtain ⟨⟨hp0, hp1⟩, ⟨hr0, hr1⟩, hg0, hg1⟩ := id hI; have hr2 : (F 2).toInt ≤ 60 := Int.le_trans hr1 (by decide)
  have hv := f_Rb_allWaiting.eq_1 F A
  refine lv_iconst (v := 0) hx hb d_Rb_allWaiting_0 (by decide) ?_
  refine lv_istore_n (lv' := [(1, .int 0), (0, .ref (r 1))]) hx hb d_Rb_allWaiting_1 rfl hl (by decide) rfl (fun ls hl => ?_)
  refine lv_iconst (v := 0) hx hb d_Rb_allWaiting_2 (by decide) ?_
  refine lv_istore_n (lv' := [(2, .int 0), (1, .int 0), (0, .ref (r 1))]) hx hb d_Rb_allWaiting_3 rfl hl (by decide) rfl (fun ls hl => ?_)
  have loop4 : ∀ (n4 : Nat) (x1 : Int32) (x2 : Int32) (ls : Array Slot), LB (F 2) x2 n4 → f_Rb_allWaiting F A = f_Rb_allWaiting_L4 F A n4 x1 x2 → lv_has ls 3 [(0, .ref (r 1)), (1, .int x1), (2, .int x2)] → W p l e (headSpec w_Rb_allWaiting ({ frames := 0, cells := 0, slots := 0, locals := 0 })).room s m ([.ref (r 1)] : List Value).toArray below meth c s.heap [] 0 0 (MQ below (vp_Si (fun v => v = f_Rb_allWaiting F A)) ([.ref (r 1)] : List Value).toArray s 0 0 (fun _ => False)) (F0 m 4 ls []) := by
    intro n4
    induction n4 with
    | zero => intro x1 x2 ls hlp; exact (hlp.z).elim
    | succ n4 ih4 =>
      intro x1 x2 ls hlp4 hv hl
      rw [f_Rb_allWaiting_L4] at hv
      refine lv_iload_n hx hb d_Rb_allWaiting_4 rfl (lv_at hl 2 rfl) ?_
      refine lv_aload_n hx hb d_Rb_allWaiting_5 rfl (lv_at hl 0 rfl) ?_
      refine va_get (D := (dC, dI)) (ci := 1) (v := .int (F 2)) (C := R_Rb) (T := F_Rb) (N := 7) hx hb hW i_Rb hown hK hP 1 rfl rfl 0 (by decide) (hW _ k_22) (fun _ h9 => h9) rfl d_Rb_allWaiting_6 ?_
      refine lv_icmp_ge (tgt := 31) hx hb d_Rb_allWaiting_9 (by decide) (fun c_1 => ?_) (fun c_1 => ?_)
      · have hv := hv.trans (if_pos c_1)
        refine lv_iload_n hx hb d_Rb_allWaiting_31 rfl (lv_at hl 1 rfl) ?_
        exact W.iret (v := x1) hx hb hr (fun t ht hW9 => ⟨x1, rfl, hv.symm, ht⟩) (fun q hq => nomatch hq) d_Rb_allWaiting_32
      · have hv := hv.trans (if_neg c_1)
        refine lv_aload_n hx hb d_Rb_allWaiting_12 rfl (lv_at hl 0 rfl) ?_
        refine va_get (D := (dC, dI)) (ci := 1) (v := .ref (r 8)) (C := R_Rb) (T := F_Rb) (N := 7) hx hb hW i_Rb hown hK hP 1 rfl rfl 4 (by decide) (hW _ k_26) (fun _ h9 => h9) rfl d_Rb_allWaiting_13 ?_
        refine lv_iload_n hx hb d_Rb_allWaiting_16 rfl (lv_at hl 2 rfl) ?_
        refine va_iald hx hb hK hP 8 5 rfl rfl (LB.ix hlp4 c_1 hr1) d_Rb_allWaiting_17 ?_
        refine lv_iconst (v := (-1)) hx hb d_Rb_allWaiting_18 (by decide) ?_
        refine lv_icmp_eq (tgt := 25) hx hb d_Rb_allWaiting_19 (by decide) (fun c_2 => ?_) (fun c_2 => ?_)
        · have hv := hv.trans (if_pos c_2)
          refine lv_iinc (v := x2 + 1) (lv' := [(2, .int (x2 + 1)), (0, .ref (r 1)), (1, .int x1)]) hx hb d_Rb_allWaiting_25 hl (k := 2) rfl rfl (by decide) rfl (fun ls hl => ?_)
          refine lv_goto (tgt := 4) hx hb d_Rb_allWaiting_28 (by decide) ?_
          exact ih4 x1 (x2 + 1) ls (LB.s hlp4 c_1 hr2) hv (lv_sub hl [1, 2, 0] rfl)
        · have hv := hv.trans (if_neg c_2)
          refine lv_iinc (v := x1 + 1) (lv' := [(1, .int (x1 + 1)), (0, .ref (r 1)), (2, .int x2)]) hx hb d_Rb_allWaiting_22 hl (k := 1) rfl rfl (by decide) rfl (fun ls hl => ?_)
          refine lv_iinc (v := x2 + 1) (lv' := [(2, .int (x2 + 1)), (1, .int (x1 + 1)), (0, .ref (r 1))]) hx hb d_Rb_allWaiting_25 hl (k := 2) rfl rfl (by decide) rfl (fun ls hl => ?_)
          refine lv_goto (tgt := 4) hx hb d_Rb_allWaiting_28 (by decide) ?_
          exact ih4 (x1 + 1) (x2 + 1) ls (LB.s hlp4 c_1 hr2) hv (lv_sub hl [2, 1, 0] rfl)
  exact loop4 64 0 0 ls (LB.i hr0 hr2) hv (lv_sub hl [2, 1, 0] rfl)
def f_Gr_livePairsMeeting_L16 (F : Nat → Int32) (A : Nat → Nat → Int32) (x2 : Int32) (K : Int32 → Int32 → Int32) : Nat → Int32 → Int32 → Int32
  | 0, _, _ => 0
  | n16 + 1, x1, x3 => if F 3 < x3 then (K x1 x3) else (if f_Gr_isLive F A x2 = 0 then (f_Gr_livePairsMeeting_L16 F A x2 K n16 x1 (x3 + 1)) else (if f_Gr_isLive F A x3 = 0 then (f_Gr_livePairsMeeting_L16 F A x2 K n16 x1 (x3 + 1)) else (if f_Gr_areMeeting F A x2 x3 = 0 then (f_Gr_livePairsMeeting_L16 F A x2 K n16 x1 (x3 + 1)) else (f_Gr_livePairsMeeting_L16 F A x2 K n16 (x1 + 1) (x3 + 1)))))
def f_Gr_livePairsMeeting_L4 (F : Nat → Int32) (A : Nat → Nat → Int32) : Nat → Int32 → Int32 → Int32
  | 0, _, _ => 0
  | n4 + 1, x1, x2 => if F 3 < x2 then x1 else (f_Gr_livePairsMeeting_L16 F A x2 (fun x1 x3 => f_Gr_livePairsMeeting_L4 F A n4 x1 (x2 + 1)) 64 x1 (x2 + 1))
def f_Gr_livePairsMeeting (F : Nat → Int32) (A : Nat → Nat → Int32) : Int32 := f_Gr_livePairsMeeting_L4 F A 64 0 1
set_option maxHeartbeats 4000000 in
set_option maxRecDepth 100000 in
theorem c_Gr_livePairsMeeting (l : Launch) (dC : Nat → ClassId) (dI : Nat → Nat → Nat) (r : Nat → Nat) (k : Nat → ClassId) (F : Nat → Int32) (A : Nat → Nat → Int32) (hI : CI F) : Met l y_Gr_livePairsMeeting w_Gr_livePairsMeeting ({ frames := 2, cells := 0, slots := 0, locals := 45 }) (va_Pc [.ref (r 2)] (RO (dC, dI) (wC r k F A) (tC k))) (vp_Si (fun v => v = f_Gr_livePairsMeeting F A)) 0 0 (fun _ => False) := by
  refine Met.ofW (cc := b_Gr_livePairsMeeting) (maxL := 4) (ret := (some .int)) (by decide) rfl ?_
  intro p e s m args below meth c s₁ B hml hv0
  obtain ⟨rfl, hP, hK⟩ := hv0
  have hx := B.exec
  have hb := B.bytes
  have hr := B.returns
  have hts := atoms_spec (ws := w_Gr_livePairsMeeting) B.pre
  have hW : ∀ w ∈ WALL, w.before ([.ref (r 2)] : List Value).toArray s = true := fun w h => hts w (List.mem_cons_of_mem _ h)
  have hown : s.vm.findClass R_Gr = some m.cls := findClass_of_methodNamed B.named
  have hlocks := B.notSynchronized
  have hl := lv_entry ([.ref (r 2)]) (n := 4) (Nat.le_of_ble_eq_true rfl)
  rw [lg_entry_eq]
  generalize (lg_sl ([.ref (r 2)]) ++ List.replicate (4 - (lg_sl ([.ref (r 2)])).length) Slot.unset).toArray = ls at hl ⊢
  have hl : lv_has ls 4 [(0, .ref (r 2))] := hl
  obtain ⟨⟨hp0, hp1⟩, ⟨hr0, hr1⟩, hg0, hg1⟩ := id hI; have hr2 : (F 2).toInt ≤ 60 := Int.le_trans hr1 (by decide)
  have hv := f_Gr_livePairsMeeting.eq_1 F A
  refine lv_iconst (v := 0) hx hb d_Gr_livePairsMeeting_0 (by decide) ?_
  refine lv_istore_n (lv' := [(1, .int 0), (0, .ref (r 2))]) hx hb d_Gr_livePairsMeeting_1 rfl hl (by decide) rfl (fun ls hl => ?_)
  refine lv_iconst (v := 1) hx hb d_Gr_livePairsMeeting_2 (by decide) ?_
  refine lv_istore_n (lv' := [(2, .int 1), (1, .int 0), (0, .ref (r 2))]) hx hb d_Gr_livePairsMeeting_3 rfl hl (by decide) rfl (fun ls hl => ?_)
  have loop4 : ∀ (n4 : Nat) (x1 : Int32) (x2 : Int32) (ls : Array Slot), LA (F 3) x2 n4 → f_Gr_livePairsMeeting F A = f_Gr_livePairsMeeting_L4 F A n4 x1 x2 → lv_has ls 4 [(0, .ref (r 2)), (1, .int x1), (2, .int x2)] → W p l e (headSpec w_Gr_livePairsMeeting ({ frames := 2, cells := 0, slots := 0, locals := 45 })).room s m ([.ref (r 2)] : List Value).toArray below meth c s.heap [] 0 0 (MQ below (vp_Si (fun v => v = f_Gr_livePairsMeeting F A)) ([.ref (r 2)] : List Value).toArray s 0 0 (fun _ => False)) (F0 m 4 ls []) := by
    intro n4
    induction n4 with
    | zero => intro x1 x2 ls hlp; exact (hlp.z).elim
    | succ n4 ih4 =>
      intro x1 x2 ls hlp4 hv hl
      rw [f_Gr_livePairsMeeting_L4] at hv
      refine lv_iload_n hx hb d_Gr_livePairsMeeting_4 rfl (lv_at hl 2 rfl) ?_
      refine lv_aload_n hx hb d_Gr_livePairsMeeting_5 rfl (lv_at hl 0 rfl) ?_
      refine va_get (D := (dC, dI)) (ci := 2) (v := .int (F 3)) (C := R_Gr) (T := F_Gr) (N := 7) hx hb hW i_Gr hown hK hP 2 rfl rfl 0 (by decide) (hW _ k_74) (fun _ h9 => h9) rfl d_Gr_livePairsMeeting_6 ?_
      refine lv_icmp_gt (tgt := 64) hx hb d_Gr_livePairsMeeting_9 (by decide) (fun c_1 => ?_) (fun c_1 => ?_)
      · have hv := hv.trans (if_pos c_1)
        refine lv_iload_n hx hb d_Gr_livePairsMeeting_64 rfl (lv_at hl 1 rfl) ?_
        exact W.iret (v := x1) hx hb hr (fun t ht hW9 => ⟨x1, rfl, hv.symm, ht⟩) (fun q hq => nomatch hq) d_Gr_livePairsMeeting_65
      · have hv := hv.trans (if_neg c_1)
        refine lv_iload_n hx hb d_Gr_livePairsMeeting_12 rfl (lv_at hl 2 rfl) ?_
        refine lv_iconst (v := 1) hx hb d_Gr_livePairsMeeting_13 (by decide) ?_
        refine lv_iadd hx hb d_Gr_livePairsMeeting_14 ?_
        refine lv_istore_n (lv' := [(3, .int (x2 + 1)), (0, .ref (r 2)), (1, .int x1), (2, .int x2)]) hx hb d_Gr_livePairsMeeting_15 rfl hl (by decide) rfl (fun ls hl => ?_)
        have loop16 : ∀ (n16 : Nat) (x1 : Int32) (x3 : Int32) (ls : Array Slot), LA (F 3) x3 n16 → f_Gr_livePairsMeeting F A = f_Gr_livePairsMeeting_L16 F A x2 (fun x1 x3 => f_Gr_livePairsMeeting_L4 F A n4 x1 (x2 + 1)) n16 x1 x3 → lv_has ls 4 [(0, .ref (r 2)), (1, .int x1), (2, .int x2), (3, .int x3)] → W p l e (headSpec w_Gr_livePairsMeeting ({ frames := 2, cells := 0, slots := 0, locals := 45 })).room s m ([.ref (r 2)] : List Value).toArray below meth c s.heap [] 0 0 (MQ below (vp_Si (fun v => v = f_Gr_livePairsMeeting F A)) ([.ref (r 2)] : List Value).toArray s 0 0 (fun _ => False)) (F0 m 16 ls []) := by
          intro n16
          induction n16 with
          | zero => intro x1 x3 ls hlp; exact (hlp.z).elim
          | succ n16 ih16 =>
            intro x1 x3 ls hlp16 hv hl
            rw [f_Gr_livePairsMeeting_L16] at hv
            refine lv_iload_n hx hb d_Gr_livePairsMeeting_16 rfl (lv_at hl 3 rfl) ?_
            refine lv_aload_n hx hb d_Gr_livePairsMeeting_17 rfl (lv_at hl 0 rfl) ?_
            refine va_get (D := (dC, dI)) (ci := 2) (v := .int (F 3)) (C := R_Gr) (T := F_Gr) (N := 7) hx hb hW i_Gr hown hK hP 2 rfl rfl 0 (by decide) (hW _ k_74) (fun _ h9 => h9) rfl d_Gr_livePairsMeeting_18 ?_
            refine lv_icmp_gt (tgt := 58) hx hb d_Gr_livePairsMeeting_21 (by decide) (fun c_2 => ?_) (fun c_2 => ?_)
            · have hv := hv.trans (if_pos c_2)
              try dsimp only at hv
              refine lv_iinc (v := x2 + 1) (lv' := [(2, .int (x2 + 1)), (0, .ref (r 2)), (1, .int x1), (3, .int x3)]) hx hb d_Gr_livePairsMeeting_58 hl (k := 2) rfl rfl (by decide) rfl (fun ls hl => ?_)
              refine lv_goto (tgt := 4) hx hb d_Gr_livePairsMeeting_61 (by decide) ?_
              exact ih4 x1 (x2 + 1) ls (LA.s hlp4 c_1 hg1) hv (lv_sub hl [1, 2, 0] rfl)
            · have hv := hv.trans (if_neg c_2)
              refine lv_aload_n hx hb d_Gr_livePairsMeeting_24 rfl (lv_at hl 0 rfl) ?_
              refine lv_iload_n hx hb d_Gr_livePairsMeeting_25 rfl (lv_at hl 2 rfl) ?_
              refine rdV ⟨hx, hb, hml, hown, hW⟩ (c_Gr_isLive l dC dI r k F A x2 hI (LA.ix hlp4 c_1 hg1)) (cwV 1 hW (gIn k_49 k_50 k_51 k_52 k_53) rfl rfl rfl (by decide +kernel) ⟨Nat.le_of_ble_eq_true rfl, Nat.le_of_ble_eq_true rfl⟩) hK hP (va_recv hK hP (ci := 2) (q0 := 2) rfl rfl) rfl hl.1 rfl (Nat.le_of_ble_eq_true rfl) d_Gr_livePairsMeeting_26 ⟨Nat.zero_le _, Nat.zero_le _⟩ ?_
              refine lv_if_eq (tgt := 52) hx hb d_Gr_livePairsMeeting_29 (by decide) (fun c_3 => ?_) (fun c_3 => ?_)
              · have hv := hv.trans (if_pos c_3)
                refine lv_iinc (v := x3 + 1) (lv' := [(3, .int (x3 + 1)), (0, .ref (r 2)), (1, .int x1), (2, .int x2)]) hx hb d_Gr_livePairsMeeting_52 hl (k := 3) rfl rfl (by decide) rfl (fun ls hl => ?_)
                refine lv_goto (tgt := 16) hx hb d_Gr_livePairsMeeting_55 (by decide) ?_
                exact ih16 x1 (x3 + 1) ls (LA.s hlp16 c_2 hg1) hv (lv_sub hl [1, 2, 3, 0] rfl)
              · have hv := hv.trans (if_neg c_3)
                refine lv_aload_n hx hb d_Gr_livePairsMeeting_32 rfl (lv_at hl 0 rfl) ?_
                refine lv_iload_n hx hb d_Gr_livePairsMeeting_33 rfl (lv_at hl 3 rfl) ?_
                refine rdV ⟨hx, hb, hml, hown, hW⟩ (c_Gr_isLive l dC dI r k F A x3 hI (LA.ix hlp16 c_2 hg1)) (cwV 1 hW (gIn k_49 k_50 k_51 k_52 k_53) rfl rfl rfl (by decide +kernel) ⟨Nat.le_of_ble_eq_true rfl, Nat.le_of_ble_eq_true rfl⟩) hK hP (va_recv hK hP (ci := 2) (q0 := 2) rfl rfl) rfl hl.1 rfl (Nat.le_of_ble_eq_true rfl) d_Gr_livePairsMeeting_34 ⟨Nat.zero_le _, Nat.zero_le _⟩ ?_
                refine lv_if_eq (tgt := 52) hx hb d_Gr_livePairsMeeting_37 (by decide) (fun c_4 => ?_) (fun c_4 => ?_)
                · have hv := hv.trans (if_pos c_4)
                  refine lv_iinc (v := x3 + 1) (lv' := [(3, .int (x3 + 1)), (0, .ref (r 2)), (1, .int x1), (2, .int x2)]) hx hb d_Gr_livePairsMeeting_52 hl (k := 3) rfl rfl (by decide) rfl (fun ls hl => ?_)
                  refine lv_goto (tgt := 16) hx hb d_Gr_livePairsMeeting_55 (by decide) ?_
                  exact ih16 x1 (x3 + 1) ls (LA.s hlp16 c_2 hg1) hv (lv_sub hl [1, 2, 3, 0] rfl)
                · have hv := hv.trans (if_neg c_4)
                  refine lv_aload_n hx hb d_Gr_livePairsMeeting_40 rfl (lv_at hl 0 rfl) ?_
                  refine lv_iload_n hx hb d_Gr_livePairsMeeting_41 rfl (lv_at hl 2 rfl) ?_
                  refine lv_iload_n hx hb d_Gr_livePairsMeeting_42 rfl (lv_at hl 3 rfl) ?_
                  refine rdV ⟨hx, hb, hml, hown, hW⟩ (c_Gr_areMeeting l dC dI r k F A x2 x3 hI (LA.ix hlp4 c_1 hg1) (LA.ix hlp16 c_2 hg1)) (cwV 2 hW (gIn k_176 k_126 k_127 k_52 k_128) rfl rfl rfl (by decide +kernel) ⟨Nat.le_of_ble_eq_true rfl, Nat.le_of_ble_eq_true rfl⟩) hK hP (va_recv hK hP (ci := 2) (q0 := 2) rfl rfl) rfl hl.1 rfl (Nat.le_of_ble_eq_true rfl) d_Gr_livePairsMeeting_43 ⟨Nat.zero_le _, Nat.zero_le _⟩ ?_
                  refine lv_if_eq (tgt := 52) hx hb d_Gr_livePairsMeeting_46 (by decide) (fun c_5 => ?_) (fun c_5 => ?_)
                  · have hv := hv.trans (if_pos c_5)
                    refine lv_iinc (v := x3 + 1) (lv' := [(3, .int (x3 + 1)), (0, .ref (r 2)), (1, .int x1), (2, .int x2)]) hx hb d_Gr_livePairsMeeting_52 hl (k := 3) rfl rfl (by decide) rfl (fun ls hl => ?_)
                    refine lv_goto (tgt := 16) hx hb d_Gr_livePairsMeeting_55 (by decide) ?_
                    exact ih16 x1 (x3 + 1) ls (LA.s hlp16 c_2 hg1) hv (lv_sub hl [1, 2, 3, 0] rfl)
                  · have hv := hv.trans (if_neg c_5)
                    refine lv_iinc (v := x1 + 1) (lv' := [(1, .int (x1 + 1)), (0, .ref (r 2)), (2, .int x2), (3, .int x3)]) hx hb d_Gr_livePairsMeeting_49 hl (k := 1) rfl rfl (by decide) rfl (fun ls hl => ?_)
                    refine lv_iinc (v := x3 + 1) (lv' := [(3, .int (x3 + 1)), (1, .int (x1 + 1)), (0, .ref (r 2)), (2, .int x2)]) hx hb d_Gr_livePairsMeeting_52 hl (k := 3) rfl rfl (by decide) rfl (fun ls hl => ?_)
                    refine lv_goto (tgt := 16) hx hb d_Gr_livePairsMeeting_55 (by decide) ?_
                    exact ih16 (x1 + 1) (x3 + 1) ls (LA.s hlp16 c_2 hg1) hv (lv_sub hl [2, 1, 3, 0] rfl)
        exact loop16 64 x1 (x2 + 1) ls (LA.j hlp4 c_1 hg1) hv (lv_sub hl [1, 2, 3, 0] rfl)
  exact loop4 64 0 1 ls (LA.i hg0 hg1) hv (lv_sub hl [2, 1, 0] rfl)
def f_RS_count (F : Nat → Int32) (A : Nat → Nat → Int32) (wh : Int32) : Int32 := if wh = 0 then (F 1) else (if wh = 1 then (F 2) else (if wh = 2 then (F 3) else (if wh = 3 then (f_Gr_allLive F A) else (if wh = 4 then (F 0) else (if wh = 5 then (f_Rb_allWaiting F A) else (if wh = 6 then (f_Gr_livePairsMeeting F A) else ((-1))))))))
set_option maxHeartbeats 4000000 in
set_option maxRecDepth 100000 in
theorem c_RS_count (l : Launch) (dC : Nat → ClassId) (dI : Nat → Nat → Nat) (r : Nat → Nat) (k : Nat → ClassId) (F : Nat → Int32) (A : Nat → Nat → Int32) (wh : Int32) (hI : CI F) : Met l y_RS_count w_RS_count ({ frames := 3, cells := 0, slots := 0, locals := 68 }) (va_Pc [.ref (r 0), .int wh] (RO (dC, dI) (wC r k F A) (tC k))) (vp_Si (fun v => v = f_RS_count F A wh)) 0 0 (fun _ => False) := by
  refine Met.ofW (cc := b_RS_count) (maxL := 2) (ret := (some .int)) (by decide) rfl ?_
  intro p e s m args below meth c s₁ B hml hv0
  obtain ⟨rfl, hP, hK⟩ := hv0
  have hx := B.exec
  have hb := B.bytes
  have hr := B.returns
  have hts := atoms_spec (ws := w_RS_count) B.pre
  have hW : ∀ w ∈ WALL, w.before ([.ref (r 0), .int wh] : List Value).toArray s = true := fun w h => hts w (List.mem_cons_of_mem _ h)
  have hown : s.vm.findClass R_RS = some m.cls := findClass_of_methodNamed B.named
  have hlocks := B.notSynchronized
  have hl := lv_entry ([.ref (r 0), .int wh]) (n := 2) (Nat.le_of_ble_eq_true rfl)
  rw [lg_entry_eq]
  generalize (lg_sl ([.ref (r 0), .int wh]) ++ List.replicate (2 - (lg_sl ([.ref (r 0), .int wh])).length) Slot.unset).toArray = ls at hl ⊢
  have hl : lv_has ls 2 [(0, .ref (r 0)), (1, .int wh)] := hl
  obtain ⟨⟨hp0, hp1⟩, ⟨hr0, hr1⟩, hg0, hg1⟩ := id hI; have hr2 : (F 2).toInt ≤ 60 := Int.le_trans hr1 (by decide)
  have hv := f_RS_count.eq_1 F A wh
  refine lv_iload_n hx hb d_RS_count_0 rfl (lv_at hl 1 rfl) ?_
  by_cases c_1 : wh = 0
  · have hv := hv.trans (if_pos c_1)
    refine lv_tableIn (off := 43) (tgt := 44) hx hb d_RS_count_1 (by rw [c_1]; decide) (by rw [c_1]; decide) (by rw [c_1]; rfl) (by decide) ?_
    refine lv_aload_n hx hb d_RS_count_44 rfl (lv_at hl 0 rfl) ?_
    refine va_get (D := (dC, dI)) (ci := 0) (v := .int (F 1)) (C := R_RS) (T := F_RS) (N := 6) hx hb hW i_RS hown hK hP 0 rfl rfl 1 (by decide) (hW _ k_0) (fun _ h9 => h9) rfl d_RS_count_45 ?_
    exact W.iret (v := F 1) hx hb hr (fun t ht hW9 => ⟨F 1, rfl, hv.symm, ht⟩) (fun q hq => nomatch hq) d_RS_count_48
  have hv := hv.trans (if_neg c_1)
  by_cases c_2 : wh = 1
  · have hv := hv.trans (if_pos c_2)
    refine lv_tableIn (off := 48) (tgt := 49) hx hb d_RS_count_1 (by rw [c_2]; decide) (by rw [c_2]; decide) (by rw [c_2]; rfl) (by decide) ?_
    refine lv_aload_n hx hb d_RS_count_49 rfl (lv_at hl 0 rfl) ?_
    refine va_get (D := (dC, dI)) (ci := 0) (v := .ref (r 1)) (C := R_RS) (T := F_RS) (N := 6) hx hb hW i_RS hown hK hP 0 rfl rfl 4 (by decide) (hW _ k_3) (fun _ h9 => h9) rfl d_RS_count_50 ?_
    refine va_get (D := (dC, dI)) (ci := 1) (v := .int (F 2)) (C := R_Rb) (T := F_Rb) (N := 7) hx hb hW i_Rb hown hK hP 1 rfl rfl 0 (by decide) (hW _ k_4) (fun _ h9 => h9) rfl d_RS_count_53 ?_
    exact W.iret (v := F 2) hx hb hr (fun t ht hW9 => ⟨F 2, rfl, hv.symm, ht⟩) (fun q hq => nomatch hq) d_RS_count_56
  have hv := hv.trans (if_neg c_2)
  by_cases c_3 : wh = 2
  · have hv := hv.trans (if_pos c_3)
    refine lv_tableIn (off := 56) (tgt := 57) hx hb d_RS_count_1 (by rw [c_3]; decide) (by rw [c_3]; decide) (by rw [c_3]; rfl) (by decide) ?_
    refine lv_aload_n hx hb d_RS_count_57 rfl (lv_at hl 0 rfl) ?_
    refine va_get (D := (dC, dI)) (ci := 0) (v := .ref (r 2)) (C := R_RS) (T := F_RS) (N := 6) hx hb hW i_RS hown hK hP 0 rfl rfl 5 (by decide) (hW _ k_5) (fun _ h9 => h9) rfl d_RS_count_58 ?_
    refine va_get (D := (dC, dI)) (ci := 2) (v := .int (F 3)) (C := R_Gr) (T := F_Gr) (N := 7) hx hb hW i_Gr hown hK hP 2 rfl rfl 0 (by decide) (hW _ k_6) (fun _ h9 => h9) rfl d_RS_count_61 ?_
    exact W.iret (v := F 3) hx hb hr (fun t ht hW9 => ⟨F 3, rfl, hv.symm, ht⟩) (fun q hq => nomatch hq) d_RS_count_64
  have hv := hv.trans (if_neg c_3)
  by_cases c_4 : wh = 3
  · have hv := hv.trans (if_pos c_4)
    refine lv_tableIn (off := 64) (tgt := 65) hx hb d_RS_count_1 (by rw [c_4]; decide) (by rw [c_4]; decide) (by rw [c_4]; rfl) (by decide) ?_
    refine lv_aload_n hx hb d_RS_count_65 rfl (lv_at hl 0 rfl) ?_
    refine va_get (D := (dC, dI)) (ci := 0) (v := .ref (r 2)) (C := R_RS) (T := F_RS) (N := 6) hx hb hW i_RS hown hK hP 0 rfl rfl 5 (by decide) (hW _ k_5) (fun _ h9 => h9) rfl d_RS_count_66 ?_
    refine rdV ⟨hx, hb, hml, hown, hW⟩ (c_Gr_allLive l dC dI r k F A  hI ) (cwV 0 hW (gIn k_177 k_178 k_179 k_52 k_180) rfl rfl rfl (by decide +kernel) ⟨Nat.le_of_ble_eq_true rfl, Nat.le_of_ble_eq_true rfl⟩) hK hP (va_recv hK hP (ci := 2) (q0 := 2) rfl rfl) rfl hl.1 rfl (Nat.le_of_ble_eq_true rfl) d_RS_count_69 ⟨Nat.zero_le _, Nat.zero_le _⟩ ?_
    exact W.iret (v := f_Gr_allLive F A) hx hb hr (fun t ht hW9 => ⟨f_Gr_allLive F A, rfl, hv.symm, ht⟩) (fun q hq => nomatch hq) d_RS_count_72
  have hv := hv.trans (if_neg c_4)
  by_cases c_5 : wh = 4
  · have hv := hv.trans (if_pos c_5)
    refine lv_tableIn (off := 72) (tgt := 73) hx hb d_RS_count_1 (by rw [c_5]; decide) (by rw [c_5]; decide) (by rw [c_5]; rfl) (by decide) ?_
    refine lv_aload_n hx hb d_RS_count_73 rfl (lv_at hl 0 rfl) ?_
    refine va_get (D := (dC, dI)) (ci := 0) (v := .int (F 0)) (C := R_RS) (T := F_RS) (N := 6) hx hb hW i_RS hown hK hP 0 rfl rfl 0 (by decide) (hW _ k_7) (fun _ h9 => h9) rfl d_RS_count_74 ?_
    exact W.iret (v := F 0) hx hb hr (fun t ht hW9 => ⟨F 0, rfl, hv.symm, ht⟩) (fun q hq => nomatch hq) d_RS_count_77
  have hv := hv.trans (if_neg c_5)
  by_cases c_6 : wh = 5
  · have hv := hv.trans (if_pos c_6)
    refine lv_tableIn (off := 77) (tgt := 78) hx hb d_RS_count_1 (by rw [c_6]; decide) (by rw [c_6]; decide) (by rw [c_6]; rfl) (by decide) ?_
    refine lv_aload_n hx hb d_RS_count_78 rfl (lv_at hl 0 rfl) ?_
    refine va_get (D := (dC, dI)) (ci := 0) (v := .ref (r 1)) (C := R_RS) (T := F_RS) (N := 6) hx hb hW i_RS hown hK hP 0 rfl rfl 4 (by decide) (hW _ k_3) (fun _ h9 => h9) rfl d_RS_count_79 ?_
    refine rdV ⟨hx, hb, hml, hown, hW⟩ (c_Rb_allWaiting l dC dI r k F A  hI ) (cwV 0 hW (gIn k_181 k_182 k_183 k_33 k_184) rfl rfl rfl (by decide +kernel) ⟨Nat.le_of_ble_eq_true rfl, Nat.le_of_ble_eq_true rfl⟩) hK hP (va_recv hK hP (ci := 1) (q0 := 1) rfl rfl) rfl hl.1 rfl (Nat.le_of_ble_eq_true rfl) d_RS_count_82 ⟨Nat.zero_le _, Nat.zero_le _⟩ ?_
    exact W.iret (v := f_Rb_allWaiting F A) hx hb hr (fun t ht hW9 => ⟨f_Rb_allWaiting F A, rfl, hv.symm, ht⟩) (fun q hq => nomatch hq) d_RS_count_85
  have hv := hv.trans (if_neg c_6)
  by_cases c_7 : wh = 6
  · have hv := hv.trans (if_pos c_7)
    refine lv_tableIn (off := 85) (tgt := 86) hx hb d_RS_count_1 (by rw [c_7]; decide) (by rw [c_7]; decide) (by rw [c_7]; rfl) (by decide) ?_
    refine lv_aload_n hx hb d_RS_count_86 rfl (lv_at hl 0 rfl) ?_
    refine va_get (D := (dC, dI)) (ci := 0) (v := .ref (r 2)) (C := R_RS) (T := F_RS) (N := 6) hx hb hW i_RS hown hK hP 0 rfl rfl 5 (by decide) (hW _ k_5) (fun _ h9 => h9) rfl d_RS_count_87 ?_
    refine rdV ⟨hx, hb, hml, hown, hW⟩ (c_Gr_livePairsMeeting l dC dI r k F A  hI ) (cwV 0 hW (gIn k_185 k_186 k_187 k_52 k_188) rfl rfl rfl (by decide +kernel) ⟨Nat.le_of_ble_eq_true rfl, Nat.le_of_ble_eq_true rfl⟩) hK hP (va_recv hK hP (ci := 2) (q0 := 2) rfl rfl) rfl hl.1 rfl (Nat.le_of_ble_eq_true rfl) d_RS_count_90 ⟨Nat.zero_le _, Nat.zero_le _⟩ ?_
    exact W.iret (v := f_Gr_livePairsMeeting F A) hx hb hr (fun t ht hW9 => ⟨f_Gr_livePairsMeeting F A, rfl, hv.symm, ht⟩) (fun q hq => nomatch hq) d_RS_count_93
  have hv := hv.trans (if_neg c_7)
  refine lv_tableOut (tgt := 94) hx hb d_RS_count_1 (tsw7 c_1 c_2 c_3 c_4 c_5 c_6 c_7) (by decide) ?_
  refine lv_iconst (v := (-1)) hx hb d_RS_count_94 (by decide) ?_
  exact W.iret (v := (-1)) hx hb hr (fun t ht hW9 => ⟨(-1), rfl, hv.symm, ht⟩) (fun q hq => nomatch hq) d_RS_count_95
