def f_Gr_areMeeting (F : Nat → Int32) (A : Nat → Nat → Int32) (gr oth : Int32) : Int32 := if A 9 gr.toNatClampNeg = A 9 oth.toNatClampNeg then (if f_Gr_sharesTime F A gr (A 10 oth.toNatClampNeg) (A 11 oth.toNatClampNeg) = 0 then 0 else 1) else 0
set_option maxHeartbeats 4000000 in
set_option maxRecDepth 100000 in
theorem c_Gr_areMeeting (l : Launch) (dC : Nat → ClassId) (dI : Nat → Nat → Nat) (r : Nat → Nat) (k : Nat → ClassId) (F : Nat → Int32) (A : Nat → Nat → Int32) (gr oth : Int32) (hI : CI F) (h_gr : vp_in gr 61) (h_oth : vp_in oth 61) : Met l y_Gr_areMeeting w_Gr_areMeeting ({ frames := 1, cells := 0, slots := 0, locals := 23 }) (va_Pc [.ref (r 2), .int gr, .int oth] (RO (dC, dI) (wC r k F A) (tC k))) (vp_Si (fun v => v = f_Gr_areMeeting F A gr oth)) 0 0 (fun _ => False) := by
  refine Met.ofW (cc := b_Gr_areMeeting) (maxL := 3) (ret := (some .boolean)) (by decide) rfl ?_
  intro p e s m args below meth c s₁ B hml hv0
  obtain ⟨rfl, hP, hK⟩ := hv0
  have hx := B.exec
  have hb := B.bytes
  have hr := B.returns
  have hts := atoms_spec (ws := w_Gr_areMeeting) B.pre
  have hW : ∀ w ∈ WALL, w.before ([.ref (r 2), .int gr, .int oth] : List Value).toArray s = true := fun w h => hts w (List.mem_cons_of_mem _ h)
  have hown : s.vm.findClass R_Gr = some m.cls := findClass_of_methodNamed B.named
  have hlocks := B.notSynchronized
  have hl := lv_entry ([.ref (r 2), .int gr, .int oth]) (n := 3) (Nat.le_of_ble_eq_true rfl)
  rw [lg_entry_eq]
  generalize (lg_sl ([.ref (r 2), .int gr, .int oth]) ++ List.replicate (3 - (lg_sl ([.ref (r 2), .int gr, .int oth])).length) Slot.unset).toArray = ls at hl ⊢
  have hl : lv_has ls 3 [(0, .ref (r 2)), (1, .int gr), (2, .int oth)] := hl
  obtain ⟨⟨hp0, hp1⟩, ⟨hr0, hr1⟩, hg0, hg1⟩ := id hI; have hr2 : (F 2).toInt ≤ 60 := Int.le_trans hr1 (by decide)
  have hv := f_Gr_areMeeting.eq_1 F A gr oth
  refine lv_aload_n hx hb d_Gr_areMeeting_0 rfl (lv_at hl 0 rfl) ?_
  refine va_get (D := (dC, dI)) (ci := 2) (v := .ref (r 12)) (C := R_Gr) (T := F_Gr) (N := 7) hx hb hW i_Gr hown hK hP 2 rfl rfl 2 (by decide) (hW _ k_54) (fun _ h9 => h9) rfl d_Gr_areMeeting_1 ?_
  refine lv_iload_n hx hb d_Gr_areMeeting_4 rfl (lv_at hl 1 rfl) ?_
  refine va_iald hx hb hK hP 12 9 rfl rfl h_gr d_Gr_areMeeting_5 ?_
  refine lv_aload_n hx hb d_Gr_areMeeting_6 rfl (lv_at hl 0 rfl) ?_
  refine va_get (D := (dC, dI)) (ci := 2) (v := .ref (r 12)) (C := R_Gr) (T := F_Gr) (N := 7) hx hb hW i_Gr hown hK hP 2 rfl rfl 2 (by decide) (hW _ k_54) (fun _ h9 => h9) rfl d_Gr_areMeeting_7 ?_
  refine lv_iload_n hx hb d_Gr_areMeeting_10 rfl (lv_at hl 2 rfl) ?_
  refine va_iald hx hb hK hP 12 9 rfl rfl h_oth d_Gr_areMeeting_11 ?_
  refine lv_icmp_ne (tgt := 39) hx hb d_Gr_areMeeting_12 (by decide) (fun c_1 => ?_) (fun c_1 => ?_)
  · have hv := hv.trans (if_neg c_1)
    refine lv_iconst (v := 0) hx hb d_Gr_areMeeting_39 (by decide) ?_
    exact W.zret (v := 0) (ty := .boolean) hx hb hr rfl (fun t ht hW9 => ⟨0, rfl, hv.symm, ht⟩) (fun q hq => nomatch hq) d_Gr_areMeeting_40
  · have hv := hv.trans (if_pos c_1)
    refine lv_aload_n hx hb d_Gr_areMeeting_15 rfl (lv_at hl 0 rfl) ?_
    refine lv_iload_n hx hb d_Gr_areMeeting_16 rfl (lv_at hl 1 rfl) ?_
    refine lv_aload_n hx hb d_Gr_areMeeting_17 rfl (lv_at hl 0 rfl) ?_
    refine va_get (D := (dC, dI)) (ci := 2) (v := .ref (r 13)) (C := R_Gr) (T := F_Gr) (N := 7) hx hb hW i_Gr hown hK hP 2 rfl rfl 3 (by decide) (hW _ k_47) (fun _ h9 => h9) rfl d_Gr_areMeeting_18 ?_
    refine lv_iload_n hx hb d_Gr_areMeeting_21 rfl (lv_at hl 2 rfl) ?_
    refine va_iald hx hb hK hP 13 10 rfl rfl h_oth d_Gr_areMeeting_22 ?_
    refine lv_aload_n hx hb d_Gr_areMeeting_23 rfl (lv_at hl 0 rfl) ?_
    refine va_get (D := (dC, dI)) (ci := 2) (v := .ref (r 14)) (C := R_Gr) (T := F_Gr) (N := 7) hx hb hW i_Gr hown hK hP 2 rfl rfl 4 (by decide) (hW _ k_55) (fun _ h9 => h9) rfl d_Gr_areMeeting_24 ?_
    refine lv_iload_n hx hb d_Gr_areMeeting_27 rfl (lv_at hl 2 rfl) ?_
    refine va_iald hx hb hK hP 14 11 rfl rfl h_oth d_Gr_areMeeting_28 ?_
    refine rdV ⟨hx, hb, hml, hown, hW⟩ (c_Gr_sharesTime l dC dI r k F A gr (A 10 oth.toNatClampNeg) (A 11 oth.toNatClampNeg) hI h_gr) (cwV 3 hW (gIn k_61 k_62 k_63 k_52 k_64) rfl rfl rfl (by decide +kernel) ⟨Nat.le_of_ble_eq_true rfl, Nat.le_of_ble_eq_true rfl⟩) hK hP (va_recv hK hP (ci := 2) (q0 := 2) rfl rfl) rfl hl.1 rfl (Nat.le_of_ble_eq_true rfl) d_Gr_areMeeting_29 ⟨Nat.zero_le _, Nat.zero_le _⟩ ?_
    refine lv_if_eq (tgt := 39) hx hb d_Gr_areMeeting_32 (by decide) (fun c_2 => ?_) (fun c_2 => ?_)
    · have hv := hv.trans (if_pos c_2)
      refine lv_iconst (v := 0) hx hb d_Gr_areMeeting_39 (by decide) ?_
      exact W.zret (v := 0) (ty := .boolean) hx hb hr rfl (fun t ht hW9 => ⟨0, rfl, hv.symm, ht⟩) (fun q hq => nomatch hq) d_Gr_areMeeting_40
    · have hv := hv.trans (if_neg c_2)
      refine lv_iconst (v := 1) hx hb d_Gr_areMeeting_35 (by decide) ?_
      refine lv_goto (tgt := 40) hx hb d_Gr_areMeeting_36 (by decide) ?_
      exact W.zret (v := 1) (ty := .boolean) hx hb hr rfl (fun t ht hW9 => ⟨1, rfl, hv.symm, ht⟩) (fun q hq => nomatch hq) d_Gr_areMeeting_40
theorem b01_f_Gr_areMeeting (F : Nat → Int32) (A : Nat → Nat → Int32) (gr oth : Int32) : f_Gr_areMeeting F A gr oth = 0 ∨ f_Gr_areMeeting F A gr oth = 1 := by
  unfold f_Gr_areMeeting
  repeat' split
  all_goals first | exact Or.inl rfl | exact Or.inr rfl
def f_RS_meets (F : Nat → Int32) (A : Nat → Nat → Int32) (gr oth : Int32) : Nat × Int32 × SC := if f_RS_needGrant F A gr = 0 then (if f_RS_needGrant F A oth = 0 then (0, f_Gr_areMeeting F A gr oth, F, A) else (f_RS_needGrant F A oth, 0, F, A)) else (f_RS_needGrant F A gr, 0, F, A)
set_option maxHeartbeats 4000000 in
set_option maxRecDepth 100000 in
theorem c_RS_meets_k (l : Launch) (dC : Nat → ClassId) (dI : Nat → Nat → Nat) (r : Nat → Nat) (k : Nat → ClassId) (F : Nat → Int32) (A : Nat → Nat → Int32) (sz : Nat) (gr oth : Int32) (hI : CI F) (hk : (f_RS_meets F A gr oth).1 = 0) : Met l y_RS_meets w_RS_meets ({ frames := 2, cells := 0, slots := 0, locals := 45 }) (va_Pc [.ref (r 0), .int gr, .int oth] (SP (dC, dI) (wC r k F A) (tC k) sz)) (va_Qi (fun v (u : SC) => (0, v, u) = f_RS_meets F A gr oth) (fun (u : SC) t => aW (dC, dI) (tC k) (va_A (wC r k F A) sz) (wC r k u.1 u.2) t) (va_A (wC r k F A) sz)) 0 0 (va_A (wC r k F A) sz) := by
  refine Met.ofW (cc := b_RS_meets) (maxL := 3) (ret := (some .boolean)) (by decide) rfl ?_
  intro p e s m args below meth c s₁ B hml hv0
  obtain ⟨rfl, hsz, hP, hK, hD0⟩ := hv0
  have hx := B.exec
  have hb := B.bytes
  have hr := B.returns
  have hts := atoms_spec (ws := w_RS_meets) B.pre
  have hW : ∀ w ∈ WALL, w.before ([.ref (r 0), .int gr, .int oth] : List Value).toArray s = true := fun w h => hts w (List.mem_cons_of_mem _ h)
  have hown : s.vm.findClass R_RS = some m.cls := findClass_of_methodNamed B.named
  have hlocks := B.notSynchronized
  subst hsz
  have hD := hD0.self (sz := s.heap.size)
  generalize hAe : va_A (wC r k F A) s.heap.size = Ad at hD ⊢
  have hA : ∀ q : Nat, s.heap.size ≤ q → Ad q := fun q h => by rw [← hAe]; exact Or.inr h
  have hS : va_S Ad s.heap s.heap [] := va_S.rf
  have hl := lv_entry ([.ref (r 0), .int gr, .int oth]) (n := 3) (Nat.le_of_ble_eq_true rfl)
  rw [lg_entry_eq]
  generalize (lg_sl ([.ref (r 0), .int gr, .int oth]) ++ List.replicate (3 - (lg_sl ([.ref (r 0), .int gr, .int oth])).length) Slot.unset).toArray = ls at hl ⊢
  have hl : lv_has ls 3 [(0, .ref (r 0)), (1, .int gr), (2, .int oth)] := hl
  obtain ⟨⟨hp0, hp1⟩, ⟨hr0, hr1⟩, hg0, hg1⟩ := id hI; have hr2 : (F 2).toInt ≤ 60 := Int.le_trans hr1 (by decide)
  have hv := f_RS_meets.eq_1 F A gr oth
  refine lv_aload_n hx hb d_RS_meets_0 rfl (lv_at hl 0 rfl) ?_
  refine lv_iload_n hx hb d_RS_meets_1 rfl (lv_at hl 1 rfl) ?_
  by_cases c_1 : f_RS_needGrant F A gr = 0
  · have hv := hv.trans (if_pos c_1)
    refine rdVv ⟨hx, hb, hml, hown, hW⟩ (c_RS_needGrant_k l dC dI r k F A gr   c_1) (cwV 1 hW (gIn k_114 k_115 k_116 k_15 k_117) rfl rfl rfl (by decide +kernel) ⟨Nat.le_of_ble_eq_true rfl, Nat.le_of_ble_eq_true rfl⟩) hK hP (va_recv hK hP (ci := 0) (q0 := 0) rfl rfl) rfl hl.1 rfl (Nat.le_of_ble_eq_true rfl) d_RS_meets_2 ⟨Nat.zero_le _, Nat.zero_le _⟩ ?_
    refine lv_aload_n hx hb d_RS_meets_5 rfl (lv_at hl 0 rfl) ?_
    refine lv_iload_n hx hb d_RS_meets_6 rfl (lv_at hl 2 rfl) ?_
    by_cases c_2 : f_RS_needGrant F A oth = 0
    · have hv := hv.trans (if_pos c_2)
      refine rdVv ⟨hx, hb, hml, hown, hW⟩ (c_RS_needGrant_k l dC dI r k F A oth   c_2) (cwV 1 hW (gIn k_114 k_115 k_116 k_15 k_117) rfl rfl rfl (by decide +kernel) ⟨Nat.le_of_ble_eq_true rfl, Nat.le_of_ble_eq_true rfl⟩) hK hP (va_recv hK hP (ci := 0) (q0 := 0) rfl rfl) rfl hl.1 rfl (Nat.le_of_ble_eq_true rfl) d_RS_meets_7 ⟨Nat.zero_le _, Nat.zero_le _⟩ ?_
      refine lv_aload_n hx hb d_RS_meets_10 rfl (lv_at hl 0 rfl) ?_
      refine va_get (D := (dC, dI)) (ci := 0) (v := .ref (r 2)) (C := R_RS) (T := F_RS) (N := 6) hx hb hW i_RS hown hK hP 0 rfl rfl 5 (by decide) (hW _ k_5) (fun _ h9 => h9) rfl d_RS_meets_11 ?_
      refine lv_iload_n hx hb d_RS_meets_14 rfl (lv_at hl 1 rfl) ?_
      refine lv_iload_n hx hb d_RS_meets_15 rfl (lv_at hl 2 rfl) ?_
      refine rdV ⟨hx, hb, hml, hown, hW⟩ (c_Gr_areMeeting l dC dI r k F A gr oth hI (ixG hI c_1) (ixG hI c_2)) (cwV 2 hW (gIn k_125 k_126 k_127 k_52 k_128) rfl rfl rfl (by decide +kernel) ⟨Nat.le_of_ble_eq_true rfl, Nat.le_of_ble_eq_true rfl⟩) hK hP (va_recv hK hP (ci := 2) (q0 := 2) rfl rfl) rfl hl.1 rfl (Nat.le_of_ble_eq_true rfl) d_RS_meets_16 ⟨Nat.zero_le _, Nat.zero_le _⟩ ?_
      exact W.zret (v := f_Gr_areMeeting F A gr oth) (ty := .boolean) hx hb hr (nar01 (b01_f_Gr_areMeeting F A gr oth)) (fun t ht hW9 => ⟨⟨f_Gr_areMeeting F A gr oth, (F, A), rfl, hv.symm, by rw [ht]; exact hP, va_K.moved hW9.alike hK, hD⟩, hS.F ht⟩) hS.2.2 d_RS_meets_19
    · have hv := hv.trans (if_neg c_2)
      rw [hv] at hk
      exact absurd hk c_2
  · have hv := hv.trans (if_neg c_1)
    rw [hv] at hk
    exact absurd hk c_1
set_option maxHeartbeats 4000000 in
set_option maxRecDepth 100000 in
theorem c_RS_meets_x (l : Launch) (hl9 : l.stackTraces = false) (dC : Nat → ClassId) (dI : Nat → Nat → Nat) (r : Nat → Nat) (k : Nat → ClassId) (F : Nat → Int32) (A : Nat → Nat → Int32) (sz : Nat) (gr oth : Int32) (hI : CI F) (hk : ¬ (f_RS_meets F A gr oth).1 = 0) : vx_Met l y_RS_meets w_RS_meets ({ frames := 7, cells := 1, slots := 6, locals := 103 }) (va_Pc [.ref (r 0), .int gr, .int oth] (XP (dC, dI) (wC r k F A) (tC k) sz)) (va_Qi (fun _ (_ : SC) => False) (fun (u : SC) t => aW (dC, dI) (tC k) (va_A (wC r k F A) sz) (wC r k u.1 u.2) t) (va_A (wC r k F A) sz)) (vx_X (fun u : Nat => f_RS_meets F A gr oth = (u, 0, F, A)) (fun E u t => E = exN u ∧ aW (dC, dI) (tC k) (va_A (wC r k F A) sz) (wC r k F A) t) (va_A (wC r k F A) sz)) 1 6 (va_A (wC r k F A) sz) := by
  refine vx_ofW (cc := b_RS_meets) (maxL := 3) (ret := (some .boolean)) (by decide) rfl ?_
  intro p e s m args below meth c s₁ B hml hEx hv0
  obtain ⟨rfl, ⟨hsz, hP, hK, hD0⟩, hXS⟩ := hv0
  have hx := B.exec
  have hb := B.bytes
  have hr := B.returns
  have hts := atoms_spec (ws := w_RS_meets) B.pre
  have hW : ∀ w ∈ WALL, w.before ([.ref (r 0), .int gr, .int oth] : List Value).toArray s = true := fun w h => hts w (List.mem_cons_of_mem _ h)
  have hown : s.vm.findClass R_RS = some m.cls := findClass_of_methodNamed B.named
  have hlocks := B.notSynchronized
  subst hsz
  have hD := hD0.self (sz := s.heap.size)
  generalize hAe : va_A (wC r k F A) s.heap.size = Ad at hD hXS ⊢
  have hA : ∀ q : Nat, s.heap.size ≤ q → Ad q := fun q h => by rw [← hAe]; exact Or.inr h
  have hS : va_S Ad s.heap s.heap [] := va_S.rf
  have hl := lv_entry ([.ref (r 0), .int gr, .int oth]) (n := 3) (Nat.le_of_ble_eq_true rfl)
  rw [lg_entry_eq]
  generalize (lg_sl ([.ref (r 0), .int gr, .int oth]) ++ List.replicate (3 - (lg_sl ([.ref (r 0), .int gr, .int oth])).length) Slot.unset).toArray = ls at hl ⊢
  have hl : lv_has ls 3 [(0, .ref (r 0)), (1, .int gr), (2, .int oth)] := hl
  obtain ⟨⟨hp0, hp1⟩, ⟨hr0, hr1⟩, hg0, hg1⟩ := id hI; have hr2 : (F 2).toInt ≤ 60 := Int.le_trans hr1 (by decide)
  have hv := f_RS_meets.eq_1 F A gr oth
  refine lv_aload_n hx hb d_RS_meets_0 rfl (lv_at hl 0 rfl) ?_
  refine lv_iload_n hx hb d_RS_meets_1 rfl (lv_at hl 1 rfl) ?_
  by_cases c_1 : f_RS_needGrant F A gr = 0
  · have hv := hv.trans (if_pos c_1)
    refine rdVv ⟨hx, hb, hml, hown, hW⟩ (c_RS_needGrant_k l dC dI r k F A gr   c_1) (cwV 1 hW (gIn k_114 k_115 k_116 k_15 k_117) rfl rfl rfl (by decide +kernel) ⟨Nat.le_of_ble_eq_true rfl, Nat.le_of_ble_eq_true rfl⟩) hK hP (va_recv hK hP (ci := 0) (q0 := 0) rfl rfl) rfl hl.1 rfl (Nat.le_of_ble_eq_true rfl) d_RS_meets_2 ⟨Nat.zero_le _, Nat.zero_le _⟩ ?_
    refine lv_aload_n hx hb d_RS_meets_5 rfl (lv_at hl 0 rfl) ?_
    refine lv_iload_n hx hb d_RS_meets_6 rfl (lv_at hl 2 rfl) ?_
    by_cases c_2 : f_RS_needGrant F A oth = 0
    · have hv := hv.trans (if_pos c_2)
      exact (hk ((congrArg Prod.fst hv).trans (by first | rfl | ((repeat' split) <;> (first | rfl | exact cd_next_L _ _ _ _ _ _ _))))).elim
    · have hv := hv.trans (if_neg c_2)
      refine gdV ⟨hx, hb, hml, hown, hW⟩ (c_RS_needGrant_x l hl9 dC dI r k F A _ oth   c_2) (cwV 1 hW (gIn k_114 k_115 k_116 k_15 k_117) rfl rfl rfl (by decide +kernel) ⟨Nat.le_of_ble_eq_true rfl, Nat.le_of_ble_eq_true rfl⟩) hK hP hXS hA (va_recv hK hP (ci := 0) (q0 := 0) rfl rfl) hS rfl hl.1 rfl (Nat.le_of_ble_eq_true rfl) d_RS_meets_7 ⟨Nat.le_of_ble_eq_true rfl, Nat.le_of_ble_eq_true rfl⟩ (fun H locs q9 ce hP hS hce hcv hcl => ?_)
      exact vx_out (E := exN (f_RS_needGrant F A oth)) (fun x hx => (hEx x hx).elim) hlocks hce hcv hcl (fun t ht ha => ⟨f_RS_needGrant F A oth, hv, ⟨rfl, by rw [ht]; exact hP, va_K.moved ha hK, hD⟩, hS.F ht⟩) hS.2.2 (Nat.le_of_ble_eq_true rfl) (Nat.le_of_ble_eq_true rfl)
  · have hv := hv.trans (if_neg c_1)
    refine gdV ⟨hx, hb, hml, hown, hW⟩ (c_RS_needGrant_x l hl9 dC dI r k F A _ gr   c_1) (cwV 1 hW (gIn k_114 k_115 k_116 k_15 k_117) rfl rfl rfl (by decide +kernel) ⟨Nat.le_of_ble_eq_true rfl, Nat.le_of_ble_eq_true rfl⟩) hK hP hXS hA (va_recv hK hP (ci := 0) (q0 := 0) rfl rfl) hS rfl hl.1 rfl (Nat.le_of_ble_eq_true rfl) d_RS_meets_2 ⟨Nat.le_of_ble_eq_true rfl, Nat.le_of_ble_eq_true rfl⟩ (fun H locs q9 ce hP hS hce hcv hcl => ?_)
    exact vx_out (E := exN (f_RS_needGrant F A gr)) (fun x hx => (hEx x hx).elim) hlocks hce hcv hcl (fun t ht ha => ⟨f_RS_needGrant F A gr, hv, ⟨rfl, by rw [ht]; exact hP, va_K.moved ha hK, hD⟩, hS.F ht⟩) hS.2.2 (Nat.le_of_ble_eq_true rfl) (Nat.le_of_ble_eq_true rfl)
def f_RS_areLinked (F : Nat → Int32) (A : Nat → Nat → Int32) (pc oth : Int32) : Int32 := if ((A 0 pc.toNatClampNeg) >>> (oth &&& 31)) &&& 1 = 1 then 1 else 0
set_option maxHeartbeats 4000000 in
set_option maxRecDepth 100000 in
theorem c_RS_areLinked (l : Launch) (dC : Nat → ClassId) (dI : Nat → Nat → Nat) (r : Nat → Nat) (k : Nat → ClassId) (F : Nat → Int32) (A : Nat → Nat → Int32) (pc oth : Int32) (hI : CI F) (h_pc : vp_in pc 16) : Met l y_RS_areLinked w_RS_areLinked ({ frames := 0, cells := 0, slots := 0, locals := 0 }) (va_Pc [.ref (r 0), .int pc, .int oth] (RO (dC, dI) (wC r k F A) (tC k))) (vp_Si (fun v => v = f_RS_areLinked F A pc oth)) 0 0 (fun _ => False) := by
  refine Met.ofW (cc := b_RS_areLinked) (maxL := 3) (ret := (some .boolean)) (by decide) rfl ?_
  intro p e s m args below meth c s₁ B hml hv0
  obtain ⟨rfl, hP, hK⟩ := hv0
  have hx := B.exec
  have hb := B.bytes
  have hr := B.returns
  have hts := atoms_spec (ws := w_RS_areLinked) B.pre
  have hW : ∀ w ∈ WALL, w.before ([.ref (r 0), .int pc, .int oth] : List Value).toArray s = true := fun w h => hts w (List.mem_cons_of_mem _ h)
  have hown : s.vm.findClass R_RS = some m.cls := findClass_of_methodNamed B.named
  have hlocks := B.notSynchronized
  have hl := lv_entry ([.ref (r 0), .int pc, .int oth]) (n := 3) (Nat.le_of_ble_eq_true rfl)
  rw [lg_entry_eq]
  generalize (lg_sl ([.ref (r 0), .int pc, .int oth]) ++ List.replicate (3 - (lg_sl ([.ref (r 0), .int pc, .int oth])).length) Slot.unset).toArray = ls at hl ⊢
  have hl : lv_has ls 3 [(0, .ref (r 0)), (1, .int pc), (2, .int oth)] := hl
  obtain ⟨⟨hp0, hp1⟩, ⟨hr0, hr1⟩, hg0, hg1⟩ := id hI; have hr2 : (F 2).toInt ≤ 60 := Int.le_trans hr1 (by decide)
  have hv := f_RS_areLinked.eq_1 F A pc oth
  refine lv_aload_n hx hb d_RS_areLinked_0 rfl (lv_at hl 0 rfl) ?_
  refine va_get (D := (dC, dI)) (ci := 0) (v := .ref (r 3)) (C := R_RS) (T := F_RS) (N := 6) hx hb hW i_RS hown hK hP 0 rfl rfl 2 (by decide) (hW _ k_17) (fun _ h9 => h9) rfl d_RS_areLinked_1 ?_
  refine lv_iload_n hx hb d_RS_areLinked_4 rfl (lv_at hl 1 rfl) ?_
  refine va_iald hx hb hK hP 3 0 rfl rfl h_pc d_RS_areLinked_5 ?_
  refine lv_iload_n hx hb d_RS_areLinked_6 rfl (lv_at hl 2 rfl) ?_
  refine lv_ishr hx hb d_RS_areLinked_7 ?_
  refine lv_iconst (v := 1) hx hb d_RS_areLinked_8 (by decide) ?_
  refine lv_iand hx hb d_RS_areLinked_9 ?_
  refine lv_iconst (v := 1) hx hb d_RS_areLinked_10 (by decide) ?_
  refine lv_icmp_ne (tgt := 18) hx hb d_RS_areLinked_11 (by decide) (fun c_1 => ?_) (fun c_1 => ?_)
  · have hv := hv.trans (if_neg c_1)
    refine lv_iconst (v := 0) hx hb d_RS_areLinked_18 (by decide) ?_
    exact W.zret (v := 0) (ty := .boolean) hx hb hr rfl (fun t ht hW9 => ⟨0, rfl, hv.symm, ht⟩) (fun q hq => nomatch hq) d_RS_areLinked_19
  · have hv := hv.trans (if_pos c_1)
    refine lv_iconst (v := 1) hx hb d_RS_areLinked_14 (by decide) ?_
    refine lv_goto (tgt := 19) hx hb d_RS_areLinked_15 (by decide) ?_
    exact W.zret (v := 1) (ty := .boolean) hx hb hr rfl (fun t ht hW9 => ⟨1, rfl, hv.symm, ht⟩) (fun q hq => nomatch hq) d_RS_areLinked_19
def f_Gr_firstBegun_L3 (F : Nat → Int32) (A : Nat → Nat → Int32) (rb pc nw : Int32) : Nat → Int32 → Int32
  | 0, _ => 0
  | n3 + 1, x4 => if F 3 < x4 then 0 else (if f_Gr_isLiveOf F A x4 rb = 0 then (f_Gr_firstBegun_L3 F A rb pc nw n3 (x4 + 1)) else (if A 9 x4.toNatClampNeg = pc then (if f_Gr_hasBegun F A x4 nw = 0 then (f_Gr_firstBegun_L3 F A rb pc nw n3 (x4 + 1)) else x4) else (f_Gr_firstBegun_L3 F A rb pc nw n3 (x4 + 1))))
def f_Gr_firstBegun (F : Nat → Int32) (A : Nat → Nat → Int32) (rb pc nw : Int32) : Int32 := f_Gr_firstBegun_L3 F A rb pc nw 64 1
set_option maxHeartbeats 4000000 in
set_option maxRecDepth 100000 in
theorem c_Gr_firstBegun (l : Launch) (dC : Nat → ClassId) (dI : Nat → Nat → Nat) (r : Nat → Nat) (k : Nat → ClassId) (F : Nat → Int32) (A : Nat → Nat → Int32) (rb pc nw : Int32) (hI : CI F) : Met l y_Gr_firstBegun w_Gr_firstBegun ({ frames := 2, cells := 0, slots := 0, locals := 43 }) (va_Pc [.ref (r 2), .int rb, .int pc, .int nw] (RO (dC, dI) (wC r k F A) (tC k))) (vp_Si (fun v => v = f_Gr_firstBegun F A rb pc nw)) 0 0 (fun _ => False) := by
  refine Met.ofW (cc := b_Gr_firstBegun) (maxL := 5) (ret := (some .int)) (by decide) rfl ?_
  intro p e s m args below meth c s₁ B hml hv0
  obtain ⟨rfl, hP, hK⟩ := hv0
  have hx := B.exec
  have hb := B.bytes
  have hr := B.returns
  have hts := atoms_spec (ws := w_Gr_firstBegun) B.pre
  have hW : ∀ w ∈ WALL, w.before ([.ref (r 2), .int rb, .int pc, .int nw] : List Value).toArray s = true := fun w h => hts w (List.mem_cons_of_mem _ h)
  have hown : s.vm.findClass R_Gr = some m.cls := findClass_of_methodNamed B.named
  have hlocks := B.notSynchronized
  have hl := lv_entry ([.ref (r 2), .int rb, .int pc, .int nw]) (n := 5) (Nat.le_of_ble_eq_true rfl)
  rw [lg_entry_eq]
  generalize (lg_sl ([.ref (r 2), .int rb, .int pc, .int nw]) ++ List.replicate (5 - (lg_sl ([.ref (r 2), .int rb, .int pc, .int nw])).length) Slot.unset).toArray = ls at hl ⊢
  have hl : lv_has ls 5 [(0, .ref (r 2)), (1, .int rb), (2, .int pc), (3, .int nw)] := hl
  obtain ⟨⟨hp0, hp1⟩, ⟨hr0, hr1⟩, hg0, hg1⟩ := id hI; have hr2 : (F 2).toInt ≤ 60 := Int.le_trans hr1 (by decide)
  have hv := f_Gr_firstBegun.eq_1 F A rb pc nw
  refine lv_iconst (v := 1) hx hb d_Gr_firstBegun_0 (by decide) ?_
  refine lv_istore (lv' := [(4, .int 1), (0, .ref (r 2)), (1, .int rb), (2, .int pc), (3, .int nw)]) hx hb d_Gr_firstBegun_1 hl (by decide) rfl (fun ls hl => ?_)
  have loop3 : ∀ (n3 : Nat) (x4 : Int32) (ls : Array Slot), LA (F 3) x4 n3 → f_Gr_firstBegun F A rb pc nw = f_Gr_firstBegun_L3 F A rb pc nw n3 x4 → lv_has ls 5 [(0, .ref (r 2)), (1, .int rb), (2, .int pc), (3, .int nw), (4, .int x4)] → W p l e (headSpec w_Gr_firstBegun ({ frames := 2, cells := 0, slots := 0, locals := 43 })).room s m ([.ref (r 2), .int rb, .int pc, .int nw] : List Value).toArray below meth c s.heap [] 0 0 (MQ below (vp_Si (fun v => v = f_Gr_firstBegun F A rb pc nw)) ([.ref (r 2), .int rb, .int pc, .int nw] : List Value).toArray s 0 0 (fun _ => False)) (F0 m 3 ls []) := by
    intro n3
    induction n3 with
    | zero => intro x4 ls hlp; exact (hlp.z).elim
    | succ n3 ih3 =>
      intro x4 ls hlp3 hv hl
      rw [f_Gr_firstBegun_L3] at hv
      refine lv_iload hx hb d_Gr_firstBegun_3 (lv_at hl 4 rfl) ?_
      refine lv_aload_n hx hb d_Gr_firstBegun_5 rfl (lv_at hl 0 rfl) ?_
      refine va_get (D := (dC, dI)) (ci := 2) (v := .int (F 3)) (C := R_Gr) (T := F_Gr) (N := 7) hx hb hW i_Gr hown hK hP 2 rfl rfl 0 (by decide) (hW _ k_74) (fun _ h9 => h9) rfl d_Gr_firstBegun_6 ?_
      refine lv_icmp_gt (tgt := 52) hx hb d_Gr_firstBegun_9 (by decide) (fun c_1 => ?_) (fun c_1 => ?_)
      · have hv := hv.trans (if_pos c_1)
        refine lv_iconst (v := 0) hx hb d_Gr_firstBegun_52 (by decide) ?_
        exact W.iret (v := 0) hx hb hr (fun t ht hW9 => ⟨0, rfl, hv.symm, ht⟩) (fun q hq => nomatch hq) d_Gr_firstBegun_53
      · have hv := hv.trans (if_neg c_1)
        refine lv_aload_n hx hb d_Gr_firstBegun_12 rfl (lv_at hl 0 rfl) ?_
        refine lv_iload hx hb d_Gr_firstBegun_13 (lv_at hl 4 rfl) ?_
        refine lv_iload_n hx hb d_Gr_firstBegun_15 rfl (lv_at hl 1 rfl) ?_
        refine rdV ⟨hx, hb, hml, hown, hW⟩ (c_Gr_isLiveOf l dC dI r k F A x4 rb hI (LA.ix hlp3 c_1 hg1)) (cwV 2 hW (gIn k_110 k_111 k_112 k_52 k_113) rfl rfl rfl (by decide +kernel) ⟨Nat.le_of_ble_eq_true rfl, Nat.le_of_ble_eq_true rfl⟩) hK hP (va_recv hK hP (ci := 2) (q0 := 2) rfl rfl) rfl hl.1 rfl (Nat.le_of_ble_eq_true rfl) d_Gr_firstBegun_16 ⟨Nat.zero_le _, Nat.zero_le _⟩ ?_
        refine lv_if_eq (tgt := 46) hx hb d_Gr_firstBegun_19 (by decide) (fun c_2 => ?_) (fun c_2 => ?_)
        · have hv := hv.trans (if_pos c_2)
          refine lv_iinc (v := x4 + 1) (lv' := [(4, .int (x4 + 1)), (0, .ref (r 2)), (1, .int rb), (2, .int pc), (3, .int nw)]) hx hb d_Gr_firstBegun_46 hl (k := 4) rfl rfl (by decide) rfl (fun ls hl => ?_)
          refine lv_goto (tgt := 3) hx hb d_Gr_firstBegun_49 (by decide) ?_
          exact ih3 (x4 + 1) ls (LA.s hlp3 c_1 hg1) hv (lv_sub hl [1, 2, 3, 4, 0] rfl)
        · have hv := hv.trans (if_neg c_2)
          refine lv_aload_n hx hb d_Gr_firstBegun_22 rfl (lv_at hl 0 rfl) ?_
          refine va_get (D := (dC, dI)) (ci := 2) (v := .ref (r 12)) (C := R_Gr) (T := F_Gr) (N := 7) hx hb hW i_Gr hown hK hP 2 rfl rfl 2 (by decide) (hW _ k_54) (fun _ h9 => h9) rfl d_Gr_firstBegun_23 ?_
          refine lv_iload hx hb d_Gr_firstBegun_26 (lv_at hl 4 rfl) ?_
          refine va_iald hx hb hK hP 12 9 rfl rfl (LA.ix hlp3 c_1 hg1) d_Gr_firstBegun_28 ?_
          refine lv_iload_n hx hb d_Gr_firstBegun_29 rfl (lv_at hl 2 rfl) ?_
          refine lv_icmp_ne (tgt := 46) hx hb d_Gr_firstBegun_30 (by decide) (fun c_3 => ?_) (fun c_3 => ?_)
          · have hv := hv.trans (if_neg c_3)
            refine lv_iinc (v := x4 + 1) (lv' := [(4, .int (x4 + 1)), (0, .ref (r 2)), (1, .int rb), (2, .int pc), (3, .int nw)]) hx hb d_Gr_firstBegun_46 hl (k := 4) rfl rfl (by decide) rfl (fun ls hl => ?_)
            refine lv_goto (tgt := 3) hx hb d_Gr_firstBegun_49 (by decide) ?_
            exact ih3 (x4 + 1) ls (LA.s hlp3 c_1 hg1) hv (lv_sub hl [1, 2, 3, 4, 0] rfl)
          · have hv := hv.trans (if_pos c_3)
            refine lv_aload_n hx hb d_Gr_firstBegun_33 rfl (lv_at hl 0 rfl) ?_
            refine lv_iload hx hb d_Gr_firstBegun_34 (lv_at hl 4 rfl) ?_
            refine lv_iload_n hx hb d_Gr_firstBegun_36 rfl (lv_at hl 3 rfl) ?_
            refine rdV ⟨hx, hb, hml, hown, hW⟩ (c_Gr_hasBegun l dC dI r k F A x4 nw hI (LA.ix hlp3 c_1 hg1)) (cwV 2 hW (gIn k_129 k_71 k_72 k_52 k_73) rfl rfl rfl (by decide +kernel) ⟨Nat.le_of_ble_eq_true rfl, Nat.le_of_ble_eq_true rfl⟩) hK hP (va_recv hK hP (ci := 2) (q0 := 2) rfl rfl) rfl hl.1 rfl (Nat.le_of_ble_eq_true rfl) d_Gr_firstBegun_37 ⟨Nat.zero_le _, Nat.zero_le _⟩ ?_
            refine lv_if_eq (tgt := 46) hx hb d_Gr_firstBegun_40 (by decide) (fun c_4 => ?_) (fun c_4 => ?_)
            · have hv := hv.trans (if_pos c_4)
              refine lv_iinc (v := x4 + 1) (lv' := [(4, .int (x4 + 1)), (0, .ref (r 2)), (1, .int rb), (2, .int pc), (3, .int nw)]) hx hb d_Gr_firstBegun_46 hl (k := 4) rfl rfl (by decide) rfl (fun ls hl => ?_)
              refine lv_goto (tgt := 3) hx hb d_Gr_firstBegun_49 (by decide) ?_
              exact ih3 (x4 + 1) ls (LA.s hlp3 c_1 hg1) hv (lv_sub hl [1, 2, 3, 4, 0] rfl)
            · have hv := hv.trans (if_neg c_4)
              refine lv_iload hx hb d_Gr_firstBegun_43 (lv_at hl 4 rfl) ?_
              exact W.iret (v := x4) hx hb hr (fun t ht hW9 => ⟨x4, rfl, hv.symm, ht⟩) (fun q hq => nomatch hq) d_Gr_firstBegun_45
  exact loop3 64 1 ls (LA.i hg0 hg1) hv (lv_sub hl [1, 2, 3, 4, 0] rfl)
theorem fb_in_L {F : Nat → Int32} {A : Nat → Nat → Int32} {rb pc nw : Int32} (hg1 : (F 3).toInt ≤ 60) : ∀ (n : Nat) (i : Int32), LA (F 3) i n → f_Gr_firstBegun_L3 F A rb pc nw n i = 0 ∨ vp_in (f_Gr_firstBegun_L3 F A rb pc nw n i) 61 := by
  intro n
  induction n with
  | zero => intro i h; exact h.z.elim
  | succ n ih =>
    intro i h
    rw [f_Gr_firstBegun_L3]
    by_cases c : F 3 < i
    · rw [if_pos c]; exact Or.inl rfl
    · rw [if_neg c]
      have hi := LA.ix h c hg1
      have hs := ih (i + 1) (h.s c hg1)
      repeat' split
      all_goals first | exact Or.inr hi | exact hs
theorem ixB {F : Nat → Int32} {A : Nat → Nat → Int32} {rb pc nw : Int32} (hI : CI F) (h : ¬ f_Gr_firstBegun F A rb pc nw = 0) : vp_in (f_Gr_firstBegun F A rb pc nw) 61 := by
  obtain ⟨⟨hp0, hp1⟩, ⟨hr0, hr1⟩, hg0, hg1⟩ := hI
  exact (fb_in_L (A := A) (rb := rb) (pc := pc) (nw := nw) hg1 64 1 (LA.i hg0 hg1)).resolve_left h
def f_Rb_moveTo (F : Nat → Int32) (A : Nat → Nat → Int32) (rb tg : Int32) : Int32 × SC := if A 3 rb.toNatClampNeg = 0 then (0, F, (uA (uA (uA A 4 (upd (A 4) rb.toNatClampNeg (-1))) 2 (upd ((uA A 4 (upd (A 4) rb.toNatClampNeg (-1))) 2) rb.toNatClampNeg tg)) 5 (upd ((uA (uA A 4 (upd (A 4) rb.toNatClampNeg (-1))) 2 (upd ((uA A 4 (upd (A 4) rb.toNatClampNeg (-1))) 2) rb.toNatClampNeg tg)) 5) rb.toNatClampNeg (-1)))) else (0, F, (uA (uA (uA A 4 (upd (A 4) rb.toNatClampNeg (A 2 rb.toNatClampNeg))) 2 (upd ((uA A 4 (upd (A 4) rb.toNatClampNeg (A 2 rb.toNatClampNeg))) 2) rb.toNatClampNeg tg)) 5 (upd ((uA (uA A 4 (upd (A 4) rb.toNatClampNeg (A 2 rb.toNatClampNeg))) 2 (upd ((uA A 4 (upd (A 4) rb.toNatClampNeg (A 2 rb.toNatClampNeg))) 2) rb.toNatClampNeg tg)) 5) rb.toNatClampNeg (-1))))
set_option maxHeartbeats 4000000 in
set_option maxRecDepth 100000 in
theorem c_Rb_moveTo (l : Launch) (dC : Nat → ClassId) (dI : Nat → Nat → Nat) (r : Nat → Nat) (k : Nat → ClassId) (F : Nat → Int32) (A : Nat → Nat → Int32) (sz : Nat) (rb tg : Int32) (hI : CI F) (h_rb : vp_in rb 6) : Met l y_Rb_moveTo w_Rb_moveTo ({ frames := 0, cells := 0, slots := 0, locals := 0 }) (va_Pc [.ref (r 1), .int rb, .int tg] (SP (dC, dI) (wC r k F A) (tC k) sz)) (va_Qv (fun u : SC => (0, u) = f_Rb_moveTo F A rb tg) (fun (u : SC) t => aW (dC, dI) (tC k) (va_A (wC r k F A) sz) (wC r k u.1 u.2) t) (va_A (wC r k F A) sz)) 0 0 (va_A (wC r k F A) sz) := by
  refine Met.ofW (cc := b_Rb_moveTo) (maxL := 3) (ret := none) (by decide) rfl ?_
  intro p e s m args below meth c s₁ B hml hv0
  obtain ⟨rfl, hsz, hP, hK, hD0⟩ := hv0
  have hx := B.exec
  have hb := B.bytes
  have hr := B.returns
  have hts := atoms_spec (ws := w_Rb_moveTo) B.pre
  have hW : ∀ w ∈ WALL, w.before ([.ref (r 1), .int rb, .int tg] : List Value).toArray s = true := fun w h => hts w (List.mem_cons_of_mem _ h)
  have hown : s.vm.findClass R_Rb = some m.cls := findClass_of_methodNamed B.named
  have hlocks := B.notSynchronized
  subst hsz
  have hD := hD0.self (sz := s.heap.size)
  generalize hAe : va_A (wC r k F A) s.heap.size = Ad at hD ⊢
  have hA : ∀ q : Nat, s.heap.size ≤ q → Ad q := fun q h => by rw [← hAe]; exact Or.inr h
  have hS : va_S Ad s.heap s.heap [] := va_S.rf
  have hl := lv_entry ([.ref (r 1), .int rb, .int tg]) (n := 3) (Nat.le_of_ble_eq_true rfl)
  rw [lg_entry_eq]
  generalize (lg_sl ([.ref (r 1), .int rb, .int tg]) ++ List.replicate (3 - (lg_sl ([.ref (r 1), .int rb, .int tg])).length) Slot.unset).toArray = ls at hl ⊢
  have hl : lv_has ls 3 [(0, .ref (r 1)), (1, .int rb), (2, .int tg)] := hl
  obtain ⟨⟨hp0, hp1⟩, ⟨hr0, hr1⟩, hg0, hg1⟩ := id hI; have hr2 : (F 2).toInt ≤ 60 := Int.le_trans hr1 (by decide)
  have hv := f_Rb_moveTo.eq_1 F A rb tg
  refine lv_aload_n hx hb d_Rb_moveTo_0 rfl (lv_at hl 0 rfl) ?_
  refine va_get (D := (dC, dI)) (ci := 1) (v := .ref (r 7)) (C := R_Rb) (T := F_Rb) (N := 7) hx hb hW i_Rb hown hK hP 1 rfl rfl 3 (by decide) (hW _ k_24) (fun _ h9 => h9) rfl d_Rb_moveTo_1 ?_
  refine lv_iload_n hx hb d_Rb_moveTo_4 rfl (lv_at hl 1 rfl) ?_
  refine lv_aload_n hx hb d_Rb_moveTo_5 rfl (lv_at hl 0 rfl) ?_
  refine va_get (D := (dC, dI)) (ci := 1) (v := .ref (r 6)) (C := R_Rb) (T := F_Rb) (N := 7) hx hb hW i_Rb hown hK hP 1 rfl rfl 2 (by decide) (hW _ k_25) (fun _ h9 => h9) rfl d_Rb_moveTo_6 ?_
  refine lv_iload_n hx hb d_Rb_moveTo_9 rfl (lv_at hl 1 rfl) ?_
  refine va_zald hx hb hK hP 6 3 rfl rfl h_rb d_Rb_moveTo_10 ?_
  refine lv_if_eq (tgt := 23) hx hb d_Rb_moveTo_11 (by decide) (fun c_1 => ?_) (fun c_1 => ?_)
  · have hv := hv.trans (if_pos c_1)
    refine lv_iconst (v := (-1)) hx hb d_Rb_moveTo_23 (by decide) ?_
    refine va_iast hx hb hK hP hD hS 7 4 rfl rfl h_rb d_Rb_moveTo_24 (fun H locs hP hD hS => ?_)
    have hP := pCA_4 hP
    have hD := dCA_4 hD
    generalize hAg1 : (uA A 4 (upd (A 4) rb.toNatClampNeg (-1))) = A1_ at hP hD hv
    refine lv_aload_n hx hb d_Rb_moveTo_25 rfl (lv_at hl 0 rfl) ?_
    refine va_get (D := (dC, dI)) (ci := 1) (v := .ref (r 5)) (C := R_Rb) (T := F_Rb) (N := 7) hx hb hW i_Rb hown hK hP 1 rfl rfl 1 (by decide) (hW _ k_23) (fun _ h9 => h9) rfl d_Rb_moveTo_26 ?_
    refine lv_iload_n hx hb d_Rb_moveTo_29 rfl (lv_at hl 1 rfl) ?_
    refine lv_iload_n hx hb d_Rb_moveTo_30 rfl (lv_at hl 2 rfl) ?_
    refine va_iast hx hb hK hP hD hS 5 2 rfl rfl h_rb d_Rb_moveTo_31 (fun H locs hP hD hS => ?_)
    have hP := pCA_2 hP
    have hD := dCA_2 hD
    generalize hAg2 : (uA A1_ 2 (upd (A1_ 2) rb.toNatClampNeg tg)) = A2_ at hP hD hv
    refine lv_aload_n hx hb d_Rb_moveTo_32 rfl (lv_at hl 0 rfl) ?_
    refine va_get (D := (dC, dI)) (ci := 1) (v := .ref (r 8)) (C := R_Rb) (T := F_Rb) (N := 7) hx hb hW i_Rb hown hK hP 1 rfl rfl 4 (by decide) (hW _ k_26) (fun _ h9 => h9) rfl d_Rb_moveTo_33 ?_
    refine lv_iload_n hx hb d_Rb_moveTo_36 rfl (lv_at hl 1 rfl) ?_
    refine lv_iconst (v := (-1)) hx hb d_Rb_moveTo_37 (by decide) ?_
    refine va_iast hx hb hK hP hD hS 8 5 rfl rfl h_rb d_Rb_moveTo_38 (fun H locs hP hD hS => ?_)
    have hP := pCA_5 hP
    have hD := dCA_5 hD
    generalize hAg3 : (uA A2_ 5 (upd (A2_ 5) rb.toNatClampNeg (-1))) = A3_ at hP hD hv
    exact W.vret hx hb hr (fun t ht hW9 => ⟨⟨(F, A3_), rfl, hv.symm, by rw [ht]; exact hP, va_K.moved hW9.alike hK, hD⟩, hS.F ht⟩) hS.2.2 d_Rb_moveTo_39
  · have hv := hv.trans (if_neg c_1)
    refine lv_aload_n hx hb d_Rb_moveTo_14 rfl (lv_at hl 0 rfl) ?_
    refine va_get (D := (dC, dI)) (ci := 1) (v := .ref (r 5)) (C := R_Rb) (T := F_Rb) (N := 7) hx hb hW i_Rb hown hK hP 1 rfl rfl 1 (by decide) (hW _ k_23) (fun _ h9 => h9) rfl d_Rb_moveTo_15 ?_
    refine lv_iload_n hx hb d_Rb_moveTo_18 rfl (lv_at hl 1 rfl) ?_
    refine va_iald hx hb hK hP 5 2 rfl rfl h_rb d_Rb_moveTo_19 ?_
    refine lv_goto (tgt := 24) hx hb d_Rb_moveTo_20 (by decide) ?_
    refine va_iast hx hb hK hP hD hS 7 4 rfl rfl h_rb d_Rb_moveTo_24 (fun H locs hP hD hS => ?_)
    have hP := pCA_4 hP
    have hD := dCA_4 hD
    generalize hAg4 : (uA A 4 (upd (A 4) rb.toNatClampNeg (A 2 rb.toNatClampNeg))) = A4_ at hP hD hv
    refine lv_aload_n hx hb d_Rb_moveTo_25 rfl (lv_at hl 0 rfl) ?_
    refine va_get (D := (dC, dI)) (ci := 1) (v := .ref (r 5)) (C := R_Rb) (T := F_Rb) (N := 7) hx hb hW i_Rb hown hK hP 1 rfl rfl 1 (by decide) (hW _ k_23) (fun _ h9 => h9) rfl d_Rb_moveTo_26 ?_
    refine lv_iload_n hx hb d_Rb_moveTo_29 rfl (lv_at hl 1 rfl) ?_
    refine lv_iload_n hx hb d_Rb_moveTo_30 rfl (lv_at hl 2 rfl) ?_
    refine va_iast hx hb hK hP hD hS 5 2 rfl rfl h_rb d_Rb_moveTo_31 (fun H locs hP hD hS => ?_)
    have hP := pCA_2 hP
    have hD := dCA_2 hD
    generalize hAg5 : (uA A4_ 2 (upd (A4_ 2) rb.toNatClampNeg tg)) = A5_ at hP hD hv
    refine lv_aload_n hx hb d_Rb_moveTo_32 rfl (lv_at hl 0 rfl) ?_
    refine va_get (D := (dC, dI)) (ci := 1) (v := .ref (r 8)) (C := R_Rb) (T := F_Rb) (N := 7) hx hb hW i_Rb hown hK hP 1 rfl rfl 4 (by decide) (hW _ k_26) (fun _ h9 => h9) rfl d_Rb_moveTo_33 ?_
    refine lv_iload_n hx hb d_Rb_moveTo_36 rfl (lv_at hl 1 rfl) ?_
    refine lv_iconst (v := (-1)) hx hb d_Rb_moveTo_37 (by decide) ?_
    refine va_iast hx hb hK hP hD hS 8 5 rfl rfl h_rb d_Rb_moveTo_38 (fun H locs hP hD hS => ?_)
    have hP := pCA_5 hP
    have hD := dCA_5 hD
    generalize hAg6 : (uA A5_ 5 (upd (A5_ 5) rb.toNatClampNeg (-1))) = A6_ at hP hD hv
    exact W.vret hx hb hr (fun t ht hW9 => ⟨⟨(F, A6_), rfl, hv.symm, by rw [ht]; exact hP, va_K.moved hW9.alike hK, hD⟩, hS.F ht⟩) hS.2.2 d_Rb_moveTo_39
def f_RS_step (F : Nat → Int32) (A : Nat → Nat → Int32) (rb pc : Int32) : Nat × Int32 × SC := if f_RS_needRobot F A rb = 0 then (if f_RS_needPiece F A pc = 0 then (if f_RS_areLinked F A pc (A 2 rb.toNatClampNeg) = 0 then (2, 0, F, A) else (if f_RS_needActive F A rb = 0 then (if f_Gr_firstBegun F (uA A 7 (upd (A 7) rb.toNatClampNeg (F 0))) rb pc (F 0) = 0 then (0, 0, F, (uA A 7 (upd (A 7) rb.toNatClampNeg (F 0)))) else (if f_Rb_otherStandsOn F (uA A 7 (upd (A 7) rb.toNatClampNeg (F 0))) rb pc = 0 then (0, f_Gr_firstBegun F (uA A 7 (upd (A 7) rb.toNatClampNeg (F 0))) rb pc (F 0), ((f_Rb_moveTo F (uA (uA A 7 (upd (A 7) rb.toNatClampNeg (F 0))) 13 (upd ((uA A 7 (upd (A 7) rb.toNatClampNeg (F 0))) 13) (f_Gr_firstBegun F (uA A 7 (upd (A 7) rb.toNatClampNeg (F 0))) rb pc (F 0)).toNatClampNeg 1)) rb pc).2.1), ((f_Rb_moveTo F (uA (uA A 7 (upd (A 7) rb.toNatClampNeg (F 0))) 13 (upd ((uA A 7 (upd (A 7) rb.toNatClampNeg (F 0))) 13) (f_Gr_firstBegun F (uA A 7 (upd (A 7) rb.toNatClampNeg (F 0))) rb pc (F 0)).toNatClampNeg 1)) rb pc).2.2)) else (0, (-1), F, (uA A 7 (upd (A 7) rb.toNatClampNeg (F 0)))))) else (f_RS_needActive F A rb, 0, F, A))) else (f_RS_needPiece F A pc, 0, F, A)) else (f_RS_needRobot F A rb, 0, F, A)
set_option maxHeartbeats 4000000 in
set_option maxRecDepth 100000 in
theorem c_RS_step_k (l : Launch) (dC : Nat → ClassId) (dI : Nat → Nat → Nat) (r : Nat → Nat) (k : Nat → ClassId) (F : Nat → Int32) (A : Nat → Nat → Int32) (sz : Nat) (rb pc : Int32) (hI : CI F) (hk : (f_RS_step F A rb pc).1 = 0) : Met l y_RS_step w_RS_step ({ frames := 3, cells := 0, slots := 0, locals := 67 }) (va_Pc [.ref (r 0), .int rb, .int pc] (SP (dC, dI) (wC r k F A) (tC k) sz)) (va_Qi (fun v (u : SC) => (0, v, u) = f_RS_step F A rb pc) (fun (u : SC) t => aW (dC, dI) (tC k) (va_A (wC r k F A) sz) (wC r k u.1 u.2) t) (va_A (wC r k F A) sz)) 0 0 (va_A (wC r k F A) sz) := by
  refine Met.ofW (cc := b_RS_step) (maxL := 4) (ret := (some .int)) (by decide) rfl ?_
  intro p e s m args below meth c s₁ B hml hv0
  obtain ⟨rfl, hsz, hP, hK, hD0⟩ := hv0
  have hx := B.exec
  have hb := B.bytes
  have hr := B.returns
  have hts := atoms_spec (ws := w_RS_step) B.pre
  have hW : ∀ w ∈ WALL, w.before ([.ref (r 0), .int rb, .int pc] : List Value).toArray s = true := fun w h => hts w (List.mem_cons_of_mem _ h)
  have hown : s.vm.findClass R_RS = some m.cls := findClass_of_methodNamed B.named
  have hlocks := B.notSynchronized
  subst hsz
  have hD := hD0.self (sz := s.heap.size)
  generalize hAe : va_A (wC r k F A) s.heap.size = Ad at hD ⊢
  have hA : ∀ q : Nat, s.heap.size ≤ q → Ad q := fun q h => by rw [← hAe]; exact Or.inr h
  have hS : va_S Ad s.heap s.heap [] := va_S.rf
  have hl := lv_entry ([.ref (r 0), .int rb, .int pc]) (n := 4) (Nat.le_of_ble_eq_true rfl)
  rw [lg_entry_eq]
  generalize (lg_sl ([.ref (r 0), .int rb, .int pc]) ++ List.replicate (4 - (lg_sl ([.ref (r 0), .int rb, .int pc])).length) Slot.unset).toArray = ls at hl ⊢
  have hl : lv_has ls 4 [(0, .ref (r 0)), (1, .int rb), (2, .int pc)] := hl
  obtain ⟨⟨hp0, hp1⟩, ⟨hr0, hr1⟩, hg0, hg1⟩ := id hI; have hr2 : (F 2).toInt ≤ 60 := Int.le_trans hr1 (by decide)
  have hv := f_RS_step.eq_1 F A rb pc
  refine lv_aload_n hx hb d_RS_step_0 rfl (lv_at hl 0 rfl) ?_
  refine lv_iload_n hx hb d_RS_step_1 rfl (lv_at hl 1 rfl) ?_
  by_cases c_1 : f_RS_needRobot F A rb = 0
  · have hv := hv.trans (if_pos c_1)
    refine rdVv ⟨hx, hb, hml, hown, hW⟩ (c_RS_needRobot_k l dC dI r k F A rb   c_1) (cwV 1 hW (gIn k_77 k_78 k_79 k_15 k_80) rfl rfl rfl (by decide +kernel) ⟨Nat.le_of_ble_eq_true rfl, Nat.le_of_ble_eq_true rfl⟩) hK hP (va_recv hK hP (ci := 0) (q0 := 0) rfl rfl) rfl hl.1 rfl (Nat.le_of_ble_eq_true rfl) d_RS_step_2 ⟨Nat.zero_le _, Nat.zero_le _⟩ ?_
    refine lv_aload_n hx hb d_RS_step_5 rfl (lv_at hl 0 rfl) ?_
    refine lv_iload_n hx hb d_RS_step_6 rfl (lv_at hl 2 rfl) ?_
    by_cases c_2 : f_RS_needPiece F A pc = 0
    · have hv := hv.trans (if_pos c_2)
      refine rdVv ⟨hx, hb, hml, hown, hW⟩ (c_RS_needPiece_k l dC dI r k F A pc   c_2) (cwV 1 hW (gIn k_12 k_13 k_14 k_15 k_16) rfl rfl rfl (by decide +kernel) ⟨Nat.le_of_ble_eq_true rfl, Nat.le_of_ble_eq_true rfl⟩) hK hP (va_recv hK hP (ci := 0) (q0 := 0) rfl rfl) rfl hl.1 rfl (Nat.le_of_ble_eq_true rfl) d_RS_step_7 ⟨Nat.zero_le _, Nat.zero_le _⟩ ?_
      refine lv_aload_n hx hb d_RS_step_10 rfl (lv_at hl 0 rfl) ?_
      refine lv_iload_n hx hb d_RS_step_11 rfl (lv_at hl 2 rfl) ?_
      refine lv_aload_n hx hb d_RS_step_12 rfl (lv_at hl 0 rfl) ?_
      refine va_get (D := (dC, dI)) (ci := 0) (v := .ref (r 1)) (C := R_RS) (T := F_RS) (N := 6) hx hb hW i_RS hown hK hP 0 rfl rfl 4 (by decide) (hW _ k_3) (fun _ h9 => h9) rfl d_RS_step_13 ?_
      refine va_get (D := (dC, dI)) (ci := 1) (v := .ref (r 5)) (C := R_Rb) (T := F_Rb) (N := 7) hx hb hW i_Rb hown hK hP 1 rfl rfl 1 (by decide) (hW _ k_130) (fun _ h9 => h9) rfl d_RS_step_16 ?_
      refine lv_iload_n hx hb d_RS_step_19 rfl (lv_at hl 1 rfl) ?_
      refine va_iald hx hb hK hP 5 2 rfl rfl (ixR hI c_1) d_RS_step_20 ?_
      refine rdV ⟨hx, hb, hml, hown, hW⟩ (c_RS_areLinked l dC dI r k F A pc (A 2 rb.toNatClampNeg) hI (ixP hI c_2)) (cwV 2 hW (gIn k_131 k_132 k_133 k_15 k_134) rfl rfl rfl (by decide +kernel) ⟨Nat.le_of_ble_eq_true rfl, Nat.le_of_ble_eq_true rfl⟩) hK hP (va_recv hK hP (ci := 0) (q0 := 0) rfl rfl) rfl hl.1 rfl (Nat.le_of_ble_eq_true rfl) d_RS_step_21 ⟨Nat.zero_le _, Nat.zero_le _⟩ ?_
      refine lv_if_ne (tgt := 37) hx hb d_RS_step_24 (by decide) (fun c_3 => ?_) (fun c_3 => ?_)
      · have hv := hv.trans (if_neg c_3)
        refine lv_aload_n hx hb d_RS_step_37 rfl (lv_at hl 0 rfl) ?_
        refine lv_iload_n hx hb d_RS_step_38 rfl (lv_at hl 1 rfl) ?_
        by_cases c_4 : f_RS_needActive F A rb = 0
        · have hv := hv.trans (if_pos c_4)
          refine rdVv ⟨hx, hb, hml, hown, hW⟩ (c_RS_needActive_k l dC dI r k F A rb hI (ixR hI c_1) c_4) (cwV 1 hW (gIn k_89 k_90 k_91 k_15 k_92) rfl rfl rfl (by decide +kernel) ⟨Nat.le_of_ble_eq_true rfl, Nat.le_of_ble_eq_true rfl⟩) hK hP (va_recv hK hP (ci := 0) (q0 := 0) rfl rfl) rfl hl.1 rfl (Nat.le_of_ble_eq_true rfl) d_RS_step_39 ⟨Nat.zero_le _, Nat.zero_le _⟩ ?_
          refine lv_aload_n hx hb d_RS_step_42 rfl (lv_at hl 0 rfl) ?_
          refine va_get (D := (dC, dI)) (ci := 0) (v := .ref (r 1)) (C := R_RS) (T := F_RS) (N := 6) hx hb hW i_RS hown hK hP 0 rfl rfl 4 (by decide) (hW _ k_3) (fun _ h9 => h9) rfl d_RS_step_43 ?_
          refine va_get (D := (dC, dI)) (ci := 1) (v := .ref (r 10)) (C := R_Rb) (T := F_Rb) (N := 7) hx hb hW i_Rb hown hK hP 1 rfl rfl 6 (by decide) (hW _ k_93) (fun _ h9 => h9) rfl d_RS_step_46 ?_
          refine lv_iload_n hx hb d_RS_step_49 rfl (lv_at hl 1 rfl) ?_
          refine lv_aload_n hx hb d_RS_step_50 rfl (lv_at hl 0 rfl) ?_
          refine va_get (D := (dC, dI)) (ci := 0) (v := .int (F 0)) (C := R_RS) (T := F_RS) (N := 6) hx hb hW i_RS hown hK hP 0 rfl rfl 0 (by decide) (hW _ k_7) (fun _ h9 => h9) rfl d_RS_step_51 ?_
          refine va_iast hx hb hK hP hD hS 10 7 rfl rfl (ixR hI c_1) d_RS_step_54 (fun H locs hP hD hS => ?_)
          have hP := pCA_7 hP
          have hD := dCA_7 hD
          generalize hAg1 : (uA A 7 (upd (A 7) rb.toNatClampNeg (F 0))) = A1_ at hP hD hv
          refine lv_aload_n hx hb d_RS_step_55 rfl (lv_at hl 0 rfl) ?_
          refine va_get (D := (dC, dI)) (ci := 0) (v := .ref (r 2)) (C := R_RS) (T := F_RS) (N := 6) hx hb hW i_RS hown hK hP 0 rfl rfl 5 (by decide) (hW _ k_5) (fun _ h9 => h9) rfl d_RS_step_56 ?_
          refine lv_iload_n hx hb d_RS_step_59 rfl (lv_at hl 1 rfl) ?_
          refine lv_iload_n hx hb d_RS_step_60 rfl (lv_at hl 2 rfl) ?_
          refine lv_aload_n hx hb d_RS_step_61 rfl (lv_at hl 0 rfl) ?_
          refine va_get (D := (dC, dI)) (ci := 0) (v := .int (F 0)) (C := R_RS) (T := F_RS) (N := 6) hx hb hW i_RS hown hK hP 0 rfl rfl 0 (by decide) (hW _ k_7) (fun _ h9 => h9) rfl d_RS_step_62 ?_
          refine rdV ⟨hx, hb, hml, hown, hW⟩ (c_Gr_firstBegun l dC dI r k F A1_ rb pc (F 0) hI ) (cwV 3 hW (gIn k_135 k_136 k_137 k_52 k_138) rfl rfl rfl (by decide +kernel) ⟨Nat.le_of_ble_eq_true rfl, Nat.le_of_ble_eq_true rfl⟩) hK hP (va_recv hK hP (ci := 2) (q0 := 2) rfl rfl) rfl hl.1 rfl (Nat.le_of_ble_eq_true rfl) d_RS_step_65 ⟨Nat.zero_le _, Nat.zero_le _⟩ ?_
          refine lv_istore_n (lv' := [(3, .int (f_Gr_firstBegun F A1_ rb pc (F 0))), (0, .ref (r 0)), (1, .int rb), (2, .int pc)]) hx hb d_RS_step_68 rfl hl (by decide) rfl (fun ls hl => ?_)
          refine lv_iload_n hx hb d_RS_step_69 rfl (lv_at hl 0 rfl) ?_
          refine lv_if_ne (tgt := 75) hx hb d_RS_step_70 (by decide) (fun c_5 => ?_) (fun c_5 => ?_)
          · have hv := hv.trans (if_neg c_5)
            refine lv_aload_n hx hb d_RS_step_75 rfl (lv_at hl 1 rfl) ?_
            refine va_get (D := (dC, dI)) (ci := 0) (v := .ref (r 1)) (C := R_RS) (T := F_RS) (N := 6) hx hb hW i_RS hown hK hP 0 rfl rfl 4 (by decide) (hW _ k_3) (fun _ h9 => h9) rfl d_RS_step_76 ?_
            refine lv_iload_n hx hb d_RS_step_79 rfl (lv_at hl 2 rfl) ?_
            refine lv_iload_n hx hb d_RS_step_80 rfl (lv_at hl 3 rfl) ?_
            refine rdV ⟨hx, hb, hml, hown, hW⟩ (c_Rb_otherStandsOn l dC dI r k F A1_ rb pc hI ) (cwV 2 hW (gIn k_94 k_95 k_96 k_33 k_97) rfl rfl rfl (by decide +kernel) ⟨Nat.le_of_ble_eq_true rfl, Nat.le_of_ble_eq_true rfl⟩) hK hP (va_recv hK hP (ci := 1) (q0 := 1) rfl rfl) rfl hl.1 rfl (Nat.le_of_ble_eq_true rfl) d_RS_step_81 ⟨Nat.zero_le _, Nat.zero_le _⟩ ?_
            refine lv_if_eq (tgt := 89) hx hb d_RS_step_84 (by decide) (fun c_6 => ?_) (fun c_6 => ?_)
            · have hv := hv.trans (if_pos c_6)
              refine lv_aload_n hx hb d_RS_step_89 rfl (lv_at hl 1 rfl) ?_
              refine va_get (D := (dC, dI)) (ci := 0) (v := .ref (r 2)) (C := R_RS) (T := F_RS) (N := 6) hx hb hW i_RS hown hK hP 0 rfl rfl 5 (by decide) (hW _ k_5) (fun _ h9 => h9) rfl d_RS_step_90 ?_
              refine va_get (D := (dC, dI)) (ci := 2) (v := .ref (r 16)) (C := R_Gr) (T := F_Gr) (N := 7) hx hb hW i_Gr hown hK hP 2 rfl rfl 6 (by decide) (hW _ k_119) (fun _ h9 => h9) rfl d_RS_step_93 ?_
              refine lv_iload_n hx hb d_RS_step_96 rfl (lv_at hl 0 rfl) ?_
              refine lv_iconst (v := 1) hx hb d_RS_step_97 (by decide) ?_
              refine va_iast hx hb hK hP hD hS 16 13 rfl rfl (ixB hI c_5) d_RS_step_98 (fun H locs hP hD hS => ?_)
              have hP := pCA_13 hP
              have hD := dCA_13 hD
              generalize hAg2 : (uA A1_ 13 (upd (A1_ 13) (f_Gr_firstBegun F A1_ rb pc (F 0)).toNatClampNeg 1)) = A2_ at hP hD hv
              refine lv_aload_n hx hb d_RS_step_99 rfl (lv_at hl 1 rfl) ?_
              refine va_get (D := (dC, dI)) (ci := 0) (v := .ref (r 1)) (C := R_RS) (T := F_RS) (N := 6) hx hb hW i_RS hown hK hP 0 rfl rfl 4 (by decide) (hW _ k_3) (fun _ h9 => h9) rfl d_RS_step_100 ?_
              refine lv_iload_n hx hb d_RS_step_103 rfl (lv_at hl 2 rfl) ?_
              refine lv_iload_n hx hb d_RS_step_104 rfl (lv_at hl 3 rfl) ?_
              refine stVv (wf := fun u : SC => wC r k u.1 u.2) ⟨hx, hb, hml, hown, hW⟩ (c_Rb_moveTo l dC dI r k F A2_ _ rb pc hI (ixR hI c_1)) (cwV 2 hW (gIn k_139 k_140 k_141 k_33 k_142) rfl rfl rfl (by decide +kernel) ⟨Nat.le_of_ble_eq_true rfl, Nat.le_of_ble_eq_true rfl⟩) hK hP hD hS hA (va_recv hK hP (ci := 1) (q0 := 1) rfl rfl) rfl hl.1 rfl (Nat.le_of_ble_eq_true rfl) d_RS_step_105 ⟨Nat.zero_le _, Nat.zero_le _⟩ (fun H locs hP hD hS => ?_)
              have hP : va_P (dC, dI) classes (wC r k ((f_Rb_moveTo F A2_ rb pc).2.1) ((f_Rb_moveTo F A2_ rb pc).2.2)) H := hP
              have hD : va_D Ad (wC r k ((f_Rb_moveTo F A2_ rb pc).2.1) ((f_Rb_moveTo F A2_ rb pc).2.2)) := hD
              refine lv_iload_n hx hb d_RS_step_108 rfl (lv_at hl 0 rfl) ?_
              exact W.iret (v := f_Gr_firstBegun F A1_ rb pc (F 0)) hx hb hr (fun t ht hW9 => ⟨⟨f_Gr_firstBegun F A1_ rb pc (F 0), (((f_Rb_moveTo F A2_ rb pc).2.1), ((f_Rb_moveTo F A2_ rb pc).2.2)), rfl, hv.symm, by rw [ht]; exact hP, va_K.moved hW9.alike hK, hD⟩, hS.F ht⟩) hS.2.2 d_RS_step_109
            · have hv := hv.trans (if_neg c_6)
              refine lv_iconst (v := (-1)) hx hb d_RS_step_87 (by decide) ?_
              exact W.iret (v := (-1)) hx hb hr (fun t ht hW9 => ⟨⟨(-1), (F, A1_), rfl, hv.symm, by rw [ht]; exact hP, va_K.moved hW9.alike hK, hD⟩, hS.F ht⟩) hS.2.2 d_RS_step_88
          · have hv := hv.trans (if_pos c_5)
            refine lv_iconst (v := 0) hx hb d_RS_step_73 (by decide) ?_
            exact W.iret (v := 0) hx hb hr (fun t ht hW9 => ⟨⟨0, (F, A1_), rfl, hv.symm, by rw [ht]; exact hP, va_K.moved hW9.alike hK, hD⟩, hS.F ht⟩) hS.2.2 d_RS_step_74
        · have hv := hv.trans (if_neg c_4)
          rw [hv] at hk
          exact absurd hk c_4
      · have hv := hv.trans (if_pos c_3)
        rw [hv] at hk
        exact absurd (show (2 : Nat) = 0 from hk) (by decide)
    · have hv := hv.trans (if_neg c_2)
      rw [hv] at hk
      exact absurd hk c_2
  · have hv := hv.trans (if_neg c_1)
    rw [hv] at hk
    exact absurd hk c_1
set_option maxHeartbeats 4000000 in
set_option maxRecDepth 100000 in
theorem c_RS_step_x (l : Launch) (hl9 : l.stackTraces = false) (dC : Nat → ClassId) (dI : Nat → Nat → Nat) (r : Nat → Nat) (k : Nat → ClassId) (F : Nat → Int32) (A : Nat → Nat → Int32) (sz : Nat) (rb pc : Int32) (hI : CI F) (hk : ¬ (f_RS_step F A rb pc).1 = 0) : vx_Met l y_RS_step w_RS_step ({ frames := 7, cells := 1, slots := 6, locals := 103 }) (va_Pc [.ref (r 0), .int rb, .int pc] (XP (dC, dI) (wC r k F A) (tC k) sz)) (va_Qi (fun _ (_ : SC) => False) (fun (u : SC) t => aW (dC, dI) (tC k) (va_A (wC r k F A) sz) (wC r k u.1 u.2) t) (va_A (wC r k F A) sz)) (vx_X (fun u : Nat => f_RS_step F A rb pc = (u, 0, F, A)) (fun E u t => E = exN u ∧ aW (dC, dI) (tC k) (va_A (wC r k F A) sz) (wC r k F A) t) (va_A (wC r k F A) sz)) 1 6 (va_A (wC r k F A) sz) := by
  refine vx_ofW (cc := b_RS_step) (maxL := 4) (ret := (some .int)) (by decide) rfl ?_
  intro p e s m args below meth c s₁ B hml hEx hv0
  obtain ⟨rfl, ⟨hsz, hP, hK, hD0⟩, hXS⟩ := hv0
  have hx := B.exec
  have hb := B.bytes
  have hr := B.returns
  have hts := atoms_spec (ws := w_RS_step) B.pre
  have hW : ∀ w ∈ WALL, w.before ([.ref (r 0), .int rb, .int pc] : List Value).toArray s = true := fun w h => hts w (List.mem_cons_of_mem _ h)
  have hown : s.vm.findClass R_RS = some m.cls := findClass_of_methodNamed B.named
  have hlocks := B.notSynchronized
  subst hsz
  have hD := hD0.self (sz := s.heap.size)
  generalize hAe : va_A (wC r k F A) s.heap.size = Ad at hD hXS ⊢
  have hA : ∀ q : Nat, s.heap.size ≤ q → Ad q := fun q h => by rw [← hAe]; exact Or.inr h
  have hS : va_S Ad s.heap s.heap [] := va_S.rf
  have hl := lv_entry ([.ref (r 0), .int rb, .int pc]) (n := 4) (Nat.le_of_ble_eq_true rfl)
  rw [lg_entry_eq]
  generalize (lg_sl ([.ref (r 0), .int rb, .int pc]) ++ List.replicate (4 - (lg_sl ([.ref (r 0), .int rb, .int pc])).length) Slot.unset).toArray = ls at hl ⊢
  have hl : lv_has ls 4 [(0, .ref (r 0)), (1, .int rb), (2, .int pc)] := hl
  obtain ⟨⟨hp0, hp1⟩, ⟨hr0, hr1⟩, hg0, hg1⟩ := id hI; have hr2 : (F 2).toInt ≤ 60 := Int.le_trans hr1 (by decide)
  have hv := f_RS_step.eq_1 F A rb pc
  refine lv_aload_n hx hb d_RS_step_0 rfl (lv_at hl 0 rfl) ?_
  refine lv_iload_n hx hb d_RS_step_1 rfl (lv_at hl 1 rfl) ?_
  by_cases c_1 : f_RS_needRobot F A rb = 0
  · have hv := hv.trans (if_pos c_1)
    refine rdVv ⟨hx, hb, hml, hown, hW⟩ (c_RS_needRobot_k l dC dI r k F A rb   c_1) (cwV 1 hW (gIn k_77 k_78 k_79 k_15 k_80) rfl rfl rfl (by decide +kernel) ⟨Nat.le_of_ble_eq_true rfl, Nat.le_of_ble_eq_true rfl⟩) hK hP (va_recv hK hP (ci := 0) (q0 := 0) rfl rfl) rfl hl.1 rfl (Nat.le_of_ble_eq_true rfl) d_RS_step_2 ⟨Nat.zero_le _, Nat.zero_le _⟩ ?_
    refine lv_aload_n hx hb d_RS_step_5 rfl (lv_at hl 0 rfl) ?_
    refine lv_iload_n hx hb d_RS_step_6 rfl (lv_at hl 2 rfl) ?_
    by_cases c_2 : f_RS_needPiece F A pc = 0
    · have hv := hv.trans (if_pos c_2)
      refine rdVv ⟨hx, hb, hml, hown, hW⟩ (c_RS_needPiece_k l dC dI r k F A pc   c_2) (cwV 1 hW (gIn k_12 k_13 k_14 k_15 k_16) rfl rfl rfl (by decide +kernel) ⟨Nat.le_of_ble_eq_true rfl, Nat.le_of_ble_eq_true rfl⟩) hK hP (va_recv hK hP (ci := 0) (q0 := 0) rfl rfl) rfl hl.1 rfl (Nat.le_of_ble_eq_true rfl) d_RS_step_7 ⟨Nat.zero_le _, Nat.zero_le _⟩ ?_
      refine lv_aload_n hx hb d_RS_step_10 rfl (lv_at hl 0 rfl) ?_
      refine lv_iload_n hx hb d_RS_step_11 rfl (lv_at hl 2 rfl) ?_
      refine lv_aload_n hx hb d_RS_step_12 rfl (lv_at hl 0 rfl) ?_
      refine va_get (D := (dC, dI)) (ci := 0) (v := .ref (r 1)) (C := R_RS) (T := F_RS) (N := 6) hx hb hW i_RS hown hK hP 0 rfl rfl 4 (by decide) (hW _ k_3) (fun _ h9 => h9) rfl d_RS_step_13 ?_
      refine va_get (D := (dC, dI)) (ci := 1) (v := .ref (r 5)) (C := R_Rb) (T := F_Rb) (N := 7) hx hb hW i_Rb hown hK hP 1 rfl rfl 1 (by decide) (hW _ k_130) (fun _ h9 => h9) rfl d_RS_step_16 ?_
      refine lv_iload_n hx hb d_RS_step_19 rfl (lv_at hl 1 rfl) ?_
      refine va_iald hx hb hK hP 5 2 rfl rfl (ixR hI c_1) d_RS_step_20 ?_
      refine rdV ⟨hx, hb, hml, hown, hW⟩ (c_RS_areLinked l dC dI r k F A pc (A 2 rb.toNatClampNeg) hI (ixP hI c_2)) (cwV 2 hW (gIn k_131 k_132 k_133 k_15 k_134) rfl rfl rfl (by decide +kernel) ⟨Nat.le_of_ble_eq_true rfl, Nat.le_of_ble_eq_true rfl⟩) hK hP (va_recv hK hP (ci := 0) (q0 := 0) rfl rfl) rfl hl.1 rfl (Nat.le_of_ble_eq_true rfl) d_RS_step_21 ⟨Nat.zero_le _, Nat.zero_le _⟩ ?_
      refine lv_if_ne (tgt := 37) hx hb d_RS_step_24 (by decide) (fun c_3 => ?_) (fun c_3 => ?_)
      · have hv := hv.trans (if_neg c_3)
        refine lv_aload_n hx hb d_RS_step_37 rfl (lv_at hl 0 rfl) ?_
        refine lv_iload_n hx hb d_RS_step_38 rfl (lv_at hl 1 rfl) ?_
        by_cases c_4 : f_RS_needActive F A rb = 0
        · have hv := hv.trans (if_pos c_4)
          exact (hk ((congrArg Prod.fst hv).trans (by first | rfl | ((repeat' split) <;> (first | rfl | exact cd_next_L _ _ _ _ _ _ _))))).elim
        · have hv := hv.trans (if_neg c_4)
          refine gdV ⟨hx, hb, hml, hown, hW⟩ (c_RS_needActive_x l hl9 dC dI r k F A _ rb hI (ixR hI c_1) c_4) (cwV 1 hW (gIn k_89 k_90 k_91 k_15 k_92) rfl rfl rfl (by decide +kernel) ⟨Nat.le_of_ble_eq_true rfl, Nat.le_of_ble_eq_true rfl⟩) hK hP hXS hA (va_recv hK hP (ci := 0) (q0 := 0) rfl rfl) hS rfl hl.1 rfl (Nat.le_of_ble_eq_true rfl) d_RS_step_39 ⟨Nat.le_of_ble_eq_true rfl, Nat.le_of_ble_eq_true rfl⟩ (fun H locs q9 ce hP hS hce hcv hcl => ?_)
          exact vx_out (E := exN (f_RS_needActive F A rb)) (fun x hx => (hEx x hx).elim) hlocks hce hcv hcl (fun t ht ha => ⟨f_RS_needActive F A rb, hv, ⟨rfl, by rw [ht]; exact hP, va_K.moved ha hK, hD⟩, hS.F ht⟩) hS.2.2 (Nat.le_of_ble_eq_true rfl) (Nat.le_of_ble_eq_true rfl)
      · have hv := hv.trans (if_pos c_3)
        exact thr hx hb hl9 hown hW hXS tw_12 hS (hl.1.trans hml.symm) d_RS_step_27 d_RS_step_30 d_RS_step_31 d_RS_step_33 d_RS_step_36 hEx (Nat.le_of_ble_eq_true rfl) (Nat.le_of_ble_eq_true rfl) (Nat.le_of_ble_eq_true rfl) (Nat.le_of_ble_eq_true rfl) hlocks (fun t ha hsz hk9 => ⟨2, hv, ⟨rfl, hP.kept (fun k9 q hq => hk9 q.1 (hP k9 q hq).lt), va_K.moved ha hK, hD⟩, Nat.le_trans hS.1 hsz, fun q h1 h2 => (hk9 q (Nat.lt_of_lt_of_le h1 hS.1)).trans (hS.2.1 q h1 h2)⟩) hS.2.2 (Nat.le_of_ble_eq_true rfl) (Nat.le_of_ble_eq_true rfl)
    · have hv := hv.trans (if_neg c_2)
      refine gdV ⟨hx, hb, hml, hown, hW⟩ (c_RS_needPiece_x l hl9 dC dI r k F A _ pc   c_2) (cwV 1 hW (gIn k_12 k_13 k_14 k_15 k_16) rfl rfl rfl (by decide +kernel) ⟨Nat.le_of_ble_eq_true rfl, Nat.le_of_ble_eq_true rfl⟩) hK hP hXS hA (va_recv hK hP (ci := 0) (q0 := 0) rfl rfl) hS rfl hl.1 rfl (Nat.le_of_ble_eq_true rfl) d_RS_step_7 ⟨Nat.le_of_ble_eq_true rfl, Nat.le_of_ble_eq_true rfl⟩ (fun H locs q9 ce hP hS hce hcv hcl => ?_)
      exact vx_out (E := exN (f_RS_needPiece F A pc)) (fun x hx => (hEx x hx).elim) hlocks hce hcv hcl (fun t ht ha => ⟨f_RS_needPiece F A pc, hv, ⟨rfl, by rw [ht]; exact hP, va_K.moved ha hK, hD⟩, hS.F ht⟩) hS.2.2 (Nat.le_of_ble_eq_true rfl) (Nat.le_of_ble_eq_true rfl)
  · have hv := hv.trans (if_neg c_1)
    refine gdV ⟨hx, hb, hml, hown, hW⟩ (c_RS_needRobot_x l hl9 dC dI r k F A _ rb   c_1) (cwV 1 hW (gIn k_77 k_78 k_79 k_15 k_80) rfl rfl rfl (by decide +kernel) ⟨Nat.le_of_ble_eq_true rfl, Nat.le_of_ble_eq_true rfl⟩) hK hP hXS hA (va_recv hK hP (ci := 0) (q0 := 0) rfl rfl) hS rfl hl.1 rfl (Nat.le_of_ble_eq_true rfl) d_RS_step_2 ⟨Nat.le_of_ble_eq_true rfl, Nat.le_of_ble_eq_true rfl⟩ (fun H locs q9 ce hP hS hce hcv hcl => ?_)
    exact vx_out (E := exN (f_RS_needRobot F A rb)) (fun x hx => (hEx x hx).elim) hlocks hce hcv hcl (fun t ht ha => ⟨f_RS_needRobot F A rb, hv, ⟨rfl, by rw [ht]; exact hP, va_K.moved ha hK, hD⟩, hS.F ht⟩) hS.2.2 (Nat.le_of_ble_eq_true rfl) (Nat.le_of_ble_eq_true rfl)
def f_RS_pull (F : Nat → Int32) (A : Nat → Nat → Int32) (rb : Int32) : Nat × Int32 × SC := if f_RS_needRobot F A rb = 0 then (if A 4 rb.toNatClampNeg = (-1) then (3, 0, F, A) else (0, A 4 rb.toNatClampNeg, F, (uA (uA A 4 (upd (A 4) rb.toNatClampNeg (-1))) 7 (upd ((uA A 4 (upd (A 4) rb.toNatClampNeg (-1))) 7) rb.toNatClampNeg (F 0))))) else (f_RS_needRobot F A rb, 0, F, A)
set_option maxHeartbeats 4000000 in
set_option maxRecDepth 100000 in
theorem c_RS_pull_k (l : Launch) (dC : Nat → ClassId) (dI : Nat → Nat → Nat) (r : Nat → Nat) (k : Nat → ClassId) (F : Nat → Int32) (A : Nat → Nat → Int32) (sz : Nat) (rb : Int32) (hI : CI F) (hk : (f_RS_pull F A rb).1 = 0) : Met l y_RS_pull w_RS_pull ({ frames := 1, cells := 0, slots := 0, locals := 21 }) (va_Pc [.ref (r 0), .int rb] (SP (dC, dI) (wC r k F A) (tC k) sz)) (va_Qi (fun v (u : SC) => (0, v, u) = f_RS_pull F A rb) (fun (u : SC) t => aW (dC, dI) (tC k) (va_A (wC r k F A) sz) (wC r k u.1 u.2) t) (va_A (wC r k F A) sz)) 0 0 (va_A (wC r k F A) sz) := by
  refine Met.ofW (cc := b_RS_pull) (maxL := 3) (ret := (some .int)) (by decide) rfl ?_
  intro p e s m args below meth c s₁ B hml hv0
  obtain ⟨rfl, hsz, hP, hK, hD0⟩ := hv0
  have hx := B.exec
  have hb := B.bytes
  have hr := B.returns
  have hts := atoms_spec (ws := w_RS_pull) B.pre
  have hW : ∀ w ∈ WALL, w.before ([.ref (r 0), .int rb] : List Value).toArray s = true := fun w h => hts w (List.mem_cons_of_mem _ h)
  have hown : s.vm.findClass R_RS = some m.cls := findClass_of_methodNamed B.named
  have hlocks := B.notSynchronized
  subst hsz
  have hD := hD0.self (sz := s.heap.size)
  generalize hAe : va_A (wC r k F A) s.heap.size = Ad at hD ⊢
  have hA : ∀ q : Nat, s.heap.size ≤ q → Ad q := fun q h => by rw [← hAe]; exact Or.inr h
  have hS : va_S Ad s.heap s.heap [] := va_S.rf
  have hl := lv_entry ([.ref (r 0), .int rb]) (n := 3) (Nat.le_of_ble_eq_true rfl)
  rw [lg_entry_eq]
  generalize (lg_sl ([.ref (r 0), .int rb]) ++ List.replicate (3 - (lg_sl ([.ref (r 0), .int rb])).length) Slot.unset).toArray = ls at hl ⊢
  have hl : lv_has ls 3 [(0, .ref (r 0)), (1, .int rb)] := hl
  obtain ⟨⟨hp0, hp1⟩, ⟨hr0, hr1⟩, hg0, hg1⟩ := id hI; have hr2 : (F 2).toInt ≤ 60 := Int.le_trans hr1 (by decide)
  have hv := f_RS_pull.eq_1 F A rb
  refine lv_aload_n hx hb d_RS_pull_0 rfl (lv_at hl 0 rfl) ?_
  refine lv_iload_n hx hb d_RS_pull_1 rfl (lv_at hl 1 rfl) ?_
  by_cases c_1 : f_RS_needRobot F A rb = 0
  · have hv := hv.trans (if_pos c_1)
    refine rdVv ⟨hx, hb, hml, hown, hW⟩ (c_RS_needRobot_k l dC dI r k F A rb   c_1) (cwV 1 hW (gIn k_77 k_78 k_79 k_15 k_80) rfl rfl rfl (by decide +kernel) ⟨Nat.le_of_ble_eq_true rfl, Nat.le_of_ble_eq_true rfl⟩) hK hP (va_recv hK hP (ci := 0) (q0 := 0) rfl rfl) rfl hl.1 rfl (Nat.le_of_ble_eq_true rfl) d_RS_pull_2 ⟨Nat.zero_le _, Nat.zero_le _⟩ ?_
    refine lv_aload_n hx hb d_RS_pull_5 rfl (lv_at hl 0 rfl) ?_
    refine va_get (D := (dC, dI)) (ci := 0) (v := .ref (r 1)) (C := R_RS) (T := F_RS) (N := 6) hx hb hW i_RS hown hK hP 0 rfl rfl 4 (by decide) (hW _ k_3) (fun _ h9 => h9) rfl d_RS_pull_6 ?_
    refine va_get (D := (dC, dI)) (ci := 1) (v := .ref (r 7)) (C := R_Rb) (T := F_Rb) (N := 7) hx hb hW i_Rb hown hK hP 1 rfl rfl 3 (by decide) (hW _ k_143) (fun _ h9 => h9) rfl d_RS_pull_9 ?_
    refine lv_iload_n hx hb d_RS_pull_12 rfl (lv_at hl 1 rfl) ?_
    refine va_iald hx hb hK hP 7 4 rfl rfl (ixR hI c_1) d_RS_pull_13 ?_
    refine lv_istore_n (lv' := [(2, .int (A 4 rb.toNatClampNeg)), (0, .ref (r 0)), (1, .int rb)]) hx hb d_RS_pull_14 rfl hl (by decide) rfl (fun ls hl => ?_)
    refine lv_iload_n hx hb d_RS_pull_15 rfl (lv_at hl 0 rfl) ?_
    refine lv_iconst (v := (-1)) hx hb d_RS_pull_16 (by decide) ?_
    refine lv_icmp_ne (tgt := 30) hx hb d_RS_pull_17 (by decide) (fun c_2 => ?_) (fun c_2 => ?_)
    · have hv := hv.trans (if_neg c_2)
      refine lv_aload_n hx hb d_RS_pull_30 rfl (lv_at hl 1 rfl) ?_
      refine va_get (D := (dC, dI)) (ci := 0) (v := .ref (r 1)) (C := R_RS) (T := F_RS) (N := 6) hx hb hW i_RS hown hK hP 0 rfl rfl 4 (by decide) (hW _ k_3) (fun _ h9 => h9) rfl d_RS_pull_31 ?_
      refine va_get (D := (dC, dI)) (ci := 1) (v := .ref (r 7)) (C := R_Rb) (T := F_Rb) (N := 7) hx hb hW i_Rb hown hK hP 1 rfl rfl 3 (by decide) (hW _ k_143) (fun _ h9 => h9) rfl d_RS_pull_34 ?_
      refine lv_iload_n hx hb d_RS_pull_37 rfl (lv_at hl 2 rfl) ?_
      refine lv_iconst (v := (-1)) hx hb d_RS_pull_38 (by decide) ?_
      refine va_iast hx hb hK hP hD hS 7 4 rfl rfl (ixR hI c_1) d_RS_pull_39 (fun H locs hP hD hS => ?_)
      have hP := pCA_4 hP
      have hD := dCA_4 hD
      generalize hAg1 : (uA A 4 (upd (A 4) rb.toNatClampNeg (-1))) = A1_ at hP hD hv
      refine lv_aload_n hx hb d_RS_pull_40 rfl (lv_at hl 1 rfl) ?_
      refine va_get (D := (dC, dI)) (ci := 0) (v := .ref (r 1)) (C := R_RS) (T := F_RS) (N := 6) hx hb hW i_RS hown hK hP 0 rfl rfl 4 (by decide) (hW _ k_3) (fun _ h9 => h9) rfl d_RS_pull_41 ?_
      refine va_get (D := (dC, dI)) (ci := 1) (v := .ref (r 10)) (C := R_Rb) (T := F_Rb) (N := 7) hx hb hW i_Rb hown hK hP 1 rfl rfl 6 (by decide) (hW _ k_93) (fun _ h9 => h9) rfl d_RS_pull_44 ?_
      refine lv_iload_n hx hb d_RS_pull_47 rfl (lv_at hl 2 rfl) ?_
      refine lv_aload_n hx hb d_RS_pull_48 rfl (lv_at hl 1 rfl) ?_
      refine va_get (D := (dC, dI)) (ci := 0) (v := .int (F 0)) (C := R_RS) (T := F_RS) (N := 6) hx hb hW i_RS hown hK hP 0 rfl rfl 0 (by decide) (hW _ k_7) (fun _ h9 => h9) rfl d_RS_pull_49 ?_
      refine va_iast hx hb hK hP hD hS 10 7 rfl rfl (ixR hI c_1) d_RS_pull_52 (fun H locs hP hD hS => ?_)
      have hP := pCA_7 hP
      have hD := dCA_7 hD
      generalize hAg2 : (uA A1_ 7 (upd (A1_ 7) rb.toNatClampNeg (F 0))) = A2_ at hP hD hv
      refine lv_iload_n hx hb d_RS_pull_53 rfl (lv_at hl 0 rfl) ?_
      exact W.iret (v := A 4 rb.toNatClampNeg) hx hb hr (fun t ht hW9 => ⟨⟨A 4 rb.toNatClampNeg, (F, A2_), rfl, hv.symm, by rw [ht]; exact hP, va_K.moved hW9.alike hK, hD⟩, hS.F ht⟩) hS.2.2 d_RS_pull_54
    · have hv := hv.trans (if_pos c_2)
      rw [hv] at hk
      exact absurd (show (3 : Nat) = 0 from hk) (by decide)
  · have hv := hv.trans (if_neg c_1)
    rw [hv] at hk
    exact absurd hk c_1
set_option maxHeartbeats 4000000 in
set_option maxRecDepth 100000 in
theorem c_RS_pull_x (l : Launch) (hl9 : l.stackTraces = false) (dC : Nat → ClassId) (dI : Nat → Nat → Nat) (r : Nat → Nat) (k : Nat → ClassId) (F : Nat → Int32) (A : Nat → Nat → Int32) (sz : Nat) (rb : Int32) (hI : CI F) (hk : ¬ (f_RS_pull F A rb).1 = 0) : vx_Met l y_RS_pull w_RS_pull ({ frames := 7, cells := 1, slots := 6, locals := 103 }) (va_Pc [.ref (r 0), .int rb] (XP (dC, dI) (wC r k F A) (tC k) sz)) (va_Qi (fun _ (_ : SC) => False) (fun (u : SC) t => aW (dC, dI) (tC k) (va_A (wC r k F A) sz) (wC r k u.1 u.2) t) (va_A (wC r k F A) sz)) (vx_X (fun u : Nat => f_RS_pull F A rb = (u, 0, F, A)) (fun E u t => E = exN u ∧ aW (dC, dI) (tC k) (va_A (wC r k F A) sz) (wC r k F A) t) (va_A (wC r k F A) sz)) 1 6 (va_A (wC r k F A) sz) := by
  refine vx_ofW (cc := b_RS_pull) (maxL := 3) (ret := (some .int)) (by decide) rfl ?_
  intro p e s m args below meth c s₁ B hml hEx hv0
  obtain ⟨rfl, ⟨hsz, hP, hK, hD0⟩, hXS⟩ := hv0
  have hx := B.exec
  have hb := B.bytes
  have hr := B.returns
  have hts := atoms_spec (ws := w_RS_pull) B.pre
  have hW : ∀ w ∈ WALL, w.before ([.ref (r 0), .int rb] : List Value).toArray s = true := fun w h => hts w (List.mem_cons_of_mem _ h)
  have hown : s.vm.findClass R_RS = some m.cls := findClass_of_methodNamed B.named
  have hlocks := B.notSynchronized
  subst hsz
  have hD := hD0.self (sz := s.heap.size)
  generalize hAe : va_A (wC r k F A) s.heap.size = Ad at hD hXS ⊢
  have hA : ∀ q : Nat, s.heap.size ≤ q → Ad q := fun q h => by rw [← hAe]; exact Or.inr h
  have hS : va_S Ad s.heap s.heap [] := va_S.rf
  have hl := lv_entry ([.ref (r 0), .int rb]) (n := 3) (Nat.le_of_ble_eq_true rfl)
  rw [lg_entry_eq]
  generalize (lg_sl ([.ref (r 0), .int rb]) ++ List.replicate (3 - (lg_sl ([.ref (r 0), .int rb])).length) Slot.unset).toArray = ls at hl ⊢
  have hl : lv_has ls 3 [(0, .ref (r 0)), (1, .int rb)] := hl
  obtain ⟨⟨hp0, hp1⟩, ⟨hr0, hr1⟩, hg0, hg1⟩ := id hI; have hr2 : (F 2).toInt ≤ 60 := Int.le_trans hr1 (by decide)
  have hv := f_RS_pull.eq_1 F A rb
  refine lv_aload_n hx hb d_RS_pull_0 rfl (lv_at hl 0 rfl) ?_
  refine lv_iload_n hx hb d_RS_pull_1 rfl (lv_at hl 1 rfl) ?_
  by_cases c_1 : f_RS_needRobot F A rb = 0
  · have hv := hv.trans (if_pos c_1)
    refine rdVv ⟨hx, hb, hml, hown, hW⟩ (c_RS_needRobot_k l dC dI r k F A rb   c_1) (cwV 1 hW (gIn k_77 k_78 k_79 k_15 k_80) rfl rfl rfl (by decide +kernel) ⟨Nat.le_of_ble_eq_true rfl, Nat.le_of_ble_eq_true rfl⟩) hK hP (va_recv hK hP (ci := 0) (q0 := 0) rfl rfl) rfl hl.1 rfl (Nat.le_of_ble_eq_true rfl) d_RS_pull_2 ⟨Nat.zero_le _, Nat.zero_le _⟩ ?_
    refine lv_aload_n hx hb d_RS_pull_5 rfl (lv_at hl 0 rfl) ?_
    refine va_get (D := (dC, dI)) (ci := 0) (v := .ref (r 1)) (C := R_RS) (T := F_RS) (N := 6) hx hb hW i_RS hown hK hP 0 rfl rfl 4 (by decide) (hW _ k_3) (fun _ h9 => h9) rfl d_RS_pull_6 ?_
    refine va_get (D := (dC, dI)) (ci := 1) (v := .ref (r 7)) (C := R_Rb) (T := F_Rb) (N := 7) hx hb hW i_Rb hown hK hP 1 rfl rfl 3 (by decide) (hW _ k_143) (fun _ h9 => h9) rfl d_RS_pull_9 ?_
    refine lv_iload_n hx hb d_RS_pull_12 rfl (lv_at hl 1 rfl) ?_
    refine va_iald hx hb hK hP 7 4 rfl rfl (ixR hI c_1) d_RS_pull_13 ?_
    refine lv_istore_n (lv' := [(2, .int (A 4 rb.toNatClampNeg)), (0, .ref (r 0)), (1, .int rb)]) hx hb d_RS_pull_14 rfl hl (by decide) rfl (fun ls hl => ?_)
    refine lv_iload_n hx hb d_RS_pull_15 rfl (lv_at hl 0 rfl) ?_
    refine lv_iconst (v := (-1)) hx hb d_RS_pull_16 (by decide) ?_
    refine lv_icmp_ne (tgt := 30) hx hb d_RS_pull_17 (by decide) (fun c_2 => ?_) (fun c_2 => ?_)
    · have hv := hv.trans (if_neg c_2)
      exact (hk ((congrArg Prod.fst hv).trans (by first | rfl | ((repeat' split) <;> (first | rfl | exact cd_next_L _ _ _ _ _ _ _))))).elim
    · have hv := hv.trans (if_pos c_2)
      exact thr hx hb hl9 hown hW hXS tw_13 hS (hl.1.trans hml.symm) d_RS_pull_20 d_RS_pull_23 d_RS_pull_24 d_RS_pull_26 d_RS_pull_29 hEx (Nat.le_of_ble_eq_true rfl) (Nat.le_of_ble_eq_true rfl) (Nat.le_of_ble_eq_true rfl) (Nat.le_of_ble_eq_true rfl) hlocks (fun t ha hsz hk9 => ⟨3, hv, ⟨rfl, hP.kept (fun k9 q hq => hk9 q.1 (hP k9 q hq).lt), va_K.moved ha hK, hD⟩, Nat.le_trans hS.1 hsz, fun q h1 h2 => (hk9 q (Nat.lt_of_lt_of_le h1 hS.1)).trans (hS.2.1 q h1 h2)⟩) hS.2.2 (Nat.le_of_ble_eq_true rfl) (Nat.le_of_ble_eq_true rfl)
  · have hv := hv.trans (if_neg c_1)
    refine gdV ⟨hx, hb, hml, hown, hW⟩ (c_RS_needRobot_x l hl9 dC dI r k F A _ rb   c_1) (cwV 1 hW (gIn k_77 k_78 k_79 k_15 k_80) rfl rfl rfl (by decide +kernel) ⟨Nat.le_of_ble_eq_true rfl, Nat.le_of_ble_eq_true rfl⟩) hK hP hXS hA (va_recv hK hP (ci := 0) (q0 := 0) rfl rfl) hS rfl hl.1 rfl (Nat.le_of_ble_eq_true rfl) d_RS_pull_2 ⟨Nat.le_of_ble_eq_true rfl, Nat.le_of_ble_eq_true rfl⟩ (fun H locs q9 ce hP hS hce hcv hcl => ?_)
    exact vx_out (E := exN (f_RS_needRobot F A rb)) (fun x hx => (hEx x hx).elim) hlocks hce hcv hcl (fun t ht ha => ⟨f_RS_needRobot F A rb, hv, ⟨rfl, by rw [ht]; exact hP, va_K.moved ha hK, hD⟩, hS.F ht⟩) hS.2.2 (Nat.le_of_ble_eq_true rfl) (Nat.le_of_ble_eq_true rfl)
