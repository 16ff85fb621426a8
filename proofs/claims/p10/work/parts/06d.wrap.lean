def cm_Lw_report (u : Nat) : Int32 := match u with | 1 => 1 | _ => 0
set_option maxHeartbeats 4000000 in
set_option maxRecDepth 100000 in
theorem c_Lw_report (l : Launch) (hl9 : l.stackTraces = false) (dC : Nat → ClassId) (dI : Nat → Nat → Nat) (r : Nat → Nat) (k : Nat → ClassId) (F : Nat → Int32) (A : Nat → Nat → Int32) (o : Nat) (kO : ClassId) (f : Nat → Int64) (sz : Nat) (p0 : Int32) (hI : CI F) : Met l y_Lw_report w_Lw_report ({ frames := 8, cells := 1, slots := 6, locals := 125 }) (va_Pc [.ref (r 0), .int p0, .ref o] (XP (dC, dI) (wL r k F A o kO f) (tL k kO) sz)) (va_Qi (fun v (u : SL) => (v, u) = hB cm_Lw_report f (f_RS_report F A p0)) (fun (u : SL) t => aW (dC, dI) (tL k kO) (va_A (wL r k F A o kO f) sz) (wL r k u.2.1 u.2.2 o kO u.1) t) (va_A (wL r k F A o kO f) sz)) 1 6 (va_A (wL r k F A o kO f) sz) := by
  refine va_MetW (cc := b_Lw_report) (maxL := 4) (ret := (some .int)) (hh := [(0, 16, 19, 19)]) (by decide) rfl ?_
  intro p e s m args below meth c s₁ B hml hv0
  obtain ⟨rfl, ⟨hsz, hP, hK, hD0⟩, hXS⟩ := hv0
  have hx := B.exec
  have hb := B.bytes
  have hr := B.returns
  have hts := atoms_spec (ws := w_Lw_report) B.pre
  have hW : ∀ w ∈ WALL, w.before ([.ref (r 0), .int p0, .ref o] : List Value).toArray s = true := fun w h => hts w (List.mem_cons_of_mem _ h)
  have hown : s.vm.findClass R_law = some m.cls := findClass_of_methodNamed B.named
  have hlocks := B.notSynchronized
  have hTab : c.exceptionTable.toList = tableOf [(0, 16, 19, 19)] := vx_table (x := y_Lw_report) B (hts _ List.mem_cons_self)
  subst hsz
  have hD := hD0.self (sz := s.heap.size)
  generalize hAe : va_A (wL r k F A o kO f) s.heap.size = Ad at hD hXS ⊢
  have hA : ∀ q : Nat, s.heap.size ≤ q → Ad q := fun q h => by rw [← hAe]; exact Or.inr h
  have hS : va_S Ad s.heap s.heap [] := va_S.rf
  have hl := lv_entry ([.ref (r 0), .int p0, .ref o]) (n := 4) (Nat.le_of_ble_eq_true rfl)
  rw [lg_entry_eq]
  generalize (lg_sl ([.ref (r 0), .int p0, .ref o]) ++ List.replicate (4 - (lg_sl ([.ref (r 0), .int p0, .ref o])).length) Slot.unset).toArray = ls at hl ⊢
  have hl : lv_has ls 4 [(0, .ref (r 0)), (1, .int p0), (2, .ref o)] := hl
  have hR : va_P (dC, dI) classes [(o, .inl (kO, 1, .inr (.inl f)))] s.heap := pPre hP
  have hC : va_P (dC, dI) classes (wC r k F A) s.heap := pSuf hP
  have hKc : va_K (dC, dI) classes (tC k) s := hK.sub [1, 2, 3, 4, 5, 6, 7, 8, 9, 10, 11, 12, 13, 14] rfl
  refine lv_aload_n hx hb d_Lw_report_0 rfl (lv_at hl 2 rfl) ?_
  refine lv_iconst (v := 0) hx hb d_Lw_report_1 (by decide) ?_
  refine lv_aload_n hx hb d_Lw_report_2 rfl (lv_at hl 0 rfl) ?_
  refine lv_iload_n hx hb d_Lw_report_3 rfl (lv_at hl 1 rfl) ?_
  by_cases h0 : (f_RS_report F A p0).1 = 0
  rotate_left
  · refine xcV (wr := [(o, .inl (kO, 1, .inr (.inl f)))]) (wf := fun u : SC => wC r k u.1 u.2) (F0' := F) (A0' := A) ⟨hx, hb, hml, hown, hW⟩ (c_RS_report_x l hl9 dC dI r k F A _ p0 hI h0) (cwV 1 hW (gIn k_323 k_324 k_325 k_15 k_326) rfl rfl rfl (by decide +kernel) ⟨Nat.le_of_ble_eq_true rfl, Nat.le_of_ble_eq_true rfl⟩) hKc hR hC hD hS hA hXS (va_recv hKc hC (ci := 0) (q0 := 0) rfl rfl) rfl hl.1 rfl (Nat.le_of_ble_eq_true rfl) d_Lw_report_4 ⟨Nat.le_of_ble_eq_true rfl, Nat.le_of_ble_eq_true rfl⟩ ?_
    intro u hval H locs q9 ce hR hC hD hS hce hcv hcl
    rw [hval] at h0
    rcases cd_RS_report F A p0 with h9 | h9
    · rw [hval] at h9; exact absurd h9 h0
    · rw [hval] at h9
      have h9 : u = 1 := h9
      subst h9
      refine vx_catch (own := R_law) (name := "java/util/NoSuchElementException") (E := "java/util/NoSuchElementException") hown [] ⟨0, 16, 19, 19⟩ [] (by rw [hTab]; rfl) (fun z hz => nomatch hz) (by decide) (by decide) (hW _ k_280) (va_Nw.use rfl (hXS.2.2.1 ("java/util/NoSuchElementException", "java/util/NoSuchElementException") (by decide))) hce hcv hcl ?_
      refine lv_astore_n (lv' := [(3, .ref q9), (0, .ref (r 0)), (1, .int p0), (2, .ref o)]) hx hb d_Lw_report_19 rfl hl (by decide) rfl (fun ls hl => ?_)
      refine lv_iconst (v := 1) hx hb d_Lw_report_20 (by decide) ?_
      exact W.widen (k := 1) (n := 6) (Nat.le_of_ble_eq_true rfl) (Nat.le_of_ble_eq_true rfl) (W.iret (v := 1) hx hb hr (fun t ht hW9 => ⟨⟨1, (f, F, A), rfl, by rw [hval]; rfl, by rw [ht]; exact pApp hR hC, va_K.moved hW9.alike hK, hD⟩, hS.F ht⟩) hS.2.2 d_Lw_report_21)
  · refine okV (wr := [(o, .inl (kO, 1, .inr (.inl f)))]) (wf := fun u : SC => wC r k u.1 u.2) ⟨hx, hb, hml, hown, hW⟩ (c_RS_report_k l dC dI r k F A _ p0 hI h0) (cwV 1 hW (gIn k_323 k_324 k_325 k_15 k_326) rfl rfl rfl (by decide +kernel) ⟨Nat.le_of_ble_eq_true rfl, Nat.le_of_ble_eq_true rfl⟩) hKc hR hC hD hS hA (va_recv hKc hC (ci := 0) (q0 := 0) rfl rfl) rfl hl.1 rfl (Nat.le_of_ble_eq_true rfl) d_Lw_report_4 ⟨Nat.zero_le _, Nat.zero_le _⟩ (fun H locs hR hC hD hS => ?_)
    refine lv_if_eq (tgt := 14) hx hb d_Lw_report_7 (by decide) (fun c9 => ?_) (fun c9 => ?_)
    · refine lv_lconst (v := 0) hx hb d_Lw_report_14 rfl ?_
      refine va_last hx hb hK (pApp hR hC) hD hS 0 0 rfl rfl in01 d_Lw_report_15 (fun H locs hP hD hS => ?_)
      have hP : va_P (dC, dI) classes (wL r k (f_RS_report F A p0).2.2.1 (f_RS_report F A p0).2.2.2 o kO (vp_updL f (0 : Int32).toNatClampNeg 0)) H := hP
      have hD : va_D Ad (wL r k (f_RS_report F A p0).2.2.1 (f_RS_report F A p0).2.2.2 o kO (vp_updL f (0 : Int32).toNatClampNeg 0)) := hD
      refine lv_goto (tgt := 22) hx hb d_Lw_report_16 (by decide) ?_
      refine lv_iconst (v := 0) hx hb d_Lw_report_22 (by decide) ?_
      exact W.widen (k := 1) (n := 6) (Nat.le_of_ble_eq_true rfl) (Nat.le_of_ble_eq_true rfl) (W.iret (v := 0) hx hb hr (fun t ht hW9 => ⟨⟨0, ((vp_updL f (0 : Int32).toNatClampNeg 0), (f_RS_report F A p0).2.2), rfl, by rw [hB, if_pos h0, if_pos c9], by rw [ht]; exact hP, va_K.moved hW9.alike hK, hD⟩, hS.F ht⟩) hS.2.2 d_Lw_report_23)
    · refine lv_lconst (v := 1) hx hb d_Lw_report_10 rfl ?_
      refine lv_goto (tgt := 15) hx hb d_Lw_report_11 (by decide) ?_
      refine va_last hx hb hK (pApp hR hC) hD hS 0 0 rfl rfl in01 d_Lw_report_15 (fun H locs hP hD hS => ?_)
      have hP : va_P (dC, dI) classes (wL r k (f_RS_report F A p0).2.2.1 (f_RS_report F A p0).2.2.2 o kO (vp_updL f (0 : Int32).toNatClampNeg 1)) H := hP
      have hD : va_D Ad (wL r k (f_RS_report F A p0).2.2.1 (f_RS_report F A p0).2.2.2 o kO (vp_updL f (0 : Int32).toNatClampNeg 1)) := hD
      refine lv_goto (tgt := 22) hx hb d_Lw_report_16 (by decide) ?_
      refine lv_iconst (v := 0) hx hb d_Lw_report_22 (by decide) ?_
      exact W.widen (k := 1) (n := 6) (Nat.le_of_ble_eq_true rfl) (Nat.le_of_ble_eq_true rfl) (W.iret (v := 0) hx hb hr (fun t ht hW9 => ⟨⟨0, ((vp_updL f (0 : Int32).toNatClampNeg 1), (f_RS_report F A p0).2.2), rfl, by rw [hB, if_pos h0, if_neg c9], by rw [ht]; exact hP, va_K.moved hW9.alike hK, hD⟩, hS.F ht⟩) hS.2.2 d_Lw_report_23)
def cm_Lw_pass (u : Nat) : Int32 := match u with | 2 => 1 | _ => 0
set_option maxHeartbeats 4000000 in
set_option maxRecDepth 100000 in
theorem c_Lw_pass (l : Launch) (hl9 : l.stackTraces = false) (dC : Nat → ClassId) (dI : Nat → Nat → Nat) (r : Nat → Nat) (k : Nat → ClassId) (F : Nat → Int32) (A : Nat → Nat → Int32) (o : Nat) (kO : ClassId) (f : Nat → Int64) (sz : Nat) (p0 : Int32) (hI : CI F) : Met l y_Lw_pass w_Lw_pass ({ frames := 7, cells := 1, slots := 6, locals := 103 }) (va_Pc [.ref (r 0), .int p0, .ref o] (XP (dC, dI) (wL r k F A o kO f) (tL k kO) sz)) (va_Qi (fun v (u : SL) => (v, u) = hL cm_Lw_pass f (f_RS_pass F A p0)) (fun (u : SL) t => aW (dC, dI) (tL k kO) (va_A (wL r k F A o kO f) sz) (wL r k u.2.1 u.2.2 o kO u.1) t) (va_A (wL r k F A o kO f) sz)) 1 6 (va_A (wL r k F A o kO f) sz) := by
  refine va_MetW (cc := b_Lw_pass) (maxL := 4) (ret := (some .int)) (hh := [(0, 9, 12, 21)]) (by decide) rfl ?_
  intro p e s m args below meth c s₁ B hml hv0
  obtain ⟨rfl, ⟨hsz, hP, hK, hD0⟩, hXS⟩ := hv0
  have hx := B.exec
  have hb := B.bytes
  have hr := B.returns
  have hts := atoms_spec (ws := w_Lw_pass) B.pre
  have hW : ∀ w ∈ WALL, w.before ([.ref (r 0), .int p0, .ref o] : List Value).toArray s = true := fun w h => hts w (List.mem_cons_of_mem _ h)
  have hown : s.vm.findClass R_law = some m.cls := findClass_of_methodNamed B.named
  have hlocks := B.notSynchronized
  have hTab : c.exceptionTable.toList = tableOf [(0, 9, 12, 21)] := vx_table (x := y_Lw_pass) B (hts _ List.mem_cons_self)
  subst hsz
  have hD := hD0.self (sz := s.heap.size)
  generalize hAe : va_A (wL r k F A o kO f) s.heap.size = Ad at hD hXS ⊢
  have hA : ∀ q : Nat, s.heap.size ≤ q → Ad q := fun q h => by rw [← hAe]; exact Or.inr h
  have hS : va_S Ad s.heap s.heap [] := va_S.rf
  have hl := lv_entry ([.ref (r 0), .int p0, .ref o]) (n := 4) (Nat.le_of_ble_eq_true rfl)
  rw [lg_entry_eq]
  generalize (lg_sl ([.ref (r 0), .int p0, .ref o]) ++ List.replicate (4 - (lg_sl ([.ref (r 0), .int p0, .ref o])).length) Slot.unset).toArray = ls at hl ⊢
  have hl : lv_has ls 4 [(0, .ref (r 0)), (1, .int p0), (2, .ref o)] := hl
  have hR : va_P (dC, dI) classes [(o, .inl (kO, 1, .inr (.inl f)))] s.heap := pPre hP
  have hC : va_P (dC, dI) classes (wC r k F A) s.heap := pSuf hP
  have hKc : va_K (dC, dI) classes (tC k) s := hK.sub [1, 2, 3, 4, 5, 6, 7, 8, 9, 10, 11, 12, 13, 14] rfl
  refine lv_aload_n hx hb d_Lw_pass_0 rfl (lv_at hl 2 rfl) ?_
  refine lv_iconst (v := 0) hx hb d_Lw_pass_1 (by decide) ?_
  refine lv_aload_n hx hb d_Lw_pass_2 rfl (lv_at hl 0 rfl) ?_
  refine lv_iload_n hx hb d_Lw_pass_3 rfl (lv_at hl 1 rfl) ?_
  by_cases h0 : (f_RS_pass F A p0).1 = 0
  rotate_left
  · refine xcV (wr := [(o, .inl (kO, 1, .inr (.inl f)))]) (wf := fun u : SC => wC r k u.1 u.2) (F0' := F) (A0' := A) ⟨hx, hb, hml, hown, hW⟩ (c_RS_pass_x l hl9 dC dI r k F A _ p0 hI h0) (cwV 1 hW (gIn k_327 k_328 k_329 k_15 k_330) rfl rfl rfl (by decide +kernel) ⟨Nat.le_of_ble_eq_true rfl, Nat.le_of_ble_eq_true rfl⟩) hKc hR hC hD hS hA hXS (va_recv hKc hC (ci := 0) (q0 := 0) rfl rfl) rfl hl.1 rfl (Nat.le_of_ble_eq_true rfl) d_Lw_pass_4 ⟨Nat.le_of_ble_eq_true rfl, Nat.le_of_ble_eq_true rfl⟩ ?_
    intro u hval H locs q9 ce hR hC hD hS hce hcv hcl
    rw [hval] at h0
    rcases cd_RS_pass F A p0 with h9 | h9
    · rw [hval] at h9; exact absurd h9 h0
    · rw [hval] at h9
      have h9 : u = 2 := h9
      subst h9
      refine vx_catch (own := R_law) (name := "java/lang/IllegalArgumentException") (E := "java/lang/IllegalArgumentException") hown [] ⟨0, 9, 12, 21⟩ [] (by rw [hTab]; rfl) (fun z hz => nomatch hz) (by decide) (by decide) (hW _ k_281) (va_Nw.use rfl (hXS.2.2.1 ("java/lang/IllegalArgumentException", "java/lang/IllegalArgumentException") (by decide))) hce hcv hcl ?_
      refine lv_astore_n (lv' := [(3, .ref q9), (0, .ref (r 0)), (1, .int p0), (2, .ref o)]) hx hb d_Lw_pass_12 rfl hl (by decide) rfl (fun ls hl => ?_)
      refine lv_iconst (v := 1) hx hb d_Lw_pass_13 (by decide) ?_
      exact W.widen (k := 1) (n := 6) (Nat.le_of_ble_eq_true rfl) (Nat.le_of_ble_eq_true rfl) (W.iret (v := 1) hx hb hr (fun t ht hW9 => ⟨⟨1, (f, F, A), rfl, by rw [hval]; rfl, by rw [ht]; exact pApp hR hC, va_K.moved hW9.alike hK, hD⟩, hS.F ht⟩) hS.2.2 d_Lw_pass_14)
  · refine okV (wr := [(o, .inl (kO, 1, .inr (.inl f)))]) (wf := fun u : SC => wC r k u.1 u.2) ⟨hx, hb, hml, hown, hW⟩ (c_RS_pass_k l dC dI r k F A _ p0 hI h0) (cwV 1 hW (gIn k_327 k_328 k_329 k_15 k_330) rfl rfl rfl (by decide +kernel) ⟨Nat.le_of_ble_eq_true rfl, Nat.le_of_ble_eq_true rfl⟩) hKc hR hC hD hS hA (va_recv hKc hC (ci := 0) (q0 := 0) rfl rfl) rfl hl.1 rfl (Nat.le_of_ble_eq_true rfl) d_Lw_pass_4 ⟨Nat.zero_le _, Nat.zero_le _⟩ (fun H locs hR hC hD hS => ?_)
    refine lv_i2l (v := (f_RS_pass F A p0).2.1.toInt64) hx hb d_Lw_pass_7 rfl ?_
    refine va_last hx hb hK (pApp hR hC) hD hS 0 0 rfl rfl in01 d_Lw_pass_8 (fun H locs hP hD hS => ?_)
    have hP : va_P (dC, dI) classes (wL r k (f_RS_pass F A p0).2.2.1 (f_RS_pass F A p0).2.2.2 o kO (vp_updL f (0 : Int32).toNatClampNeg ((f_RS_pass F A p0).2.1.toInt64))) H := hP
    have hD : va_D Ad (wL r k (f_RS_pass F A p0).2.2.1 (f_RS_pass F A p0).2.2.2 o kO (vp_updL f (0 : Int32).toNatClampNeg ((f_RS_pass F A p0).2.1.toInt64))) := hD
    refine lv_goto (tgt := 15) hx hb d_Lw_pass_9 (by decide) ?_
    refine lv_iconst (v := 0) hx hb d_Lw_pass_15 (by decide) ?_
    exact W.widen (k := 1) (n := 6) (Nat.le_of_ble_eq_true rfl) (Nat.le_of_ble_eq_true rfl) (W.iret (v := 0) hx hb hr (fun t ht hW9 => ⟨⟨0, ((vp_updL f (0 : Int32).toNatClampNeg ((f_RS_pass F A p0).2.1.toInt64)), (f_RS_pass F A p0).2.2), rfl, by rw [hL, if_pos h0], by rw [ht]; exact hP, va_K.moved hW9.alike hK, hD⟩, hS.F ht⟩) hS.2.2 d_Lw_pass_16)
def cm_Lw_holder (u : Nat) : Int32 := match u with | 1 => 1 | 2 => 2 | _ => 0
set_option maxHeartbeats 4000000 in
set_option maxRecDepth 100000 in
theorem c_Lw_holder (l : Launch) (hl9 : l.stackTraces = false) (dC : Nat → ClassId) (dI : Nat → Nat → Nat) (r : Nat → Nat) (k : Nat → ClassId) (F : Nat → Int32) (A : Nat → Nat → Int32) (o : Nat) (kO : ClassId) (f : Nat → Int64) (sz : Nat) (p0 p1 : Int32) (hI : CI F) : Met l y_Lw_holder w_Lw_holder ({ frames := 8, cells := 1, slots := 6, locals := 126 }) (va_Pc [.ref (r 0), .int p0, .int p1, .ref o] (XP (dC, dI) (wL r k F A o kO f) (tL k kO) sz)) (va_Qi (fun v (u : SL) => (v, u) = hL cm_Lw_holder f (f_RS_holder F A p0 p1)) (fun (u : SL) t => aW (dC, dI) (tL k kO) (va_A (wL r k F A o kO f) sz) (wL r k u.2.1 u.2.2 o kO u.1) t) (va_A (wL r k F A o kO f) sz)) 1 6 (va_A (wL r k F A o kO f) sz) := by
  refine va_MetW (cc := b_Lw_holder) (maxL := 5) (ret := (some .int)) (hh := [(0, 10, 13, 19), (0, 10, 17, 21)]) (by decide) rfl ?_
  intro p e s m args below meth c s₁ B hml hv0
  obtain ⟨rfl, ⟨hsz, hP, hK, hD0⟩, hXS⟩ := hv0
  have hx := B.exec
  have hb := B.bytes
  have hr := B.returns
  have hts := atoms_spec (ws := w_Lw_holder) B.pre
  have hW : ∀ w ∈ WALL, w.before ([.ref (r 0), .int p0, .int p1, .ref o] : List Value).toArray s = true := fun w h => hts w (List.mem_cons_of_mem _ h)
  have hown : s.vm.findClass R_law = some m.cls := findClass_of_methodNamed B.named
  have hlocks := B.notSynchronized
  have hTab : c.exceptionTable.toList = tableOf [(0, 10, 13, 19), (0, 10, 17, 21)] := vx_table (x := y_Lw_holder) B (hts _ List.mem_cons_self)
  subst hsz
  have hD := hD0.self (sz := s.heap.size)
  generalize hAe : va_A (wL r k F A o kO f) s.heap.size = Ad at hD hXS ⊢
  have hA : ∀ q : Nat, s.heap.size ≤ q → Ad q := fun q h => by rw [← hAe]; exact Or.inr h
  have hS : va_S Ad s.heap s.heap [] := va_S.rf
  have hl := lv_entry ([.ref (r 0), .int p0, .int p1, .ref o]) (n := 5) (Nat.le_of_ble_eq_true rfl)
  rw [lg_entry_eq]
  generalize (lg_sl ([.ref (r 0), .int p0, .int p1, .ref o]) ++ List.replicate (5 - (lg_sl ([.ref (r 0), .int p0, .int p1, .ref o])).length) Slot.unset).toArray = ls at hl ⊢
  have hl : lv_has ls 5 [(0, .ref (r 0)), (1, .int p0), (2, .int p1), (3, .ref o)] := hl
  have hR : va_P (dC, dI) classes [(o, .inl (kO, 1, .inr (.inl f)))] s.heap := pPre hP
  have hC : va_P (dC, dI) classes (wC r k F A) s.heap := pSuf hP
  have hKc : va_K (dC, dI) classes (tC k) s := hK.sub [1, 2, 3, 4, 5, 6, 7, 8, 9, 10, 11, 12, 13, 14] rfl
  refine lv_aload_n hx hb d_Lw_holder_0 rfl (lv_at hl 3 rfl) ?_
  refine lv_iconst (v := 0) hx hb d_Lw_holder_1 (by decide) ?_
  refine lv_aload_n hx hb d_Lw_holder_2 rfl (lv_at hl 0 rfl) ?_
  refine lv_iload_n hx hb d_Lw_holder_3 rfl (lv_at hl 1 rfl) ?_
  refine lv_iload_n hx hb d_Lw_holder_4 rfl (lv_at hl 2 rfl) ?_
  by_cases h0 : (f_RS_holder F A p0 p1).1 = 0
  rotate_left
  · refine xcV (wr := [(o, .inl (kO, 1, .inr (.inl f)))]) (wf := fun u : SC => wC r k u.1 u.2) (F0' := F) (A0' := A) ⟨hx, hb, hml, hown, hW⟩ (c_RS_holder_x l hl9 dC dI r k F A _ p0 p1 hI h0) (cwV 2 hW (gIn k_331 k_332 k_333 k_15 k_334) rfl rfl rfl (by decide +kernel) ⟨Nat.le_of_ble_eq_true rfl, Nat.le_of_ble_eq_true rfl⟩) hKc hR hC hD hS hA hXS (va_recv hKc hC (ci := 0) (q0 := 0) rfl rfl) rfl hl.1 rfl (Nat.le_of_ble_eq_true rfl) d_Lw_holder_5 ⟨Nat.le_of_ble_eq_true rfl, Nat.le_of_ble_eq_true rfl⟩ ?_
    intro u hval H locs q9 ce hR hC hD hS hce hcv hcl
    rw [hval] at h0
    rcases cd_RS_holder F A p0 p1 with h9 | h9 | h9
    · rw [hval] at h9; exact absurd h9 h0
    · rw [hval] at h9
      have h9 : u = 1 := h9
      subst h9
      refine vx_catch (own := R_law) (name := "java/util/NoSuchElementException") (E := "java/util/NoSuchElementException") hown [] ⟨0, 10, 13, 19⟩ [⟨0, 10, 17, 21⟩] (by rw [hTab]; rfl) (fun z hz => nomatch hz) (by decide) (by decide) (hW _ k_280) (va_Nw.use rfl (hXS.2.2.1 ("java/util/NoSuchElementException", "java/util/NoSuchElementException") (by decide))) hce hcv hcl ?_
      refine lv_astore (lv' := [(4, .ref q9), (0, .ref (r 0)), (1, .int p0), (2, .int p1), (3, .ref o)]) hx hb d_Lw_holder_13 hl (by decide) rfl (fun ls hl => ?_)
      refine lv_iconst (v := 1) hx hb d_Lw_holder_15 (by decide) ?_
      exact W.widen (k := 1) (n := 6) (Nat.le_of_ble_eq_true rfl) (Nat.le_of_ble_eq_true rfl) (W.iret (v := 1) hx hb hr (fun t ht hW9 => ⟨⟨1, (f, F, A), rfl, by rw [hval]; rfl, by rw [ht]; exact pApp hR hC, va_K.moved hW9.alike hK, hD⟩, hS.F ht⟩) hS.2.2 d_Lw_holder_16)
    · rw [hval] at h9
      have h9 : u = 2 := h9
      subst h9
      refine vx_catch (own := R_law) (name := "java/lang/IllegalArgumentException") (E := "java/lang/IllegalArgumentException") hown [⟨0, 10, 13, 19⟩] ⟨0, 10, 17, 21⟩ [] (by rw [hTab]; rfl) (fun z hz => by
          simp only [List.mem_cons, List.not_mem_nil, or_false] at hz
          rcases hz with rfl
          · exact Or.inr ⟨by decide, "java/util/NoSuchElementException", hW _ k_280, hXS.2.2.2.2.1 ("java/lang/IllegalArgumentException", "java/util/NoSuchElementException") (by decide)⟩) (by decide) (by decide) (hW _ k_281) (va_Nw.use rfl (hXS.2.2.1 ("java/lang/IllegalArgumentException", "java/lang/IllegalArgumentException") (by decide))) hce hcv hcl ?_
      refine lv_astore (lv' := [(4, .ref q9), (0, .ref (r 0)), (1, .int p0), (2, .int p1), (3, .ref o)]) hx hb d_Lw_holder_17 hl (by decide) rfl (fun ls hl => ?_)
      refine lv_iconst (v := 2) hx hb d_Lw_holder_19 (by decide) ?_
      exact W.widen (k := 1) (n := 6) (Nat.le_of_ble_eq_true rfl) (Nat.le_of_ble_eq_true rfl) (W.iret (v := 2) hx hb hr (fun t ht hW9 => ⟨⟨2, (f, F, A), rfl, by rw [hval]; rfl, by rw [ht]; exact pApp hR hC, va_K.moved hW9.alike hK, hD⟩, hS.F ht⟩) hS.2.2 d_Lw_holder_20)
  · refine okV (wr := [(o, .inl (kO, 1, .inr (.inl f)))]) (wf := fun u : SC => wC r k u.1 u.2) ⟨hx, hb, hml, hown, hW⟩ (c_RS_holder_k l dC dI r k F A _ p0 p1 hI h0) (cwV 2 hW (gIn k_331 k_332 k_333 k_15 k_334) rfl rfl rfl (by decide +kernel) ⟨Nat.le_of_ble_eq_true rfl, Nat.le_of_ble_eq_true rfl⟩) hKc hR hC hD hS hA (va_recv hKc hC (ci := 0) (q0 := 0) rfl rfl) rfl hl.1 rfl (Nat.le_of_ble_eq_true rfl) d_Lw_holder_5 ⟨Nat.zero_le _, Nat.zero_le _⟩ (fun H locs hR hC hD hS => ?_)
    refine lv_i2l (v := (f_RS_holder F A p0 p1).2.1.toInt64) hx hb d_Lw_holder_8 rfl ?_
    refine va_last hx hb hK (pApp hR hC) hD hS 0 0 rfl rfl in01 d_Lw_holder_9 (fun H locs hP hD hS => ?_)
    have hP : va_P (dC, dI) classes (wL r k (f_RS_holder F A p0 p1).2.2.1 (f_RS_holder F A p0 p1).2.2.2 o kO (vp_updL f (0 : Int32).toNatClampNeg ((f_RS_holder F A p0 p1).2.1.toInt64))) H := hP
    have hD : va_D Ad (wL r k (f_RS_holder F A p0 p1).2.2.1 (f_RS_holder F A p0 p1).2.2.2 o kO (vp_updL f (0 : Int32).toNatClampNeg ((f_RS_holder F A p0 p1).2.1.toInt64))) := hD
    refine lv_goto (tgt := 21) hx hb d_Lw_holder_10 (by decide) ?_
    refine lv_iconst (v := 0) hx hb d_Lw_holder_21 (by decide) ?_
    exact W.widen (k := 1) (n := 6) (Nat.le_of_ble_eq_true rfl) (Nat.le_of_ble_eq_true rfl) (W.iret (v := 0) hx hb hr (fun t ht hW9 => ⟨⟨0, ((vp_updL f (0 : Int32).toNatClampNeg ((f_RS_holder F A p0 p1).2.1.toInt64)), (f_RS_holder F A p0 p1).2.2), rfl, by rw [hL, if_pos h0], by rw [ht]; exact hP, va_K.moved hW9.alike hK, hD⟩, hS.F ht⟩) hS.2.2 d_Lw_holder_22)
def cm_Lw_told (u : Nat) : Int32 := match u with | 1 => 1 | 2 => 2 | _ => 0
set_option maxHeartbeats 4000000 in
set_option maxRecDepth 100000 in
theorem c_Lw_told (l : Launch) (hl9 : l.stackTraces = false) (dC : Nat → ClassId) (dI : Nat → Nat → Nat) (r : Nat → Nat) (k : Nat → ClassId) (F : Nat → Int32) (A : Nat → Nat → Int32) (o : Nat) (kO : ClassId) (f : Nat → Int64) (sz : Nat) (p0 p1 : Int32) (hI : CI F) : Met l y_Lw_told w_Lw_told ({ frames := 8, cells := 1, slots := 6, locals := 125 }) (va_Pc [.ref (r 0), .int p0, .int p1, .ref o] (XP (dC, dI) (wL r k F A o kO f) (tL k kO) sz)) (va_Qi (fun v (u : SL) => (v, u) = hL cm_Lw_told f (f_RS_told F A p0 p1)) (fun (u : SL) t => aW (dC, dI) (tL k kO) (va_A (wL r k F A o kO f) sz) (wL r k u.2.1 u.2.2 o kO u.1) t) (va_A (wL r k F A o kO f) sz)) 1 6 (va_A (wL r k F A o kO f) sz) := by
  refine va_MetW (cc := b_Lw_told) (maxL := 5) (ret := (some .int)) (hh := [(0, 10, 13, 19), (0, 10, 17, 21)]) (by decide) rfl ?_
  intro p e s m args below meth c s₁ B hml hv0
  obtain ⟨rfl, ⟨hsz, hP, hK, hD0⟩, hXS⟩ := hv0
  have hx := B.exec
  have hb := B.bytes
  have hr := B.returns
  have hts := atoms_spec (ws := w_Lw_told) B.pre
  have hW : ∀ w ∈ WALL, w.before ([.ref (r 0), .int p0, .int p1, .ref o] : List Value).toArray s = true := fun w h => hts w (List.mem_cons_of_mem _ h)
  have hown : s.vm.findClass R_law = some m.cls := findClass_of_methodNamed B.named
  have hlocks := B.notSynchronized
  have hTab : c.exceptionTable.toList = tableOf [(0, 10, 13, 19), (0, 10, 17, 21)] := vx_table (x := y_Lw_told) B (hts _ List.mem_cons_self)
  subst hsz
  have hD := hD0.self (sz := s.heap.size)
  generalize hAe : va_A (wL r k F A o kO f) s.heap.size = Ad at hD hXS ⊢
  have hA : ∀ q : Nat, s.heap.size ≤ q → Ad q := fun q h => by rw [← hAe]; exact Or.inr h
  have hS : va_S Ad s.heap s.heap [] := va_S.rf
  have hl := lv_entry ([.ref (r 0), .int p0, .int p1, .ref o]) (n := 5) (Nat.le_of_ble_eq_true rfl)
  rw [lg_entry_eq]
  generalize (lg_sl ([.ref (r 0), .int p0, .int p1, .ref o]) ++ List.replicate (5 - (lg_sl ([.ref (r 0), .int p0, .int p1, .ref o])).length) Slot.unset).toArray = ls at hl ⊢
  have hl : lv_has ls 5 [(0, .ref (r 0)), (1, .int p0), (2, .int p1), (3, .ref o)] := hl
  have hR : va_P (dC, dI) classes [(o, .inl (kO, 1, .inr (.inl f)))] s.heap := pPre hP
  have hC : va_P (dC, dI) classes (wC r k F A) s.heap := pSuf hP
  have hKc : va_K (dC, dI) classes (tC k) s := hK.sub [1, 2, 3, 4, 5, 6, 7, 8, 9, 10, 11, 12, 13, 14] rfl
  refine lv_aload_n hx hb d_Lw_told_0 rfl (lv_at hl 3 rfl) ?_
  refine lv_iconst (v := 0) hx hb d_Lw_told_1 (by decide) ?_
  refine lv_aload_n hx hb d_Lw_told_2 rfl (lv_at hl 0 rfl) ?_
  refine lv_iload_n hx hb d_Lw_told_3 rfl (lv_at hl 1 rfl) ?_
  refine lv_iload_n hx hb d_Lw_told_4 rfl (lv_at hl 2 rfl) ?_
  by_cases h0 : (f_RS_told F A p0 p1).1 = 0
  rotate_left
  · refine xcV (wr := [(o, .inl (kO, 1, .inr (.inl f)))]) (wf := fun u : SC => wC r k u.1 u.2) (F0' := F) (A0' := A) ⟨hx, hb, hml, hown, hW⟩ (c_RS_told_x l hl9 dC dI r k F A _ p0 p1 hI h0) (cwV 2 hW (gIn k_335 k_336 k_337 k_15 k_338) rfl rfl rfl (by decide +kernel) ⟨Nat.le_of_ble_eq_true rfl, Nat.le_of_ble_eq_true rfl⟩) hKc hR hC hD hS hA hXS (va_recv hKc hC (ci := 0) (q0 := 0) rfl rfl) rfl hl.1 rfl (Nat.le_of_ble_eq_true rfl) d_Lw_told_5 ⟨Nat.le_of_ble_eq_true rfl, Nat.le_of_ble_eq_true rfl⟩ ?_
    intro u hval H locs q9 ce hR hC hD hS hce hcv hcl
    rw [hval] at h0
    rcases cd_RS_told F A p0 p1 with h9 | h9 | h9
    · rw [hval] at h9; exact absurd h9 h0
    · rw [hval] at h9
      have h9 : u = 1 := h9
      subst h9
      refine vx_catch (own := R_law) (name := "java/util/NoSuchElementException") (E := "java/util/NoSuchElementException") hown [] ⟨0, 10, 13, 19⟩ [⟨0, 10, 17, 21⟩] (by rw [hTab]; rfl) (fun z hz => nomatch hz) (by decide) (by decide) (hW _ k_280) (va_Nw.use rfl (hXS.2.2.1 ("java/util/NoSuchElementException", "java/util/NoSuchElementException") (by decide))) hce hcv hcl ?_
      refine lv_astore (lv' := [(4, .ref q9), (0, .ref (r 0)), (1, .int p0), (2, .int p1), (3, .ref o)]) hx hb d_Lw_told_13 hl (by decide) rfl (fun ls hl => ?_)
      refine lv_iconst (v := 1) hx hb d_Lw_told_15 (by decide) ?_
      exact W.widen (k := 1) (n := 6) (Nat.le_of_ble_eq_true rfl) (Nat.le_of_ble_eq_true rfl) (W.iret (v := 1) hx hb hr (fun t ht hW9 => ⟨⟨1, (f, F, A), rfl, by rw [hval]; rfl, by rw [ht]; exact pApp hR hC, va_K.moved hW9.alike hK, hD⟩, hS.F ht⟩) hS.2.2 d_Lw_told_16)
    · rw [hval] at h9
      have h9 : u = 2 := h9
      subst h9
      refine vx_catch (own := R_law) (name := "java/lang/IllegalArgumentException") (E := "java/lang/IllegalArgumentException") hown [⟨0, 10, 13, 19⟩] ⟨0, 10, 17, 21⟩ [] (by rw [hTab]; rfl) (fun z hz => by
          simp only [List.mem_cons, List.not_mem_nil, or_false] at hz
          rcases hz with rfl
          · exact Or.inr ⟨by decide, "java/util/NoSuchElementException", hW _ k_280, hXS.2.2.2.2.1 ("java/lang/IllegalArgumentException", "java/util/NoSuchElementException") (by decide)⟩) (by decide) (by decide) (hW _ k_281) (va_Nw.use rfl (hXS.2.2.1 ("java/lang/IllegalArgumentException", "java/lang/IllegalArgumentException") (by decide))) hce hcv hcl ?_
      refine lv_astore (lv' := [(4, .ref q9), (0, .ref (r 0)), (1, .int p0), (2, .int p1), (3, .ref o)]) hx hb d_Lw_told_17 hl (by decide) rfl (fun ls hl => ?_)
      refine lv_iconst (v := 2) hx hb d_Lw_told_19 (by decide) ?_
      exact W.widen (k := 1) (n := 6) (Nat.le_of_ble_eq_true rfl) (Nat.le_of_ble_eq_true rfl) (W.iret (v := 2) hx hb hr (fun t ht hW9 => ⟨⟨2, (f, F, A), rfl, by rw [hval]; rfl, by rw [ht]; exact pApp hR hC, va_K.moved hW9.alike hK, hD⟩, hS.F ht⟩) hS.2.2 d_Lw_told_20)
  · refine okV (wr := [(o, .inl (kO, 1, .inr (.inl f)))]) (wf := fun u : SC => wC r k u.1 u.2) ⟨hx, hb, hml, hown, hW⟩ (c_RS_told_k l dC dI r k F A _ p0 p1 hI h0) (cwV 2 hW (gIn k_335 k_336 k_337 k_15 k_338) rfl rfl rfl (by decide +kernel) ⟨Nat.le_of_ble_eq_true rfl, Nat.le_of_ble_eq_true rfl⟩) hKc hR hC hD hS hA (va_recv hKc hC (ci := 0) (q0 := 0) rfl rfl) rfl hl.1 rfl (Nat.le_of_ble_eq_true rfl) d_Lw_told_5 ⟨Nat.zero_le _, Nat.zero_le _⟩ (fun H locs hR hC hD hS => ?_)
    refine lv_i2l (v := (f_RS_told F A p0 p1).2.1.toInt64) hx hb d_Lw_told_8 rfl ?_
    refine va_last hx hb hK (pApp hR hC) hD hS 0 0 rfl rfl in01 d_Lw_told_9 (fun H locs hP hD hS => ?_)
    have hP : va_P (dC, dI) classes (wL r k (f_RS_told F A p0 p1).2.2.1 (f_RS_told F A p0 p1).2.2.2 o kO (vp_updL f (0 : Int32).toNatClampNeg ((f_RS_told F A p0 p1).2.1.toInt64))) H := hP
    have hD : va_D Ad (wL r k (f_RS_told F A p0 p1).2.2.1 (f_RS_told F A p0 p1).2.2.2 o kO (vp_updL f (0 : Int32).toNatClampNeg ((f_RS_told F A p0 p1).2.1.toInt64))) := hD
    refine lv_goto (tgt := 21) hx hb d_Lw_told_10 (by decide) ?_
    refine lv_iconst (v := 0) hx hb d_Lw_told_21 (by decide) ?_
    exact W.widen (k := 1) (n := 6) (Nat.le_of_ble_eq_true rfl) (Nat.le_of_ble_eq_true rfl) (W.iret (v := 0) hx hb hr (fun t ht hW9 => ⟨⟨0, ((vp_updL f (0 : Int32).toNatClampNeg ((f_RS_told F A p0 p1).2.1.toInt64)), (f_RS_told F A p0 p1).2.2), rfl, by rw [hL, if_pos h0], by rw [ht]; exact hP, va_K.moved hW9.alike hK, hD⟩, hS.F ht⟩) hS.2.2 d_Lw_told_22)
def cm_Lw_grant (u : Nat) : Int32 := match u with | 1 => 1 | 2 => 2 | _ => 0
set_option maxHeartbeats 4000000 in
set_option maxRecDepth 100000 in
theorem c_Lw_grant (l : Launch) (hl9 : l.stackTraces = false) (dC : Nat → ClassId) (dI : Nat → Nat → Nat) (r : Nat → Nat) (k : Nat → ClassId) (F : Nat → Int32) (A : Nat → Nat → Int32) (o : Nat) (kO : ClassId) (f : Nat → Int64) (sz : Nat) (p0 p1 : Int32) (hI : CI F) : Met l y_Lw_grant w_Lw_grant ({ frames := 8, cells := 1, slots := 6, locals := 125 }) (va_Pc [.ref (r 0), .int p0, .int p1, .ref o] (XP (dC, dI) (wL r k F A o kO f) (tL k kO) sz)) (va_Qi (fun v (u : SL) => (v, u) = hL cm_Lw_grant f (f_RS_grant F A p0 p1)) (fun (u : SL) t => aW (dC, dI) (tL k kO) (va_A (wL r k F A o kO f) sz) (wL r k u.2.1 u.2.2 o kO u.1) t) (va_A (wL r k F A o kO f) sz)) 1 6 (va_A (wL r k F A o kO f) sz) := by
  refine va_MetW (cc := b_Lw_grant) (maxL := 5) (ret := (some .int)) (hh := [(0, 10, 13, 19), (0, 10, 17, 21)]) (by decide) rfl ?_
  intro p e s m args below meth c s₁ B hml hv0
  obtain ⟨rfl, ⟨hsz, hP, hK, hD0⟩, hXS⟩ := hv0
  have hx := B.exec
  have hb := B.bytes
  have hr := B.returns
  have hts := atoms_spec (ws := w_Lw_grant) B.pre
  have hW : ∀ w ∈ WALL, w.before ([.ref (r 0), .int p0, .int p1, .ref o] : List Value).toArray s = true := fun w h => hts w (List.mem_cons_of_mem _ h)
  have hown : s.vm.findClass R_law = some m.cls := findClass_of_methodNamed B.named
  have hlocks := B.notSynchronized
  have hTab : c.exceptionTable.toList = tableOf [(0, 10, 13, 19), (0, 10, 17, 21)] := vx_table (x := y_Lw_grant) B (hts _ List.mem_cons_self)
  subst hsz
  have hD := hD0.self (sz := s.heap.size)
  generalize hAe : va_A (wL r k F A o kO f) s.heap.size = Ad at hD hXS ⊢
  have hA : ∀ q : Nat, s.heap.size ≤ q → Ad q := fun q h => by rw [← hAe]; exact Or.inr h
  have hS : va_S Ad s.heap s.heap [] := va_S.rf
  have hl := lv_entry ([.ref (r 0), .int p0, .int p1, .ref o]) (n := 5) (Nat.le_of_ble_eq_true rfl)
  rw [lg_entry_eq]
  generalize (lg_sl ([.ref (r 0), .int p0, .int p1, .ref o]) ++ List.replicate (5 - (lg_sl ([.ref (r 0), .int p0, .int p1, .ref o])).length) Slot.unset).toArray = ls at hl ⊢
  have hl : lv_has ls 5 [(0, .ref (r 0)), (1, .int p0), (2, .int p1), (3, .ref o)] := hl
  have hR : va_P (dC, dI) classes [(o, .inl (kO, 1, .inr (.inl f)))] s.heap := pPre hP
  have hC : va_P (dC, dI) classes (wC r k F A) s.heap := pSuf hP
  have hKc : va_K (dC, dI) classes (tC k) s := hK.sub [1, 2, 3, 4, 5, 6, 7, 8, 9, 10, 11, 12, 13, 14] rfl
  refine lv_aload_n hx hb d_Lw_grant_0 rfl (lv_at hl 3 rfl) ?_
  refine lv_iconst (v := 0) hx hb d_Lw_grant_1 (by decide) ?_
  refine lv_aload_n hx hb d_Lw_grant_2 rfl (lv_at hl 0 rfl) ?_
  refine lv_iload_n hx hb d_Lw_grant_3 rfl (lv_at hl 1 rfl) ?_
  refine lv_iload_n hx hb d_Lw_grant_4 rfl (lv_at hl 2 rfl) ?_
  by_cases h0 : (f_RS_grant F A p0 p1).1 = 0
  rotate_left
  · refine xcV (wr := [(o, .inl (kO, 1, .inr (.inl f)))]) (wf := fun u : SC => wC r k u.1 u.2) (F0' := F) (A0' := A) ⟨hx, hb, hml, hown, hW⟩ (c_RS_grant_x l hl9 dC dI r k F A _ p0 p1 hI h0) (cwV 2 hW (gIn k_339 k_340 k_341 k_15 k_342) rfl rfl rfl (by decide +kernel) ⟨Nat.le_of_ble_eq_true rfl, Nat.le_of_ble_eq_true rfl⟩) hKc hR hC hD hS hA hXS (va_recv hKc hC (ci := 0) (q0 := 0) rfl rfl) rfl hl.1 rfl (Nat.le_of_ble_eq_true rfl) d_Lw_grant_5 ⟨Nat.le_of_ble_eq_true rfl, Nat.le_of_ble_eq_true rfl⟩ ?_
    intro u hval H locs q9 ce hR hC hD hS hce hcv hcl
    rw [hval] at h0
    rcases cd_RS_grant F A p0 p1 with h9 | h9 | h9
    · rw [hval] at h9; exact absurd h9 h0
    · rw [hval] at h9
      have h9 : u = 1 := h9
      subst h9
      refine vx_catch (own := R_law) (name := "java/util/NoSuchElementException") (E := "java/util/NoSuchElementException") hown [] ⟨0, 10, 13, 19⟩ [⟨0, 10, 17, 21⟩] (by rw [hTab]; rfl) (fun z hz => nomatch hz) (by decide) (by decide) (hW _ k_280) (va_Nw.use rfl (hXS.2.2.1 ("java/util/NoSuchElementException", "java/util/NoSuchElementException") (by decide))) hce hcv hcl ?_
      refine lv_astore (lv' := [(4, .ref q9), (0, .ref (r 0)), (1, .int p0), (2, .int p1), (3, .ref o)]) hx hb d_Lw_grant_13 hl (by decide) rfl (fun ls hl => ?_)
      refine lv_iconst (v := 1) hx hb d_Lw_grant_15 (by decide) ?_
      exact W.widen (k := 1) (n := 6) (Nat.le_of_ble_eq_true rfl) (Nat.le_of_ble_eq_true rfl) (W.iret (v := 1) hx hb hr (fun t ht hW9 => ⟨⟨1, (f, F, A), rfl, by rw [hval]; rfl, by rw [ht]; exact pApp hR hC, va_K.moved hW9.alike hK, hD⟩, hS.F ht⟩) hS.2.2 d_Lw_grant_16)
    · rw [hval] at h9
      have h9 : u = 2 := h9
      subst h9
      refine vx_catch (own := R_law) (name := "java/lang/IllegalArgumentException") (E := "java/lang/IllegalArgumentException") hown [⟨0, 10, 13, 19⟩] ⟨0, 10, 17, 21⟩ [] (by rw [hTab]; rfl) (fun z hz => by
          simp only [List.mem_cons, List.not_mem_nil, or_false] at hz
          rcases hz with rfl
          · exact Or.inr ⟨by decide, "java/util/NoSuchElementException", hW _ k_280, hXS.2.2.2.2.1 ("java/lang/IllegalArgumentException", "java/util/NoSuchElementException") (by decide)⟩) (by decide) (by decide) (hW _ k_281) (va_Nw.use rfl (hXS.2.2.1 ("java/lang/IllegalArgumentException", "java/lang/IllegalArgumentException") (by decide))) hce hcv hcl ?_
      refine lv_astore (lv' := [(4, .ref q9), (0, .ref (r 0)), (1, .int p0), (2, .int p1), (3, .ref o)]) hx hb d_Lw_grant_17 hl (by decide) rfl (fun ls hl => ?_)
      refine lv_iconst (v := 2) hx hb d_Lw_grant_19 (by decide) ?_
      exact W.widen (k := 1) (n := 6) (Nat.le_of_ble_eq_true rfl) (Nat.le_of_ble_eq_true rfl) (W.iret (v := 2) hx hb hr (fun t ht hW9 => ⟨⟨2, (f, F, A), rfl, by rw [hval]; rfl, by rw [ht]; exact pApp hR hC, va_K.moved hW9.alike hK, hD⟩, hS.F ht⟩) hS.2.2 d_Lw_grant_20)
  · refine okV (wr := [(o, .inl (kO, 1, .inr (.inl f)))]) (wf := fun u : SC => wC r k u.1 u.2) ⟨hx, hb, hml, hown, hW⟩ (c_RS_grant_k l dC dI r k F A _ p0 p1 hI h0) (cwV 2 hW (gIn k_339 k_340 k_341 k_15 k_342) rfl rfl rfl (by decide +kernel) ⟨Nat.le_of_ble_eq_true rfl, Nat.le_of_ble_eq_true rfl⟩) hKc hR hC hD hS hA (va_recv hKc hC (ci := 0) (q0 := 0) rfl rfl) rfl hl.1 rfl (Nat.le_of_ble_eq_true rfl) d_Lw_grant_5 ⟨Nat.zero_le _, Nat.zero_le _⟩ (fun H locs hR hC hD hS => ?_)
    refine lv_i2l (v := (f_RS_grant F A p0 p1).2.1.toInt64) hx hb d_Lw_grant_8 rfl ?_
    refine va_last hx hb hK (pApp hR hC) hD hS 0 0 rfl rfl in01 d_Lw_grant_9 (fun H locs hP hD hS => ?_)
    have hP : va_P (dC, dI) classes (wL r k (f_RS_grant F A p0 p1).2.2.1 (f_RS_grant F A p0 p1).2.2.2 o kO (vp_updL f (0 : Int32).toNatClampNeg ((f_RS_grant F A p0 p1).2.1.toInt64))) H := hP
    have hD : va_D Ad (wL r k (f_RS_grant F A p0 p1).2.2.1 (f_RS_grant F A p0 p1).2.2.2 o kO (vp_updL f (0 : Int32).toNatClampNeg ((f_RS_grant F A p0 p1).2.1.toInt64))) := hD
    refine lv_goto (tgt := 21) hx hb d_Lw_grant_10 (by decide) ?_
    refine lv_iconst (v := 0) hx hb d_Lw_grant_21 (by decide) ?_
    exact W.widen (k := 1) (n := 6) (Nat.le_of_ble_eq_true rfl) (Nat.le_of_ble_eq_true rfl) (W.iret (v := 0) hx hb hr (fun t ht hW9 => ⟨⟨0, ((vp_updL f (0 : Int32).toNatClampNeg ((f_RS_grant F A p0 p1).2.1.toInt64)), (f_RS_grant F A p0 p1).2.2), rfl, by rw [hL, if_pos h0], by rw [ht]; exact hP, va_K.moved hW9.alike hK, hD⟩, hS.F ht⟩) hS.2.2 d_Lw_grant_22)
