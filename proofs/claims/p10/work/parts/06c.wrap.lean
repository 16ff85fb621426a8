def cm_Lw_step (u : Nat) : Int32 := match u with | 1 => 1 | 2 => 2 | 3 => 3 | _ => 0
set_option maxHeartbeats 4000000 in
set_option maxRecDepth 100000 in
theorem c_Lw_step (l : Launch) (hl9 : l.stackTraces = false) (dC : Nat → ClassId) (dI : Nat → Nat → Nat) (r : Nat → Nat) (k : Nat → ClassId) (F : Nat → Int32) (A : Nat → Nat → Int32) (o : Nat) (kO : ClassId) (f : Nat → Int64) (sz : Nat) (p0 p1 : Int32) (hI : CI F) : Met l y_Lw_step w_Lw_step ({ frames := 8, cells := 1, slots := 6, locals := 126 }) (va_Pc [.ref (r 0), .int p0, .int p1, .ref o] (XP (dC, dI) (wL r k F A o kO f) (tL k kO) sz)) (va_Qi (fun v (u : SL) => (v, u) = hL cm_Lw_step f (f_RS_step F A p0 p1)) (fun (u : SL) t => aW (dC, dI) (tL k kO) (va_A (wL r k F A o kO f) sz) (wL r k u.2.1 u.2.2 o kO u.1) t) (va_A (wL r k F A o kO f) sz)) 1 6 (va_A (wL r k F A o kO f) sz) := by
  refine va_MetW (cc := b_Lw_step) (maxL := 5) (ret := (some .int)) (hh := [(0, 10, 13, 19), (0, 10, 17, 21), (0, 10, 21, 27)]) (by decide) rfl ?_
  intro p e s m args below meth c s₁ B hml hv0
  obtain ⟨rfl, ⟨hsz, hP, hK, hD0⟩, hXS⟩ := hv0
  have hx := B.exec
  have hb := B.bytes
  have hr := B.returns
  have hts := atoms_spec (ws := w_Lw_step) B.pre
  have hW : ∀ w ∈ WALL, w.before ([.ref (r 0), .int p0, .int p1, .ref o] : List Value).toArray s = true := fun w h => hts w (List.mem_cons_of_mem _ h)
  have hown : s.vm.findClass R_law = some m.cls := findClass_of_methodNamed B.named
  have hlocks := B.notSynchronized
  have hTab : c.exceptionTable.toList = tableOf [(0, 10, 13, 19), (0, 10, 17, 21), (0, 10, 21, 27)] := vx_table (x := y_Lw_step) B (hts _ List.mem_cons_self)
  subst hsz
  have hD := hD0.self (sz := s.heap.size)
  generalize hAe : va_A (wL r k F A o kO f) s.heap.size = Ad at hD hXS ⊢
  have hA : ∀ q : Nat, s.heap.size ≤ q → Ad q := fun q h => by rw [← hAe]; exact Or.inr h
  have hS : va_S Ad s.heap s.heap [] := va_S.rf
  have hl := lv_entry ([.ref (r 0), .int p0, .int p1, .ref o]) (n := 5) (Nat.le_of_ble_eq_true rfl)
  rw [lg_entry_eq]
  generalize (lg_sl ([.ref (r 0), .int p0, .int p1, .ref o]) ++ List.replicate (5 - (lg_sl ([.ref (r 0), .int p0, .int p1, .ref o])).length) Slot.unset).toArray = ls at hl ⊢
  have hl : lv_has ls 5 [(0, .ref (r 0)), (1, .int p0), (2, .int p1), (3, .ref o)] := hl
  have hR : va_P (dC, dI) classes [(o, .inl (kO, 1, .inr (.inl f)))] s.heap := pPre hP
  have hC : va_P (dC, dI) classes (wC r k F A) s.heap := pSuf hP
  have hKc : va_K (dC, dI) classes (tC k) s := hK.sub [1, 2, 3, 4, 5, 6, 7, 8, 9, 10, 11, 12, 13, 14] rfl
  refine lv_aload_n hx hb d_Lw_step_0 rfl (lv_at hl 3 rfl) ?_
  refine lv_iconst (v := 0) hx hb d_Lw_step_1 (by decide) ?_
  refine lv_aload_n hx hb d_Lw_step_2 rfl (lv_at hl 0 rfl) ?_
  refine lv_iload_n hx hb d_Lw_step_3 rfl (lv_at hl 1 rfl) ?_
  refine lv_iload_n hx hb d_Lw_step_4 rfl (lv_at hl 2 rfl) ?_
  by_cases h0 : (f_RS_step F A p0 p1).1 = 0
  rotate_left
  · refine xcV (wr := [(o, .inl (kO, 1, .inr (.inl f)))]) (wf := fun u : SC => wC r k u.1 u.2) (F0' := F) (A0' := A) ⟨hx, hb, hml, hown, hW⟩ (c_RS_step_x l hl9 dC dI r k F A _ p0 p1 hI h0) (cwV 2 hW (gIn k_299 k_300 k_301 k_15 k_302) rfl rfl rfl (by decide +kernel) ⟨Nat.le_of_ble_eq_true rfl, Nat.le_of_ble_eq_true rfl⟩) hKc hR hC hD hS hA hXS (va_recv hKc hC (ci := 0) (q0 := 0) rfl rfl) rfl hl.1 rfl (Nat.le_of_ble_eq_true rfl) d_Lw_step_5 ⟨Nat.le_of_ble_eq_true rfl, Nat.le_of_ble_eq_true rfl⟩ ?_
    intro u hval H locs q9 ce hR hC hD hS hce hcv hcl
    rw [hval] at h0
    rcases cd_RS_step F A p0 p1 with h9 | h9 | h9 | h9
    · rw [hval] at h9; exact absurd h9 h0
    · rw [hval] at h9
      have h9 : u = 1 := h9
      subst h9
      refine vx_catch (own := R_law) (name := "java/util/NoSuchElementException") (E := "java/util/NoSuchElementException") hown [] ⟨0, 10, 13, 19⟩ [⟨0, 10, 17, 21⟩, ⟨0, 10, 21, 27⟩] (by rw [hTab]; rfl) (fun z hz => nomatch hz) (by decide) (by decide) (hW _ k_280) (va_Nw.use rfl (hXS.2.2.1 ("java/util/NoSuchElementException", "java/util/NoSuchElementException") (by decide))) hce hcv hcl ?_
      refine lv_astore (lv' := [(4, .ref q9), (0, .ref (r 0)), (1, .int p0), (2, .int p1), (3, .ref o)]) hx hb d_Lw_step_13 hl (by decide) rfl (fun ls hl => ?_)
      refine lv_iconst (v := 1) hx hb d_Lw_step_15 (by decide) ?_
      exact W.widen (k := 1) (n := 6) (Nat.le_of_ble_eq_true rfl) (Nat.le_of_ble_eq_true rfl) (W.iret (v := 1) hx hb hr (fun t ht hW9 => ⟨⟨1, (f, F, A), rfl, by rw [hval]; rfl, by rw [ht]; exact pApp hR hC, va_K.moved hW9.alike hK, hD⟩, hS.F ht⟩) hS.2.2 d_Lw_step_16)
    · rw [hval] at h9
      have h9 : u = 2 := h9
      subst h9
      refine vx_catch (own := R_law) (name := "java/lang/IllegalArgumentException") (E := "java/lang/IllegalArgumentException") hown [⟨0, 10, 13, 19⟩] ⟨0, 10, 17, 21⟩ [⟨0, 10, 21, 27⟩] (by rw [hTab]; rfl) (fun z hz => by
          simp only [List.mem_cons, List.not_mem_nil, or_false] at hz
          rcases hz with rfl
          · exact Or.inr ⟨by decide, "java/util/NoSuchElementException", hW _ k_280, hXS.2.2.2.2.1 ("java/lang/IllegalArgumentException", "java/util/NoSuchElementException") (by decide)⟩) (by decide) (by decide) (hW _ k_281) (va_Nw.use rfl (hXS.2.2.1 ("java/lang/IllegalArgumentException", "java/lang/IllegalArgumentException") (by decide))) hce hcv hcl ?_
      refine lv_astore (lv' := [(4, .ref q9), (0, .ref (r 0)), (1, .int p0), (2, .int p1), (3, .ref o)]) hx hb d_Lw_step_17 hl (by decide) rfl (fun ls hl => ?_)
      refine lv_iconst (v := 2) hx hb d_Lw_step_19 (by decide) ?_
      exact W.widen (k := 1) (n := 6) (Nat.le_of_ble_eq_true rfl) (Nat.le_of_ble_eq_true rfl) (W.iret (v := 2) hx hb hr (fun t ht hW9 => ⟨⟨2, (f, F, A), rfl, by rw [hval]; rfl, by rw [ht]; exact pApp hR hC, va_K.moved hW9.alike hK, hD⟩, hS.F ht⟩) hS.2.2 d_Lw_step_20)
    · rw [hval] at h9
      have h9 : u = 3 := h9
      subst h9
      refine vx_catch (own := R_law) (name := "java/lang/IllegalStateException") (E := "java/lang/IllegalStateException") hown [⟨0, 10, 13, 19⟩, ⟨0, 10, 17, 21⟩] ⟨0, 10, 21, 27⟩ [] (by rw [hTab]; rfl) (fun z hz => by
          simp only [List.mem_cons, List.not_mem_nil, or_false] at hz
          rcases hz with rfl | rfl
          · exact Or.inr ⟨by decide, "java/util/NoSuchElementException", hW _ k_280, hXS.2.2.2.2.1 ("java/lang/IllegalStateException", "java/util/NoSuchElementException") (by decide)⟩
          · exact Or.inr ⟨by decide, "java/lang/IllegalArgumentException", hW _ k_281, hXS.2.2.2.2.1 ("java/lang/IllegalStateException", "java/lang/IllegalArgumentException") (by decide)⟩) (by decide) (by decide) (hW _ k_286) (va_Nw.use rfl (hXS.2.2.1 ("java/lang/IllegalStateException", "java/lang/IllegalStateException") (by decide))) hce hcv hcl ?_
      refine lv_astore (lv' := [(4, .ref q9), (0, .ref (r 0)), (1, .int p0), (2, .int p1), (3, .ref o)]) hx hb d_Lw_step_21 hl (by decide) rfl (fun ls hl => ?_)
      refine lv_iconst (v := 3) hx hb d_Lw_step_23 (by decide) ?_
      exact W.widen (k := 1) (n := 6) (Nat.le_of_ble_eq_true rfl) (Nat.le_of_ble_eq_true rfl) (W.iret (v := 3) hx hb hr (fun t ht hW9 => ⟨⟨3, (f, F, A), rfl, by rw [hval]; rfl, by rw [ht]; exact pApp hR hC, va_K.moved hW9.alike hK, hD⟩, hS.F ht⟩) hS.2.2 d_Lw_step_24)
  · refine okV (wr := [(o, .inl (kO, 1, .inr (.inl f)))]) (wf := fun u : SC => wC r k u.1 u.2) ⟨hx, hb, hml, hown, hW⟩ (c_RS_step_k l dC dI r k F A _ p0 p1 hI h0) (cwV 2 hW (gIn k_299 k_300 k_301 k_15 k_302) rfl rfl rfl (by decide +kernel) ⟨Nat.le_of_ble_eq_true rfl, Nat.le_of_ble_eq_true rfl⟩) hKc hR hC hD hS hA (va_recv hKc hC (ci := 0) (q0 := 0) rfl rfl) rfl hl.1 rfl (Nat.le_of_ble_eq_true rfl) d_Lw_step_5 ⟨Nat.zero_le _, Nat.zero_le _⟩ (fun H locs hR hC hD hS => ?_)
    refine lv_i2l (v := (f_RS_step F A p0 p1).2.1.toInt64) hx hb d_Lw_step_8 rfl ?_
    refine va_last hx hb hK (pApp hR hC) hD hS 0 0 rfl rfl in01 d_Lw_step_9 (fun H locs hP hD hS => ?_)
    have hP : va_P (dC, dI) classes (wL r k (f_RS_step F A p0 p1).2.2.1 (f_RS_step F A p0 p1).2.2.2 o kO (vp_updL f (0 : Int32).toNatClampNeg ((f_RS_step F A p0 p1).2.1.toInt64))) H := hP
    have hD : va_D Ad (wL r k (f_RS_step F A p0 p1).2.2.1 (f_RS_step F A p0 p1).2.2.2 o kO (vp_updL f (0 : Int32).toNatClampNeg ((f_RS_step F A p0 p1).2.1.toInt64))) := hD
    refine lv_goto (tgt := 25) hx hb d_Lw_step_10 (by decide) ?_
    refine lv_iconst (v := 0) hx hb d_Lw_step_25 (by decide) ?_
    exact W.widen (k := 1) (n := 6) (Nat.le_of_ble_eq_true rfl) (Nat.le_of_ble_eq_true rfl) (W.iret (v := 0) hx hb hr (fun t ht hW9 => ⟨⟨0, ((vp_updL f (0 : Int32).toNatClampNeg ((f_RS_step F A p0 p1).2.1.toInt64)), (f_RS_step F A p0 p1).2.2), rfl, by rw [hL, if_pos h0], by rw [ht]; exact hP, va_K.moved hW9.alike hK, hD⟩, hS.F ht⟩) hS.2.2 d_Lw_step_26)
def cm_Lw_pull (u : Nat) : Int32 := match u with | 1 => 1 | 3 => 2 | _ => 0
set_option maxHeartbeats 4000000 in
set_option maxRecDepth 100000 in
theorem c_Lw_pull (l : Launch) (hl9 : l.stackTraces = false) (dC : Nat → ClassId) (dI : Nat → Nat → Nat) (r : Nat → Nat) (k : Nat → ClassId) (F : Nat → Int32) (A : Nat → Nat → Int32) (o : Nat) (kO : ClassId) (f : Nat → Int64) (sz : Nat) (p0 : Int32) (hI : CI F) : Met l y_Lw_pull w_Lw_pull ({ frames := 8, cells := 1, slots := 6, locals := 125 }) (va_Pc [.ref (r 0), .int p0, .ref o] (XP (dC, dI) (wL r k F A o kO f) (tL k kO) sz)) (va_Qi (fun v (u : SL) => (v, u) = hL cm_Lw_pull f (f_RS_pull F A p0)) (fun (u : SL) t => aW (dC, dI) (tL k kO) (va_A (wL r k F A o kO f) sz) (wL r k u.2.1 u.2.2 o kO u.1) t) (va_A (wL r k F A o kO f) sz)) 1 6 (va_A (wL r k F A o kO f) sz) := by
  refine va_MetW (cc := b_Lw_pull) (maxL := 4) (ret := (some .int)) (hh := [(0, 9, 12, 19), (0, 9, 15, 27)]) (by decide) rfl ?_
  intro p e s m args below meth c s₁ B hml hv0
  obtain ⟨rfl, ⟨hsz, hP, hK, hD0⟩, hXS⟩ := hv0
  have hx := B.exec
  have hb := B.bytes
  have hr := B.returns
  have hts := atoms_spec (ws := w_Lw_pull) B.pre
  have hW : ∀ w ∈ WALL, w.before ([.ref (r 0), .int p0, .ref o] : List Value).toArray s = true := fun w h => hts w (List.mem_cons_of_mem _ h)
  have hown : s.vm.findClass R_law = some m.cls := findClass_of_methodNamed B.named
  have hlocks := B.notSynchronized
  have hTab : c.exceptionTable.toList = tableOf [(0, 9, 12, 19), (0, 9, 15, 27)] := vx_table (x := y_Lw_pull) B (hts _ List.mem_cons_self)
  subst hsz
  have hD := hD0.self (sz := s.heap.size)
  generalize hAe : va_A (wL r k F A o kO f) s.heap.size = Ad at hD hXS ⊢
  have hA : ∀ q : Nat, s.heap.size ≤ q → Ad q := fun q h => by rw [← hAe]; exact Or.inr h
  have hS : va_S Ad s.heap s.heap [] := va_S.rf
  have hl := lv_entry ([.ref (r 0), .int p0, .ref o]) (n := 4) (Nat.le_of_ble_eq_true rfl)
  rw [lg_entry_eq]
  generalize (lg_sl ([.ref (r 0), .int p0, .ref o]) ++ List.replicate (4 - (lg_sl ([.ref (r 0), .int p0, .ref o])).length) Slot.unset).toArray = ls at hl ⊢
  have hl : lv_has ls 4 [(0, .ref (r 0)), (1, .int p0), (2, .ref o)] := hl
  have hR : va_P (dC, dI) classes [(o, .inl (kO, 1, .inr (.inl f)))] s.heap := pPre hP
  have hC : va_P (dC, dI) classes (wC r k F A) s.heap := pSuf hP
  have hKc : va_K (dC, dI) classes (tC k) s := hK.sub [1, 2, 3, 4, 5, 6, 7, 8, 9, 10, 11, 12, 13, 14] rfl
  refine lv_aload_n hx hb d_Lw_pull_0 rfl (lv_at hl 2 rfl) ?_
  refine lv_iconst (v := 0) hx hb d_Lw_pull_1 (by decide) ?_
  refine lv_aload_n hx hb d_Lw_pull_2 rfl (lv_at hl 0 rfl) ?_
  refine lv_iload_n hx hb d_Lw_pull_3 rfl (lv_at hl 1 rfl) ?_
  by_cases h0 : (f_RS_pull F A p0).1 = 0
  rotate_left
  · refine xcV (wr := [(o, .inl (kO, 1, .inr (.inl f)))]) (wf := fun u : SC => wC r k u.1 u.2) (F0' := F) (A0' := A) ⟨hx, hb, hml, hown, hW⟩ (c_RS_pull_x l hl9 dC dI r k F A _ p0 hI h0) (cwV 1 hW (gIn k_303 k_304 k_305 k_15 k_306) rfl rfl rfl (by decide +kernel) ⟨Nat.le_of_ble_eq_true rfl, Nat.le_of_ble_eq_true rfl⟩) hKc hR hC hD hS hA hXS (va_recv hKc hC (ci := 0) (q0 := 0) rfl rfl) rfl hl.1 rfl (Nat.le_of_ble_eq_true rfl) d_Lw_pull_4 ⟨Nat.le_of_ble_eq_true rfl, Nat.le_of_ble_eq_true rfl⟩ ?_
    intro u hval H locs q9 ce hR hC hD hS hce hcv hcl
    rw [hval] at h0
    rcases cd_RS_pull F A p0 with h9 | h9 | h9
    · rw [hval] at h9; exact absurd h9 h0
    · rw [hval] at h9
      have h9 : u = 1 := h9
      subst h9
      refine vx_catch (own := R_law) (name := "java/util/NoSuchElementException") (E := "java/util/NoSuchElementException") hown [] ⟨0, 9, 12, 19⟩ [⟨0, 9, 15, 27⟩] (by rw [hTab]; rfl) (fun z hz => nomatch hz) (by decide) (by decide) (hW _ k_280) (va_Nw.use rfl (hXS.2.2.1 ("java/util/NoSuchElementException", "java/util/NoSuchElementException") (by decide))) hce hcv hcl ?_
      refine lv_astore_n (lv' := [(3, .ref q9), (0, .ref (r 0)), (1, .int p0), (2, .ref o)]) hx hb d_Lw_pull_12 rfl hl (by decide) rfl (fun ls hl => ?_)
      refine lv_iconst (v := 1) hx hb d_Lw_pull_13 (by decide) ?_
      exact W.widen (k := 1) (n := 6) (Nat.le_of_ble_eq_true rfl) (Nat.le_of_ble_eq_true rfl) (W.iret (v := 1) hx hb hr (fun t ht hW9 => ⟨⟨1, (f, F, A), rfl, by rw [hval]; rfl, by rw [ht]; exact pApp hR hC, va_K.moved hW9.alike hK, hD⟩, hS.F ht⟩) hS.2.2 d_Lw_pull_14)
    · rw [hval] at h9
      have h9 : u = 3 := h9
      subst h9
      refine vx_catch (own := R_law) (name := "java/lang/IllegalStateException") (E := "java/lang/IllegalStateException") hown [⟨0, 9, 12, 19⟩] ⟨0, 9, 15, 27⟩ [] (by rw [hTab]; rfl) (fun z hz => by
          simp only [List.mem_cons, List.not_mem_nil, or_false] at hz
          rcases hz with rfl
          · exact Or.inr ⟨by decide, "java/util/NoSuchElementException", hW _ k_280, hXS.2.2.2.2.1 ("java/lang/IllegalStateException", "java/util/NoSuchElementException") (by decide)⟩) (by decide) (by decide) (hW _ k_286) (va_Nw.use rfl (hXS.2.2.1 ("java/lang/IllegalStateException", "java/lang/IllegalStateException") (by decide))) hce hcv hcl ?_
      refine lv_astore_n (lv' := [(3, .ref q9), (0, .ref (r 0)), (1, .int p0), (2, .ref o)]) hx hb d_Lw_pull_15 rfl hl (by decide) rfl (fun ls hl => ?_)
      refine lv_iconst (v := 2) hx hb d_Lw_pull_16 (by decide) ?_
      exact W.widen (k := 1) (n := 6) (Nat.le_of_ble_eq_true rfl) (Nat.le_of_ble_eq_true rfl) (W.iret (v := 2) hx hb hr (fun t ht hW9 => ⟨⟨2, (f, F, A), rfl, by rw [hval]; rfl, by rw [ht]; exact pApp hR hC, va_K.moved hW9.alike hK, hD⟩, hS.F ht⟩) hS.2.2 d_Lw_pull_17)
  · refine okV (wr := [(o, .inl (kO, 1, .inr (.inl f)))]) (wf := fun u : SC => wC r k u.1 u.2) ⟨hx, hb, hml, hown, hW⟩ (c_RS_pull_k l dC dI r k F A _ p0 hI h0) (cwV 1 hW (gIn k_303 k_304 k_305 k_15 k_306) rfl rfl rfl (by decide +kernel) ⟨Nat.le_of_ble_eq_true rfl, Nat.le_of_ble_eq_true rfl⟩) hKc hR hC hD hS hA (va_recv hKc hC (ci := 0) (q0 := 0) rfl rfl) rfl hl.1 rfl (Nat.le_of_ble_eq_true rfl) d_Lw_pull_4 ⟨Nat.zero_le _, Nat.zero_le _⟩ (fun H locs hR hC hD hS => ?_)
    refine lv_i2l (v := (f_RS_pull F A p0).2.1.toInt64) hx hb d_Lw_pull_7 rfl ?_
    refine va_last hx hb hK (pApp hR hC) hD hS 0 0 rfl rfl in01 d_Lw_pull_8 (fun H locs hP hD hS => ?_)
    have hP : va_P (dC, dI) classes (wL r k (f_RS_pull F A p0).2.2.1 (f_RS_pull F A p0).2.2.2 o kO (vp_updL f (0 : Int32).toNatClampNeg ((f_RS_pull F A p0).2.1.toInt64))) H := hP
    have hD : va_D Ad (wL r k (f_RS_pull F A p0).2.2.1 (f_RS_pull F A p0).2.2.2 o kO (vp_updL f (0 : Int32).toNatClampNeg ((f_RS_pull F A p0).2.1.toInt64))) := hD
    refine lv_goto (tgt := 18) hx hb d_Lw_pull_9 (by decide) ?_
    refine lv_iconst (v := 0) hx hb d_Lw_pull_18 (by decide) ?_
    exact W.widen (k := 1) (n := 6) (Nat.le_of_ble_eq_true rfl) (Nat.le_of_ble_eq_true rfl) (W.iret (v := 0) hx hb hr (fun t ht hW9 => ⟨⟨0, ((vp_updL f (0 : Int32).toNatClampNeg ((f_RS_pull F A p0).2.1.toInt64)), (f_RS_pull F A p0).2.2), rfl, by rw [hL, if_pos h0], by rw [ht]; exact hP, va_K.moved hW9.alike hK, hD⟩, hS.F ht⟩) hS.2.2 d_Lw_pull_19)
def cm_Lw_await (u : Nat) : Int32 := match u with | 1 => 1 | 3 => 2 | _ => 0
set_option maxHeartbeats 4000000 in
set_option maxRecDepth 100000 in
theorem c_Lw_await (l : Launch) (hl9 : l.stackTraces = false) (dC : Nat → ClassId) (dI : Nat → Nat → Nat) (r : Nat → Nat) (k : Nat → ClassId) (F : Nat → Int32) (A : Nat → Nat → Int32) (o : Nat) (kO : ClassId) (f : Nat → Int64) (sz : Nat) (p0 p1 : Int32) (hI : CI F) : Met l y_Lw_await w_Lw_await ({ frames := 8, cells := 1, slots := 6, locals := 126 }) (va_Pc [.ref (r 0), .int p0, .int p1, .ref o] (XP (dC, dI) (wL r k F A o kO f) (tL k kO) sz)) (va_Qi (fun v (u : SL) => (v, u) = hL cm_Lw_await f (f_RS_await F A p0 p1)) (fun (u : SL) t => aW (dC, dI) (tL k kO) (va_A (wL r k F A o kO f) sz) (wL r k u.2.1 u.2.2 o kO u.1) t) (va_A (wL r k F A o kO f) sz)) 1 6 (va_A (wL r k F A o kO f) sz) := by
  refine va_MetW (cc := b_Lw_await) (maxL := 5) (ret := (some .int)) (hh := [(0, 10, 13, 19), (0, 10, 17, 27)]) (by decide) rfl ?_
  intro p e s m args below meth c s₁ B hml hv0
  obtain ⟨rfl, ⟨hsz, hP, hK, hD0⟩, hXS⟩ := hv0
  have hx := B.exec
  have hb := B.bytes
  have hr := B.returns
  have hts := atoms_spec (ws := w_Lw_await) B.pre
  have hW : ∀ w ∈ WALL, w.before ([.ref (r 0), .int p0, .int p1, .ref o] : List Value).toArray s = true := fun w h => hts w (List.mem_cons_of_mem _ h)
  have hown : s.vm.findClass R_law = some m.cls := findClass_of_methodNamed B.named
  have hlocks := B.notSynchronized
  have hTab : c.exceptionTable.toList = tableOf [(0, 10, 13, 19), (0, 10, 17, 27)] := vx_table (x := y_Lw_await) B (hts _ List.mem_cons_self)
  subst hsz
  have hD := hD0.self (sz := s.heap.size)
  generalize hAe : va_A (wL r k F A o kO f) s.heap.size = Ad at hD hXS ⊢
  have hA : ∀ q : Nat, s.heap.size ≤ q → Ad q := fun q h => by rw [← hAe]; exact Or.inr h
  have hS : va_S Ad s.heap s.heap [] := va_S.rf
  have hl := lv_entry ([.ref (r 0), .int p0, .int p1, .ref o]) (n := 5) (Nat.le_of_ble_eq_true rfl)
  rw [lg_entry_eq]
  generalize (lg_sl ([.ref (r 0), .int p0, .int p1, .ref o]) ++ List.replicate (5 - (lg_sl ([.ref (r 0), .int p0, .int p1, .ref o])).length) Slot.unset).toArray = ls at hl ⊢
  have hl : lv_has ls 5 [(0, .ref (r 0)), (1, .int p0), (2, .int p1), (3, .ref o)] := hl
  have hR : va_P (dC, dI) classes [(o, .inl (kO, 1, .inr (.inl f)))] s.heap := pPre hP
  have hC : va_P (dC, dI) classes (wC r k F A) s.heap := pSuf hP
  have hKc : va_K (dC, dI) classes (tC k) s := hK.sub [1, 2, 3, 4, 5, 6, 7, 8, 9, 10, 11, 12, 13, 14] rfl
  refine lv_aload_n hx hb d_Lw_await_0 rfl (lv_at hl 3 rfl) ?_
  refine lv_iconst (v := 0) hx hb d_Lw_await_1 (by decide) ?_
  refine lv_aload_n hx hb d_Lw_await_2 rfl (lv_at hl 0 rfl) ?_
  refine lv_iload_n hx hb d_Lw_await_3 rfl (lv_at hl 1 rfl) ?_
  refine lv_iload_n hx hb d_Lw_await_4 rfl (lv_at hl 2 rfl) ?_
  by_cases h0 : (f_RS_await F A p0 p1).1 = 0
  rotate_left
  · refine xcV (wr := [(o, .inl (kO, 1, .inr (.inl f)))]) (wf := fun u : SC => wC r k u.1 u.2) (F0' := F) (A0' := A) ⟨hx, hb, hml, hown, hW⟩ (c_RS_await_x l hl9 dC dI r k F A _ p0 p1 hI h0) (cwV 2 hW (gIn k_307 k_308 k_309 k_15 k_310) rfl rfl rfl (by decide +kernel) ⟨Nat.le_of_ble_eq_true rfl, Nat.le_of_ble_eq_true rfl⟩) hKc hR hC hD hS hA hXS (va_recv hKc hC (ci := 0) (q0 := 0) rfl rfl) rfl hl.1 rfl (Nat.le_of_ble_eq_true rfl) d_Lw_await_5 ⟨Nat.le_of_ble_eq_true rfl, Nat.le_of_ble_eq_true rfl⟩ ?_
    intro u hval H locs q9 ce hR hC hD hS hce hcv hcl
    rw [hval] at h0
    rcases cd_RS_await F A p0 p1 with h9 | h9 | h9
    · rw [hval] at h9; exact absurd h9 h0
    · rw [hval] at h9
      have h9 : u = 1 := h9
      subst h9
      refine vx_catch (own := R_law) (name := "java/util/NoSuchElementException") (E := "java/util/NoSuchElementException") hown [] ⟨0, 10, 13, 19⟩ [⟨0, 10, 17, 27⟩] (by rw [hTab]; rfl) (fun z hz => nomatch hz) (by decide) (by decide) (hW _ k_280) (va_Nw.use rfl (hXS.2.2.1 ("java/util/NoSuchElementException", "java/util/NoSuchElementException") (by decide))) hce hcv hcl ?_
      refine lv_astore (lv' := [(4, .ref q9), (0, .ref (r 0)), (1, .int p0), (2, .int p1), (3, .ref o)]) hx hb d_Lw_await_13 hl (by decide) rfl (fun ls hl => ?_)
      refine lv_iconst (v := 1) hx hb d_Lw_await_15 (by decide) ?_
      exact W.widen (k := 1) (n := 6) (Nat.le_of_ble_eq_true rfl) (Nat.le_of_ble_eq_true rfl) (W.iret (v := 1) hx hb hr (fun t ht hW9 => ⟨⟨1, (f, F, A), rfl, by rw [hval]; rfl, by rw [ht]; exact pApp hR hC, va_K.moved hW9.alike hK, hD⟩, hS.F ht⟩) hS.2.2 d_Lw_await_16)
    · rw [hval] at h9
      have h9 : u = 3 := h9
      subst h9
      refine vx_catch (own := R_law) (name := "java/lang/IllegalStateException") (E := "java/lang/IllegalStateException") hown [⟨0, 10, 13, 19⟩] ⟨0, 10, 17, 27⟩ [] (by rw [hTab]; rfl) (fun z hz => by
          simp only [List.mem_cons, List.not_mem_nil, or_false] at hz
          rcases hz with rfl
          · exact Or.inr ⟨by decide, "java/util/NoSuchElementException", hW _ k_280, hXS.2.2.2.2.1 ("java/lang/IllegalStateException", "java/util/NoSuchElementException") (by decide)⟩) (by decide) (by decide) (hW _ k_286) (va_Nw.use rfl (hXS.2.2.1 ("java/lang/IllegalStateException", "java/lang/IllegalStateException") (by decide))) hce hcv hcl ?_
      refine lv_astore (lv' := [(4, .ref q9), (0, .ref (r 0)), (1, .int p0), (2, .int p1), (3, .ref o)]) hx hb d_Lw_await_17 hl (by decide) rfl (fun ls hl => ?_)
      refine lv_iconst (v := 2) hx hb d_Lw_await_19 (by decide) ?_
      exact W.widen (k := 1) (n := 6) (Nat.le_of_ble_eq_true rfl) (Nat.le_of_ble_eq_true rfl) (W.iret (v := 2) hx hb hr (fun t ht hW9 => ⟨⟨2, (f, F, A), rfl, by rw [hval]; rfl, by rw [ht]; exact pApp hR hC, va_K.moved hW9.alike hK, hD⟩, hS.F ht⟩) hS.2.2 d_Lw_await_20)
  · refine okV (wr := [(o, .inl (kO, 1, .inr (.inl f)))]) (wf := fun u : SC => wC r k u.1 u.2) ⟨hx, hb, hml, hown, hW⟩ (c_RS_await_k l dC dI r k F A _ p0 p1 hI h0) (cwV 2 hW (gIn k_307 k_308 k_309 k_15 k_310) rfl rfl rfl (by decide +kernel) ⟨Nat.le_of_ble_eq_true rfl, Nat.le_of_ble_eq_true rfl⟩) hKc hR hC hD hS hA (va_recv hKc hC (ci := 0) (q0 := 0) rfl rfl) rfl hl.1 rfl (Nat.le_of_ble_eq_true rfl) d_Lw_await_5 ⟨Nat.zero_le _, Nat.zero_le _⟩ (fun H locs hR hC hD hS => ?_)
    refine lv_i2l (v := (f_RS_await F A p0 p1).2.1.toInt64) hx hb d_Lw_await_8 rfl ?_
    refine va_last hx hb hK (pApp hR hC) hD hS 0 0 rfl rfl in01 d_Lw_await_9 (fun H locs hP hD hS => ?_)
    have hP : va_P (dC, dI) classes (wL r k (f_RS_await F A p0 p1).2.2.1 (f_RS_await F A p0 p1).2.2.2 o kO (vp_updL f (0 : Int32).toNatClampNeg ((f_RS_await F A p0 p1).2.1.toInt64))) H := hP
    have hD : va_D Ad (wL r k (f_RS_await F A p0 p1).2.2.1 (f_RS_await F A p0 p1).2.2.2 o kO (vp_updL f (0 : Int32).toNatClampNeg ((f_RS_await F A p0 p1).2.1.toInt64))) := hD
    refine lv_goto (tgt := 21) hx hb d_Lw_await_10 (by decide) ?_
    refine lv_iconst (v := 0) hx hb d_Lw_await_21 (by decide) ?_
    exact W.widen (k := 1) (n := 6) (Nat.le_of_ble_eq_true rfl) (Nat.le_of_ble_eq_true rfl) (W.iret (v := 0) hx hb hr (fun t ht hW9 => ⟨⟨0, ((vp_updL f (0 : Int32).toNatClampNeg ((f_RS_await F A p0 p1).2.1.toInt64)), (f_RS_await F A p0 p1).2.2), rfl, by rw [hL, if_pos h0], by rw [ht]; exact hP, va_K.moved hW9.alike hK, hD⟩, hS.F ht⟩) hS.2.2 d_Lw_await_22)
def cm_Lw_next (u : Nat) : Int32 := match u with | 1 => 1 | _ => 0
set_option maxHeartbeats 4000000 in
set_option maxRecDepth 100000 in
theorem c_Lw_next (l : Launch) (hl9 : l.stackTraces = false) (dC : Nat → ClassId) (dI : Nat → Nat → Nat) (r : Nat → Nat) (k : Nat → ClassId) (F : Nat → Int32) (A : Nat → Nat → Int32) (o : Nat) (kO : ClassId) (f : Nat → Int64) (sz : Nat) (p0 : Int32) (hI : CI F) : Met l y_Lw_next w_Lw_next ({ frames := 8, cells := 1, slots := 6, locals := 128 }) (va_Pc [.ref (r 0), .int p0, .ref o] (XP (dC, dI) (wL r k F A o kO f) (tL k kO) sz)) (va_Qi (fun v (u : SL) => (v, u) = hL cm_Lw_next f (f_RS_next F A p0)) (fun (u : SL) t => aW (dC, dI) (tL k kO) (va_A (wL r k F A o kO f) sz) (wL r k u.2.1 u.2.2 o kO u.1) t) (va_A (wL r k F A o kO f) sz)) 1 6 (va_A (wL r k F A o kO f) sz) := by
  refine va_MetW (cc := b_Lw_next) (maxL := 4) (ret := (some .int)) (hh := [(0, 9, 12, 19)]) (by decide) rfl ?_
  intro p e s m args below meth c s₁ B hml hv0
  obtain ⟨rfl, ⟨hsz, hP, hK, hD0⟩, hXS⟩ := hv0
  have hx := B.exec
  have hb := B.bytes
  have hr := B.returns
  have hts := atoms_spec (ws := w_Lw_next) B.pre
  have hW : ∀ w ∈ WALL, w.before ([.ref (r 0), .int p0, .ref o] : List Value).toArray s = true := fun w h => hts w (List.mem_cons_of_mem _ h)
  have hown : s.vm.findClass R_law = some m.cls := findClass_of_methodNamed B.named
  have hlocks := B.notSynchronized
  have hTab : c.exceptionTable.toList = tableOf [(0, 9, 12, 19)] := vx_table (x := y_Lw_next) B (hts _ List.mem_cons_self)
  subst hsz
  have hD := hD0.self (sz := s.heap.size)
  generalize hAe : va_A (wL r k F A o kO f) s.heap.size = Ad at hD hXS ⊢
  have hA : ∀ q : Nat, s.heap.size ≤ q → Ad q := fun q h => by rw [← hAe]; exact Or.inr h
  have hS : va_S Ad s.heap s.heap [] := va_S.rf
  have hl := lv_entry ([.ref (r 0), .int p0, .ref o]) (n := 4) (Nat.le_of_ble_eq_true rfl)
  rw [lg_entry_eq]
  generalize (lg_sl ([.ref (r 0), .int p0, .ref o]) ++ List.replicate (4 - (lg_sl ([.ref (r 0), .int p0, .ref o])).length) Slot.unset).toArray = ls at hl ⊢
  have hl : lv_has ls 4 [(0, .ref (r 0)), (1, .int p0), (2, .ref o)] := hl
  have hR : va_P (dC, dI) classes [(o, .inl (kO, 1, .inr (.inl f)))] s.heap := pPre hP
  have hC : va_P (dC, dI) classes (wC r k F A) s.heap := pSuf hP
  have hKc : va_K (dC, dI) classes (tC k) s := hK.sub [1, 2, 3, 4, 5, 6, 7, 8, 9, 10, 11, 12, 13, 14] rfl
  refine lv_aload_n hx hb d_Lw_next_0 rfl (lv_at hl 2 rfl) ?_
  refine lv_iconst (v := 0) hx hb d_Lw_next_1 (by decide) ?_
  refine lv_aload_n hx hb d_Lw_next_2 rfl (lv_at hl 0 rfl) ?_
  refine lv_iload_n hx hb d_Lw_next_3 rfl (lv_at hl 1 rfl) ?_
  by_cases h0 : (f_RS_next F A p0).1 = 0
  rotate_left
  · refine xcV (wr := [(o, .inl (kO, 1, .inr (.inl f)))]) (wf := fun u : SC => wC r k u.1 u.2) (F0' := F) (A0' := A) ⟨hx, hb, hml, hown, hW⟩ (c_RS_next_x l hl9 dC dI r k F A _ p0 hI h0) (cwV 1 hW (gIn k_311 k_312 k_313 k_15 k_314) rfl rfl rfl (by decide +kernel) ⟨Nat.le_of_ble_eq_true rfl, Nat.le_of_ble_eq_true rfl⟩) hKc hR hC hD hS hA hXS (va_recv hKc hC (ci := 0) (q0 := 0) rfl rfl) rfl hl.1 rfl (Nat.le_of_ble_eq_true rfl) d_Lw_next_4 ⟨Nat.le_of_ble_eq_true rfl, Nat.le_of_ble_eq_true rfl⟩ ?_
    intro u hval H locs q9 ce hR hC hD hS hce hcv hcl
    rw [hval] at h0
    rcases cd_RS_next F A p0 with h9 | h9
    · rw [hval] at h9; exact absurd h9 h0
    · rw [hval] at h9
      have h9 : u = 1 := h9
      subst h9
      refine vx_catch (own := R_law) (name := "java/util/NoSuchElementException") (E := "java/util/NoSuchElementException") hown [] ⟨0, 9, 12, 19⟩ [] (by rw [hTab]; rfl) (fun z hz => nomatch hz) (by decide) (by decide) (hW _ k_280) (va_Nw.use rfl (hXS.2.2.1 ("java/util/NoSuchElementException", "java/util/NoSuchElementException") (by decide))) hce hcv hcl ?_
      refine lv_astore_n (lv' := [(3, .ref q9), (0, .ref (r 0)), (1, .int p0), (2, .ref o)]) hx hb d_Lw_next_12 rfl hl (by decide) rfl (fun ls hl => ?_)
      refine lv_iconst (v := 1) hx hb d_Lw_next_13 (by decide) ?_
      exact W.widen (k := 1) (n := 6) (Nat.le_of_ble_eq_true rfl) (Nat.le_of_ble_eq_true rfl) (W.iret (v := 1) hx hb hr (fun t ht hW9 => ⟨⟨1, (f, F, A), rfl, by rw [hval]; rfl, by rw [ht]; exact pApp hR hC, va_K.moved hW9.alike hK, hD⟩, hS.F ht⟩) hS.2.2 d_Lw_next_14)
  · refine okV (wr := [(o, .inl (kO, 1, .inr (.inl f)))]) (wf := fun u : SC => wC r k u.1 u.2) ⟨hx, hb, hml, hown, hW⟩ (c_RS_next_k l dC dI r k F A _ p0 hI h0) (cwV 1 hW (gIn k_311 k_312 k_313 k_15 k_314) rfl rfl rfl (by decide +kernel) ⟨Nat.le_of_ble_eq_true rfl, Nat.le_of_ble_eq_true rfl⟩) hKc hR hC hD hS hA (va_recv hKc hC (ci := 0) (q0 := 0) rfl rfl) rfl hl.1 rfl (Nat.le_of_ble_eq_true rfl) d_Lw_next_4 ⟨Nat.zero_le _, Nat.zero_le _⟩ (fun H locs hR hC hD hS => ?_)
    refine lv_i2l (v := (f_RS_next F A p0).2.1.toInt64) hx hb d_Lw_next_7 rfl ?_
    refine va_last hx hb hK (pApp hR hC) hD hS 0 0 rfl rfl in01 d_Lw_next_8 (fun H locs hP hD hS => ?_)
    have hP : va_P (dC, dI) classes (wL r k (f_RS_next F A p0).2.2.1 (f_RS_next F A p0).2.2.2 o kO (vp_updL f (0 : Int32).toNatClampNeg ((f_RS_next F A p0).2.1.toInt64))) H := hP
    have hD : va_D Ad (wL r k (f_RS_next F A p0).2.2.1 (f_RS_next F A p0).2.2.2 o kO (vp_updL f (0 : Int32).toNatClampNeg ((f_RS_next F A p0).2.1.toInt64))) := hD
    refine lv_goto (tgt := 15) hx hb d_Lw_next_9 (by decide) ?_
    refine lv_iconst (v := 0) hx hb d_Lw_next_15 (by decide) ?_
    exact W.widen (k := 1) (n := 6) (Nat.le_of_ble_eq_true rfl) (Nat.le_of_ble_eq_true rfl) (W.iret (v := 0) hx hb hr (fun t ht hW9 => ⟨⟨0, ((vp_updL f (0 : Int32).toNatClampNeg ((f_RS_next F A p0).2.1.toInt64)), (f_RS_next F A p0).2.2), rfl, by rw [hL, if_pos h0], by rw [ht]; exact hP, va_K.moved hW9.alike hK, hD⟩, hS.F ht⟩) hS.2.2 d_Lw_next_16)
def cm_Lw_zone (u : Nat) : Int32 := match u with | 1 => 1 | 3 => 2 | _ => 0
set_option maxHeartbeats 4000000 in
set_option maxRecDepth 100000 in
theorem c_Lw_zone (l : Launch) (hl9 : l.stackTraces = false) (dC : Nat → ClassId) (dI : Nat → Nat → Nat) (r : Nat → Nat) (k : Nat → ClassId) (F : Nat → Int32) (A : Nat → Nat → Int32) (o : Nat) (kO : ClassId) (f : Nat → Int64) (sz : Nat) (p0 p1 : Int32) (hI : CI F) : Met l y_Lw_zone w_Lw_zone ({ frames := 8, cells := 1, slots := 6, locals := 125 }) (va_Pc [.ref (r 0), .int p0, .int p1, .ref o] (XP (dC, dI) (wL r k F A o kO f) (tL k kO) sz)) (va_Qi (fun v (u : SL) => (v, u) = hL cm_Lw_zone f (f_RS_zone F A p0 p1)) (fun (u : SL) t => aW (dC, dI) (tL k kO) (va_A (wL r k F A o kO f) sz) (wL r k u.2.1 u.2.2 o kO u.1) t) (va_A (wL r k F A o kO f) sz)) 1 6 (va_A (wL r k F A o kO f) sz) := by
  refine va_MetW (cc := b_Lw_zone) (maxL := 5) (ret := (some .int)) (hh := [(0, 10, 13, 19), (0, 10, 17, 27)]) (by decide) rfl ?_
  intro p e s m args below meth c s₁ B hml hv0
  obtain ⟨rfl, ⟨hsz, hP, hK, hD0⟩, hXS⟩ := hv0
  have hx := B.exec
  have hb := B.bytes
  have hr := B.returns
  have hts := atoms_spec (ws := w_Lw_zone) B.pre
  have hW : ∀ w ∈ WALL, w.before ([.ref (r 0), .int p0, .int p1, .ref o] : List Value).toArray s = true := fun w h => hts w (List.mem_cons_of_mem _ h)
  have hown : s.vm.findClass R_law = some m.cls := findClass_of_methodNamed B.named
  have hlocks := B.notSynchronized
  have hTab : c.exceptionTable.toList = tableOf [(0, 10, 13, 19), (0, 10, 17, 27)] := vx_table (x := y_Lw_zone) B (hts _ List.mem_cons_self)
  subst hsz
  have hD := hD0.self (sz := s.heap.size)
  generalize hAe : va_A (wL r k F A o kO f) s.heap.size = Ad at hD hXS ⊢
  have hA : ∀ q : Nat, s.heap.size ≤ q → Ad q := fun q h => by rw [← hAe]; exact Or.inr h
  have hS : va_S Ad s.heap s.heap [] := va_S.rf
  have hl := lv_entry ([.ref (r 0), .int p0, .int p1, .ref o]) (n := 5) (Nat.le_of_ble_eq_true rfl)
  rw [lg_entry_eq]
  generalize (lg_sl ([.ref (r 0), .int p0, .int p1, .ref o]) ++ List.replicate (5 - (lg_sl ([.ref (r 0), .int p0, .int p1, .ref o])).length) Slot.unset).toArray = ls at hl ⊢
  have hl : lv_has ls 5 [(0, .ref (r 0)), (1, .int p0), (2, .int p1), (3, .ref o)] := hl
  have hR : va_P (dC, dI) classes [(o, .inl (kO, 1, .inr (.inl f)))] s.heap := pPre hP
  have hC : va_P (dC, dI) classes (wC r k F A) s.heap := pSuf hP
  have hKc : va_K (dC, dI) classes (tC k) s := hK.sub [1, 2, 3, 4, 5, 6, 7, 8, 9, 10, 11, 12, 13, 14] rfl
  refine lv_aload_n hx hb d_Lw_zone_0 rfl (lv_at hl 3 rfl) ?_
  refine lv_iconst (v := 0) hx hb d_Lw_zone_1 (by decide) ?_
  refine lv_aload_n hx hb d_Lw_zone_2 rfl (lv_at hl 0 rfl) ?_
  refine lv_iload_n hx hb d_Lw_zone_3 rfl (lv_at hl 1 rfl) ?_
  refine lv_iload_n hx hb d_Lw_zone_4 rfl (lv_at hl 2 rfl) ?_
  by_cases h0 : (f_RS_zone F A p0 p1).1 = 0
  rotate_left
  · refine xcV (wr := [(o, .inl (kO, 1, .inr (.inl f)))]) (wf := fun u : SC => wC r k u.1 u.2) (F0' := F) (A0' := A) ⟨hx, hb, hml, hown, hW⟩ (c_RS_zone_x l hl9 dC dI r k F A _ p0 p1 hI h0) (cwV 2 hW (gIn k_315 k_316 k_317 k_15 k_318) rfl rfl rfl (by decide +kernel) ⟨Nat.le_of_ble_eq_true rfl, Nat.le_of_ble_eq_true rfl⟩) hKc hR hC hD hS hA hXS (va_recv hKc hC (ci := 0) (q0 := 0) rfl rfl) rfl hl.1 rfl (Nat.le_of_ble_eq_true rfl) d_Lw_zone_5 ⟨Nat.le_of_ble_eq_true rfl, Nat.le_of_ble_eq_true rfl⟩ ?_
    intro u hval H locs q9 ce hR hC hD hS hce hcv hcl
    rw [hval] at h0
    rcases cd_RS_zone F A p0 p1 with h9 | h9 | h9
    · rw [hval] at h9; exact absurd h9 h0
    · rw [hval] at h9
      have h9 : u = 1 := h9
      subst h9
      refine vx_catch (own := R_law) (name := "java/util/NoSuchElementException") (E := "java/util/NoSuchElementException") hown [] ⟨0, 10, 13, 19⟩ [⟨0, 10, 17, 27⟩] (by rw [hTab]; rfl) (fun z hz => nomatch hz) (by decide) (by decide) (hW _ k_280) (va_Nw.use rfl (hXS.2.2.1 ("java/util/NoSuchElementException", "java/util/NoSuchElementException") (by decide))) hce hcv hcl ?_
      refine lv_astore (lv' := [(4, .ref q9), (0, .ref (r 0)), (1, .int p0), (2, .int p1), (3, .ref o)]) hx hb d_Lw_zone_13 hl (by decide) rfl (fun ls hl => ?_)
      refine lv_iconst (v := 1) hx hb d_Lw_zone_15 (by decide) ?_
      exact W.widen (k := 1) (n := 6) (Nat.le_of_ble_eq_true rfl) (Nat.le_of_ble_eq_true rfl) (W.iret (v := 1) hx hb hr (fun t ht hW9 => ⟨⟨1, (f, F, A), rfl, by rw [hval]; rfl, by rw [ht]; exact pApp hR hC, va_K.moved hW9.alike hK, hD⟩, hS.F ht⟩) hS.2.2 d_Lw_zone_16)
    · rw [hval] at h9
      have h9 : u = 3 := h9
      subst h9
      refine vx_catch (own := R_law) (name := "java/lang/IllegalStateException") (E := "java/lang/IllegalStateException") hown [⟨0, 10, 13, 19⟩] ⟨0, 10, 17, 27⟩ [] (by rw [hTab]; rfl) (fun z hz => by
          simp only [List.mem_cons, List.not_mem_nil, or_false] at hz
          rcases hz with rfl
          · exact Or.inr ⟨by decide, "java/util/NoSuchElementException", hW _ k_280, hXS.2.2.2.2.1 ("java/lang/IllegalStateException", "java/util/NoSuchElementException") (by decide)⟩) (by decide) (by decide) (hW _ k_286) (va_Nw.use rfl (hXS.2.2.1 ("java/lang/IllegalStateException", "java/lang/IllegalStateException") (by decide))) hce hcv hcl ?_
      refine lv_astore (lv' := [(4, .ref q9), (0, .ref (r 0)), (1, .int p0), (2, .int p1), (3, .ref o)]) hx hb d_Lw_zone_17 hl (by decide) rfl (fun ls hl => ?_)
      refine lv_iconst (v := 2) hx hb d_Lw_zone_19 (by decide) ?_
      exact W.widen (k := 1) (n := 6) (Nat.le_of_ble_eq_true rfl) (Nat.le_of_ble_eq_true rfl) (W.iret (v := 2) hx hb hr (fun t ht hW9 => ⟨⟨2, (f, F, A), rfl, by rw [hval]; rfl, by rw [ht]; exact pApp hR hC, va_K.moved hW9.alike hK, hD⟩, hS.F ht⟩) hS.2.2 d_Lw_zone_20)
  · refine okV (wr := [(o, .inl (kO, 1, .inr (.inl f)))]) (wf := fun u : SC => wC r k u.1 u.2) ⟨hx, hb, hml, hown, hW⟩ (c_RS_zone_k l dC dI r k F A _ p0 p1 hI h0) (cwV 2 hW (gIn k_315 k_316 k_317 k_15 k_318) rfl rfl rfl (by decide +kernel) ⟨Nat.le_of_ble_eq_true rfl, Nat.le_of_ble_eq_true rfl⟩) hKc hR hC hD hS hA (va_recv hKc hC (ci := 0) (q0 := 0) rfl rfl) rfl hl.1 rfl (Nat.le_of_ble_eq_true rfl) d_Lw_zone_5 ⟨Nat.zero_le _, Nat.zero_le _⟩ (fun H locs hR hC hD hS => ?_)
    refine lv_i2l (v := (f_RS_zone F A p0 p1).2.1.toInt64) hx hb d_Lw_zone_8 rfl ?_
    refine va_last hx hb hK (pApp hR hC) hD hS 0 0 rfl rfl in01 d_Lw_zone_9 (fun H locs hP hD hS => ?_)
    have hP : va_P (dC, dI) classes (wL r k (f_RS_zone F A p0 p1).2.2.1 (f_RS_zone F A p0 p1).2.2.2 o kO (vp_updL f (0 : Int32).toNatClampNeg ((f_RS_zone F A p0 p1).2.1.toInt64))) H := hP
    have hD : va_D Ad (wL r k (f_RS_zone F A p0 p1).2.2.1 (f_RS_zone F A p0 p1).2.2.2 o kO (vp_updL f (0 : Int32).toNatClampNeg ((f_RS_zone F A p0 p1).2.1.toInt64))) := hD
    refine lv_goto (tgt := 21) hx hb d_Lw_zone_10 (by decide) ?_
    refine lv_iconst (v := 0) hx hb d_Lw_zone_21 (by decide) ?_
    exact W.widen (k := 1) (n := 6) (Nat.le_of_ble_eq_true rfl) (Nat.le_of_ble_eq_true rfl) (W.iret (v := 0) hx hb hr (fun t ht hW9 => ⟨⟨0, ((vp_updL f (0 : Int32).toNatClampNeg ((f_RS_zone F A p0 p1).2.1.toInt64)), (f_RS_zone F A p0 p1).2.2), rfl, by rw [hL, if_pos h0], by rw [ht]; exact hP, va_K.moved hW9.alike hK, hD⟩, hS.F ht⟩) hS.2.2 d_Lw_zone_22)
def cm_Lw_halt (u : Nat) : Int32 := match u with | 1 => 1 | 3 => 2 | _ => 0
set_option maxHeartbeats 4000000 in
set_option maxRecDepth 100000 in
theorem c_Lw_halt (l : Launch) (hl9 : l.stackTraces = false) (dC : Nat → ClassId) (dI : Nat → Nat → Nat) (r : Nat → Nat) (k : Nat → ClassId) (F : Nat → Int32) (A : Nat → Nat → Int32) (o : Nat) (kO : ClassId) (f : Nat → Int64) (sz : Nat) (p0 p1 : Int32) (hI : CI F) : Met l y_Lw_halt w_Lw_halt ({ frames := 8, cells := 1, slots := 6, locals := 125 }) (va_Pc [.ref (r 0), .int p0, .int p1, .ref o] (XP (dC, dI) (wL r k F A o kO f) (tL k kO) sz)) (va_Qi (fun v (u : SL) => (v, u) = hL cm_Lw_halt f (f_RS_halt F A p0 p1)) (fun (u : SL) t => aW (dC, dI) (tL k kO) (va_A (wL r k F A o kO f) sz) (wL r k u.2.1 u.2.2 o kO u.1) t) (va_A (wL r k F A o kO f) sz)) 1 6 (va_A (wL r k F A o kO f) sz) := by
  refine va_MetW (cc := b_Lw_halt) (maxL := 5) (ret := (some .int)) (hh := [(0, 10, 13, 19), (0, 10, 17, 27)]) (by decide) rfl ?_
  intro p e s m args below meth c s₁ B hml hv0
  obtain ⟨rfl, ⟨hsz, hP, hK, hD0⟩, hXS⟩ := hv0
  have hx := B.exec
  have hb := B.bytes
  have hr := B.returns
  have hts := atoms_spec (ws := w_Lw_halt) B.pre
  have hW : ∀ w ∈ WALL, w.before ([.ref (r 0), .int p0, .int p1, .ref o] : List Value).toArray s = true := fun w h => hts w (List.mem_cons_of_mem _ h)
  have hown : s.vm.findClass R_law = some m.cls := findClass_of_methodNamed B.named
  have hlocks := B.notSynchronized
  have hTab : c.exceptionTable.toList = tableOf [(0, 10, 13, 19), (0, 10, 17, 27)] := vx_table (x := y_Lw_halt) B (hts _ List.mem_cons_self)
  subst hsz
  have hD := hD0.self (sz := s.heap.size)
  generalize hAe : va_A (wL r k F A o kO f) s.heap.size = Ad at hD hXS ⊢
  have hA : ∀ q : Nat, s.heap.size ≤ q → Ad q := fun q h => by rw [← hAe]; exact Or.inr h
  have hS : va_S Ad s.heap s.heap [] := va_S.rf
  have hl := lv_entry ([.ref (r 0), .int p0, .int p1, .ref o]) (n := 5) (Nat.le_of_ble_eq_true rfl)
  rw [lg_entry_eq]
  generalize (lg_sl ([.ref (r 0), .int p0, .int p1, .ref o]) ++ List.replicate (5 - (lg_sl ([.ref (r 0), .int p0, .int p1, .ref o])).length) Slot.unset).toArray = ls at hl ⊢
  have hl : lv_has ls 5 [(0, .ref (r 0)), (1, .int p0), (2, .int p1), (3, .ref o)] := hl
  have hR : va_P (dC, dI) classes [(o, .inl (kO, 1, .inr (.inl f)))] s.heap := pPre hP
  have hC : va_P (dC, dI) classes (wC r k F A) s.heap := pSuf hP
  have hKc : va_K (dC, dI) classes (tC k) s := hK.sub [1, 2, 3, 4, 5, 6, 7, 8, 9, 10, 11, 12, 13, 14] rfl
  refine lv_aload_n hx hb d_Lw_halt_0 rfl (lv_at hl 3 rfl) ?_
  refine lv_iconst (v := 0) hx hb d_Lw_halt_1 (by decide) ?_
  refine lv_aload_n hx hb d_Lw_halt_2 rfl (lv_at hl 0 rfl) ?_
  refine lv_iload_n hx hb d_Lw_halt_3 rfl (lv_at hl 1 rfl) ?_
  refine lv_iload_n hx hb d_Lw_halt_4 rfl (lv_at hl 2 rfl) ?_
  by_cases h0 : (f_RS_halt F A p0 p1).1 = 0
  rotate_left
  · refine xcV (wr := [(o, .inl (kO, 1, .inr (.inl f)))]) (wf := fun u : SC => wC r k u.1 u.2) (F0' := F) (A0' := A) ⟨hx, hb, hml, hown, hW⟩ (c_RS_halt_x l hl9 dC dI r k F A _ p0 p1 hI h0) (cwV 2 hW (gIn k_319 k_320 k_321 k_15 k_322) rfl rfl rfl (by decide +kernel) ⟨Nat.le_of_ble_eq_true rfl, Nat.le_of_ble_eq_true rfl⟩) hKc hR hC hD hS hA hXS (va_recv hKc hC (ci := 0) (q0 := 0) rfl rfl) rfl hl.1 rfl (Nat.le_of_ble_eq_true rfl) d_Lw_halt_5 ⟨Nat.le_of_ble_eq_true rfl, Nat.le_of_ble_eq_true rfl⟩ ?_
    intro u hval H locs q9 ce hR hC hD hS hce hcv hcl
    rw [hval] at h0
    rcases cd_RS_halt F A p0 p1 with h9 | h9 | h9
    · rw [hval] at h9; exact absurd h9 h0
    · rw [hval] at h9
      have h9 : u = 1 := h9
      subst h9
      refine vx_catch (own := R_law) (name := "java/util/NoSuchElementException") (E := "java/util/NoSuchElementException") hown [] ⟨0, 10, 13, 19⟩ [⟨0, 10, 17, 27⟩] (by rw [hTab]; rfl) (fun z hz => nomatch hz) (by decide) (by decide) (hW _ k_280) (va_Nw.use rfl (hXS.2.2.1 ("java/util/NoSuchElementException", "java/util/NoSuchElementException") (by decide))) hce hcv hcl ?_
      refine lv_astore (lv' := [(4, .ref q9), (0, .ref (r 0)), (1, .int p0), (2, .int p1), (3, .ref o)]) hx hb d_Lw_halt_13 hl (by decide) rfl (fun ls hl => ?_)
      refine lv_iconst (v := 1) hx hb d_Lw_halt_15 (by decide) ?_
      exact W.widen (k := 1) (n := 6) (Nat.le_of_ble_eq_true rfl) (Nat.le_of_ble_eq_true rfl) (W.iret (v := 1) hx hb hr (fun t ht hW9 => ⟨⟨1, (f, F, A), rfl, by rw [hval]; rfl, by rw [ht]; exact pApp hR hC, va_K.moved hW9.alike hK, hD⟩, hS.F ht⟩) hS.2.2 d_Lw_halt_16)
    · rw [hval] at h9
      have h9 : u = 3 := h9
      subst h9
      refine vx_catch (own := R_law) (name := "java/lang/IllegalStateException") (E := "java/lang/IllegalStateException") hown [⟨0, 10, 13, 19⟩] ⟨0, 10, 17, 27⟩ [] (by rw [hTab]; rfl) (fun z hz => by
          simp only [List.mem_cons, List.not_mem_nil, or_false] at hz
          rcases hz with rfl
          · exact Or.inr ⟨by decide, "java/util/NoSuchElementException", hW _ k_280, hXS.2.2.2.2.1 ("java/lang/IllegalStateException", "java/util/NoSuchElementException") (by decide)⟩) (by decide) (by decide) (hW _ k_286) (va_Nw.use rfl (hXS.2.2.1 ("java/lang/IllegalStateException", "java/lang/IllegalStateException") (by decide))) hce hcv hcl ?_
      refine lv_astore (lv' := [(4, .ref q9), (0, .ref (r 0)), (1, .int p0), (2, .int p1), (3, .ref o)]) hx hb d_Lw_halt_17 hl (by decide) rfl (fun ls hl => ?_)
      refine lv_iconst (v := 2) hx hb d_Lw_halt_19 (by decide) ?_
      exact W.widen (k := 1) (n := 6) (Nat.le_of_ble_eq_true rfl) (Nat.le_of_ble_eq_true rfl) (W.iret (v := 2) hx hb hr (fun t ht hW9 => ⟨⟨2, (f, F, A), rfl, by rw [hval]; rfl, by rw [ht]; exact pApp hR hC, va_K.moved hW9.alike hK, hD⟩, hS.F ht⟩) hS.2.2 d_Lw_halt_20)
  · refine okV (wr := [(o, .inl (kO, 1, .inr (.inl f)))]) (wf := fun u : SC => wC r k u.1 u.2) ⟨hx, hb, hml, hown, hW⟩ (c_RS_halt_k l dC dI r k F A _ p0 p1 hI h0) (cwV 2 hW (gIn k_319 k_320 k_321 k_15 k_322) rfl rfl rfl (by decide +kernel) ⟨Nat.le_of_ble_eq_true rfl, Nat.le_of_ble_eq_true rfl⟩) hKc hR hC hD hS hA (va_recv hKc hC (ci := 0) (q0 := 0) rfl rfl) rfl hl.1 rfl (Nat.le_of_ble_eq_true rfl) d_Lw_halt_5 ⟨Nat.zero_le _, Nat.zero_le _⟩ (fun H locs hR hC hD hS => ?_)
    refine lv_i2l (v := (f_RS_halt F A p0 p1).2.1.toInt64) hx hb d_Lw_halt_8 rfl ?_
    refine va_last hx hb hK (pApp hR hC) hD hS 0 0 rfl rfl in01 d_Lw_halt_9 (fun H locs hP hD hS => ?_)
    have hP : va_P (dC, dI) classes (wL r k (f_RS_halt F A p0 p1).2.2.1 (f_RS_halt F A p0 p1).2.2.2 o kO (vp_updL f (0 : Int32).toNatClampNeg ((f_RS_halt F A p0 p1).2.1.toInt64))) H := hP
    have hD : va_D Ad (wL r k (f_RS_halt F A p0 p1).2.2.1 (f_RS_halt F A p0 p1).2.2.2 o kO (vp_updL f (0 : Int32).toNatClampNeg ((f_RS_halt F A p0 p1).2.1.toInt64))) := hD
    refine lv_goto (tgt := 21) hx hb d_Lw_halt_10 (by decide) ?_
    refine lv_iconst (v := 0) hx hb d_Lw_halt_21 (by decide) ?_
    exact W.widen (k := 1) (n := 6) (Nat.le_of_ble_eq_true rfl) (Nat.le_of_ble_eq_true rfl) (W.iret (v := 0) hx hb hr (fun t ht hW9 => ⟨⟨0, ((vp_updL f (0 : Int32).toNatClampNeg ((f_RS_halt F A p0 p1).2.1.toInt64)), (f_RS_halt F A p0 p1).2.2), rfl, by rw [hL, if_pos h0], by rw [ht]; exact hP, va_K.moved hW9.alike hK, hD⟩, hS.F ht⟩) hS.2.2 d_Lw_halt_22)
