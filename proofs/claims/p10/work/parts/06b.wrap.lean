def cm_Lw_piece (u : Nat) : Int32 := match u with | 4 => 1 | _ => 0
set_option maxHeartbeats 4000000 in
set_option maxRecDepth 100000 in
theorem c_Lw_piece (l : Launch) (hl9 : l.stackTraces = false) (dC : Nat → ClassId) (dI : Nat → Nat → Nat) (r : Nat → Nat) (k : Nat → ClassId) (F : Nat → Int32) (A : Nat → Nat → Int32) (o : Nat) (kO : ClassId) (f : Nat → Int64) (sz : Nat) (hI : CI F) : Met l y_Lw_piece w_Lw_piece ({ frames := 7, cells := 1, slots := 6, locals := 102 }) (va_Pc [.ref (r 0), .ref o] (XP (dC, dI) (wL r k F A o kO f) (tL k kO) sz)) (va_Qi (fun v (u : SL) => (v, u) = hL cm_Lw_piece f (f_RS_piece F A)) (fun (u : SL) t => aW (dC, dI) (tL k kO) (va_A (wL r k F A o kO f) sz) (wL r k u.2.1 u.2.2 o kO u.1) t) (va_A (wL r k F A o kO f) sz)) 1 6 (va_A (wL r k F A o kO f) sz) := by
  refine va_MetW (cc := b_Lw_piece) (maxL := 3) (ret := (some .int)) (hh := [(0, 8, 11, 13)]) (by decide) rfl ?_
  intro p e s m args below meth c s₁ B hml hv0
  obtain ⟨rfl, ⟨hsz, hP, hK, hD0⟩, hXS⟩ := hv0
  have hx := B.exec
  have hb := B.bytes
  have hr := B.returns
  have hts := atoms_spec (ws := w_Lw_piece) B.pre
  have hW : ∀ w ∈ WALL, w.before ([.ref (r 0), .ref o] : List Value).toArray s = true := fun w h => hts w (List.mem_cons_of_mem _ h)
  have hown : s.vm.findClass R_law = some m.cls := findClass_of_methodNamed B.named
  have hlocks := B.notSynchronized
  have hTab : c.exceptionTable.toList = tableOf [(0, 8, 11, 13)] := vx_table (x := y_Lw_piece) B (hts _ List.mem_cons_self)
  subst hsz
  have hD := hD0.self (sz := s.heap.size)
  generalize hAe : va_A (wL r k F A o kO f) s.heap.size = Ad at hD hXS ⊢
  have hA : ∀ q : Nat, s.heap.size ≤ q → Ad q := fun q h => by rw [← hAe]; exact Or.inr h
  have hS : va_S Ad s.heap s.heap [] := va_S.rf
  have hl := lv_entry ([.ref (r 0), .ref o]) (n := 3) (Nat.le_of_ble_eq_true rfl)
  rw [lg_entry_eq]
  generalize (lg_sl ([.ref (r 0), .ref o]) ++ List.replicate (3 - (lg_sl ([.ref (r 0), .ref o])).length) Slot.unset).toArray = ls at hl ⊢
  have hl : lv_has ls 3 [(0, .ref (r 0)), (1, .ref o)] := hl
  have hR : va_P (dC, dI) classes [(o, .inl (kO, 1, .inr (.inl f)))] s.heap := pPre hP
  have hC : va_P (dC, dI) classes (wC r k F A) s.heap := pSuf hP
  have hKc : va_K (dC, dI) classes (tC k) s := hK.sub [1, 2, 3, 4, 5, 6, 7, 8, 9, 10, 11, 12, 13, 14] rfl
  refine lv_aload_n hx hb d_Lw_piece_0 rfl (lv_at hl 1 rfl) ?_
  refine lv_iconst (v := 0) hx hb d_Lw_piece_1 (by decide) ?_
  refine lv_aload_n hx hb d_Lw_piece_2 rfl (lv_at hl 0 rfl) ?_
  by_cases h0 : (f_RS_piece F A).1 = 0
  rotate_left
  · refine xcV (wr := [(o, .inl (kO, 1, .inr (.inl f)))]) (wf := fun u : SC => wC r k u.1 u.2) (F0' := F) (A0' := A) ⟨hx, hb, hml, hown, hW⟩ (c_RS_piece_x l hl9 dC dI r k F A _  hI h0) (cwV 0 hW (gIn k_271 k_272 k_273 k_15 k_274) rfl rfl rfl (by decide +kernel) ⟨Nat.le_of_ble_eq_true rfl, Nat.le_of_ble_eq_true rfl⟩) hKc hR hC hD hS hA hXS (va_recv hKc hC (ci := 0) (q0 := 0) rfl rfl) rfl hl.1 rfl (Nat.le_of_ble_eq_true rfl) d_Lw_piece_3 ⟨Nat.le_of_ble_eq_true rfl, Nat.le_of_ble_eq_true rfl⟩ ?_
    intro u hval H locs q9 ce hR hC hD hS hce hcv hcl
    rw [hval] at h0
    rcases cd_RS_piece F A  with h9 | h9
    · rw [hval] at h9; exact absurd h9 h0
    · rw [hval] at h9
      have h9 : u = 4 := h9
      subst h9
      refine vx_catch (own := R_law) (name := "java/lang/UnsupportedOperationException") (E := "java/lang/UnsupportedOperationException") hown [] ⟨0, 8, 11, 13⟩ [] (by rw [hTab]; rfl) (fun z hz => nomatch hz) (by decide) (by decide) (hW _ k_275) (va_Nw.use rfl (hXS.2.2.1 ("java/lang/UnsupportedOperationException", "java/lang/UnsupportedOperationException") (by decide))) hce hcv hcl ?_
      refine lv_astore_n (lv' := [(2, .ref q9), (0, .ref (r 0)), (1, .ref o)]) hx hb d_Lw_piece_11 rfl hl (by decide) rfl (fun ls hl => ?_)
      refine lv_iconst (v := 1) hx hb d_Lw_piece_12 (by decide) ?_
      exact W.widen (k := 1) (n := 6) (Nat.le_of_ble_eq_true rfl) (Nat.le_of_ble_eq_true rfl) (W.iret (v := 1) hx hb hr (fun t ht hW9 => ⟨⟨1, (f, F, A), rfl, by rw [hval]; rfl, by rw [ht]; exact pApp hR hC, va_K.moved hW9.alike hK, hD⟩, hS.F ht⟩) hS.2.2 d_Lw_piece_13)
  · refine okV (wr := [(o, .inl (kO, 1, .inr (.inl f)))]) (wf := fun u : SC => wC r k u.1 u.2) ⟨hx, hb, hml, hown, hW⟩ (c_RS_piece_k l dC dI r k F A _  hI h0) (cwV 0 hW (gIn k_271 k_272 k_273 k_15 k_274) rfl rfl rfl (by decide +kernel) ⟨Nat.le_of_ble_eq_true rfl, Nat.le_of_ble_eq_true rfl⟩) hKc hR hC hD hS hA (va_recv hKc hC (ci := 0) (q0 := 0) rfl rfl) rfl hl.1 rfl (Nat.le_of_ble_eq_true rfl) d_Lw_piece_3 ⟨Nat.zero_le _, Nat.zero_le _⟩ (fun H locs hR hC hD hS => ?_)
    refine lv_i2l (v := (f_RS_piece F A).2.1.toInt64) hx hb d_Lw_piece_6 rfl ?_
    refine va_last hx hb hK (pApp hR hC) hD hS 0 0 rfl rfl in01 d_Lw_piece_7 (fun H locs hP hD hS => ?_)
    have hP : va_P (dC, dI) classes (wL r k (f_RS_piece F A).2.2.1 (f_RS_piece F A).2.2.2 o kO (vp_updL f (0 : Int32).toNatClampNeg ((f_RS_piece F A).2.1.toInt64))) H := hP
    have hD : va_D Ad (wL r k (f_RS_piece F A).2.2.1 (f_RS_piece F A).2.2.2 o kO (vp_updL f (0 : Int32).toNatClampNeg ((f_RS_piece F A).2.1.toInt64))) := hD
    refine lv_goto (tgt := 14) hx hb d_Lw_piece_8 (by decide) ?_
    refine lv_iconst (v := 0) hx hb d_Lw_piece_14 (by decide) ?_
    exact W.widen (k := 1) (n := 6) (Nat.le_of_ble_eq_true rfl) (Nat.le_of_ble_eq_true rfl) (W.iret (v := 0) hx hb hr (fun t ht hW9 => ⟨⟨0, ((vp_updL f (0 : Int32).toNatClampNeg ((f_RS_piece F A).2.1.toInt64)), (f_RS_piece F A).2.2), rfl, by rw [hL, if_pos h0], by rw [ht]; exact hP, va_K.moved hW9.alike hK, hD⟩, hS.F ht⟩) hS.2.2 d_Lw_piece_15)
def cm_Lw_link (u : Nat) : Int32 := match u with | 1 => 1 | 2 => 2 | _ => 0
set_option maxHeartbeats 4000000 in
set_option maxRecDepth 100000 in
theorem c_Lw_link (l : Launch) (hl9 : l.stackTraces = false) (dC : Nat → ClassId) (dI : Nat → Nat → Nat) (r : Nat → Nat) (k : Nat → ClassId) (F : Nat → Int32) (A : Nat → Nat → Int32) (o : Nat) (kO : ClassId) (f : Nat → Int64) (sz : Nat) (p0 p1 p2 : Int32) (hI : CI F) : Met l y_Lw_link w_Lw_link ({ frames := 8, cells := 1, slots := 6, locals := 126 }) (va_Pc [.ref (r 0), .int p0, .int p1, .int p2, .ref o] (XP (dC, dI) (wL r k F A o kO f) (tL k kO) sz)) (va_Qi (fun v (u : SL) => (v, u) = hL cm_Lw_link f (f_RS_link F A p0 p1 p2)) (fun (u : SL) t => aW (dC, dI) (tL k kO) (va_A (wL r k F A o kO f) sz) (wL r k u.2.1 u.2.2 o kO u.1) t) (va_A (wL r k F A o kO f) sz)) 1 6 (va_A (wL r k F A o kO f) sz) := by
  refine va_MetW (cc := b_Lw_link) (maxL := 6) (ret := (some .int)) (hh := [(0, 12, 15, 19), (0, 12, 19, 21)]) (by decide) rfl ?_
  intro p e s m args below meth c s₁ B hml hv0
  obtain ⟨rfl, ⟨hsz, hP, hK, hD0⟩, hXS⟩ := hv0
  have hx := B.exec
  have hb := B.bytes
  have hr := B.returns
  have hts := atoms_spec (ws := w_Lw_link) B.pre
  have hW : ∀ w ∈ WALL, w.before ([.ref (r 0), .int p0, .int p1, .int p2, .ref o] : List Value).toArray s = true := fun w h => hts w (List.mem_cons_of_mem _ h)
  have hown : s.vm.findClass R_law = some m.cls := findClass_of_methodNamed B.named
  have hlocks := B.notSynchronized
  have hTab : c.exceptionTable.toList = tableOf [(0, 12, 15, 19), (0, 12, 19, 21)] := vx_table (x := y_Lw_link) B (hts _ List.mem_cons_self)
  subst hsz
  have hD := hD0.self (sz := s.heap.size)
  generalize hAe : va_A (wL r k F A o kO f) s.heap.size = Ad at hD hXS ⊢
  have hA : ∀ q : Nat, s.heap.size ≤ q → Ad q := fun q h => by rw [← hAe]; exact Or.inr h
  have hS : va_S Ad s.heap s.heap [] := va_S.rf
  have hl := lv_entry ([.ref (r 0), .int p0, .int p1, .int p2, .ref o]) (n := 6) (Nat.le_of_ble_eq_true rfl)
  rw [lg_entry_eq]
  generalize (lg_sl ([.ref (r 0), .int p0, .int p1, .int p2, .ref o]) ++ List.replicate (6 - (lg_sl ([.ref (r 0), .int p0, .int p1, .int p2, .ref o])).length) Slot.unset).toArray = ls at hl ⊢
  have hl : lv_has ls 6 [(0, .ref (r 0)), (1, .int p0), (2, .int p1), (3, .int p2), (4, .ref o)] := hl
  have hR : va_P (dC, dI) classes [(o, .inl (kO, 1, .inr (.inl f)))] s.heap := pPre hP
  have hC : va_P (dC, dI) classes (wC r k F A) s.heap := pSuf hP
  have hKc : va_K (dC, dI) classes (tC k) s := hK.sub [1, 2, 3, 4, 5, 6, 7, 8, 9, 10, 11, 12, 13, 14] rfl
  refine lv_aload hx hb d_Lw_link_0 (lv_at hl 4 rfl) ?_
  refine lv_iconst (v := 0) hx hb d_Lw_link_2 (by decide) ?_
  refine lv_aload_n hx hb d_Lw_link_3 rfl (lv_at hl 0 rfl) ?_
  refine lv_iload_n hx hb d_Lw_link_4 rfl (lv_at hl 1 rfl) ?_
  refine lv_iload_n hx hb d_Lw_link_5 rfl (lv_at hl 2 rfl) ?_
  refine lv_iload_n hx hb d_Lw_link_6 rfl (lv_at hl 3 rfl) ?_
  by_cases h0 : (f_RS_link F A p0 p1 p2).1 = 0
  rotate_left
  · refine xcV (wr := [(o, .inl (kO, 1, .inr (.inl f)))]) (wf := fun u : SC => wC r k u.1 u.2) (F0' := F) (A0' := A) ⟨hx, hb, hml, hown, hW⟩ (c_RS_link_x l hl9 dC dI r k F A _ p0 p1 p2 hI h0) (cwV 3 hW (gIn k_276 k_277 k_278 k_15 k_279) rfl rfl rfl (by decide +kernel) ⟨Nat.le_of_ble_eq_true rfl, Nat.le_of_ble_eq_true rfl⟩) hKc hR hC hD hS hA hXS (va_recv hKc hC (ci := 0) (q0 := 0) rfl rfl) rfl hl.1 rfl (Nat.le_of_ble_eq_true rfl) d_Lw_link_7 ⟨Nat.le_of_ble_eq_true rfl, Nat.le_of_ble_eq_true rfl⟩ ?_
    intro u hval H locs q9 ce hR hC hD hS hce hcv hcl
    rw [hval] at h0
    rcases cd_RS_link F A p0 p1 p2 with h9 | h9 | h9
    · rw [hval] at h9; exact absurd h9 h0
    · rw [hval] at h9
      have h9 : u = 1 := h9
      subst h9
      refine vx_catch (own := R_law) (name := "java/util/NoSuchElementException") (E := "java/util/NoSuchElementException") hown [] ⟨0, 12, 15, 19⟩ [⟨0, 12, 19, 21⟩] (by rw [hTab]; rfl) (fun z hz => nomatch hz) (by decide) (by decide) (hW _ k_280) (va_Nw.use rfl (hXS.2.2.1 ("java/util/NoSuchElementException", "java/util/NoSuchElementException") (by decide))) hce hcv hcl ?_
      refine lv_astore (lv' := [(5, .ref q9), (0, .ref (r 0)), (1, .int p0), (2, .int p1), (3, .int p2), (4, .ref o)]) hx hb d_Lw_link_15 hl (by decide) rfl (fun ls hl => ?_)
      refine lv_iconst (v := 1) hx hb d_Lw_link_17 (by decide) ?_
      exact W.widen (k := 1) (n := 6) (Nat.le_of_ble_eq_true rfl) (Nat.le_of_ble_eq_true rfl) (W.iret (v := 1) hx hb hr (fun t ht hW9 => ⟨⟨1, (f, F, A), rfl, by rw [hval]; rfl, by rw [ht]; exact pApp hR hC, va_K.moved hW9.alike hK, hD⟩, hS.F ht⟩) hS.2.2 d_Lw_link_18)
    · rw [hval] at h9
      have h9 : u = 2 := h9
      subst h9
      refine vx_catch (own := R_law) (name := "java/lang/IllegalArgumentException") (E := "java/lang/IllegalArgumentException") hown [⟨0, 12, 15, 19⟩] ⟨0, 12, 19, 21⟩ [] (by rw [hTab]; rfl) (fun z hz => by
          simp only [List.mem_cons, List.not_mem_nil, or_false] at hz
          rcases hz with rfl
          · exact Or.inr ⟨by decide, "java/util/NoSuchElementException", hW _ k_280, hXS.2.2.2.2.1 ("java/lang/IllegalArgumentException", "java/util/NoSuchElementException") (by decide)⟩) (by decide) (by decide) (hW _ k_281) (va_Nw.use rfl (hXS.2.2.1 ("java/lang/IllegalArgumentException", "java/lang/IllegalArgumentException") (by decide))) hce hcv hcl ?_
      refine lv_astore (lv' := [(5, .ref q9), (0, .ref (r 0)), (1, .int p0), (2, .int p1), (3, .int p2), (4, .ref o)]) hx hb d_Lw_link_19 hl (by decide) rfl (fun ls hl => ?_)
      refine lv_iconst (v := 2) hx hb d_Lw_link_21 (by decide) ?_
      exact W.widen (k := 1) (n := 6) (Nat.le_of_ble_eq_true rfl) (Nat.le_of_ble_eq_true rfl) (W.iret (v := 2) hx hb hr (fun t ht hW9 => ⟨⟨2, (f, F, A), rfl, by rw [hval]; rfl, by rw [ht]; exact pApp hR hC, va_K.moved hW9.alike hK, hD⟩, hS.F ht⟩) hS.2.2 d_Lw_link_22)
  · refine okV (wr := [(o, .inl (kO, 1, .inr (.inl f)))]) (wf := fun u : SC => wC r k u.1 u.2) ⟨hx, hb, hml, hown, hW⟩ (c_RS_link_k l dC dI r k F A _ p0 p1 p2 hI h0) (cwV 3 hW (gIn k_276 k_277 k_278 k_15 k_279) rfl rfl rfl (by decide +kernel) ⟨Nat.le_of_ble_eq_true rfl, Nat.le_of_ble_eq_true rfl⟩) hKc hR hC hD hS hA (va_recv hKc hC (ci := 0) (q0 := 0) rfl rfl) rfl hl.1 rfl (Nat.le_of_ble_eq_true rfl) d_Lw_link_7 ⟨Nat.zero_le _, Nat.zero_le _⟩ (fun H locs hR hC hD hS => ?_)
    refine lv_i2l (v := (f_RS_link F A p0 p1 p2).2.1.toInt64) hx hb d_Lw_link_10 rfl ?_
    refine va_last hx hb hK (pApp hR hC) hD hS 0 0 rfl rfl in01 d_Lw_link_11 (fun H locs hP hD hS => ?_)
    have hP : va_P (dC, dI) classes (wL r k (f_RS_link F A p0 p1 p2).2.2.1 (f_RS_link F A p0 p1 p2).2.2.2 o kO (vp_updL f (0 : Int32).toNatClampNeg ((f_RS_link F A p0 p1 p2).2.1.toInt64))) H := hP
    have hD : va_D Ad (wL r k (f_RS_link F A p0 p1 p2).2.2.1 (f_RS_link F A p0 p1 p2).2.2.2 o kO (vp_updL f (0 : Int32).toNatClampNeg ((f_RS_link F A p0 p1 p2).2.1.toInt64))) := hD
    refine lv_goto (tgt := 23) hx hb d_Lw_link_12 (by decide) ?_
    refine lv_iconst (v := 0) hx hb d_Lw_link_23 (by decide) ?_
    exact W.widen (k := 1) (n := 6) (Nat.le_of_ble_eq_true rfl) (Nat.le_of_ble_eq_true rfl) (W.iret (v := 0) hx hb hr (fun t ht hW9 => ⟨⟨0, ((vp_updL f (0 : Int32).toNatClampNeg ((f_RS_link F A p0 p1 p2).2.1.toInt64)), (f_RS_link F A p0 p1 p2).2.2), rfl, by rw [hL, if_pos h0], by rw [ht]; exact hP, va_K.moved hW9.alike hK, hD⟩, hS.F ht⟩) hS.2.2 d_Lw_link_24)
def cm_Lw_robot (u : Nat) : Int32 := match u with | 1 => 1 | 3 => 2 | 4 => 3 | _ => 0
set_option maxHeartbeats 4000000 in
set_option maxRecDepth 100000 in
theorem c_Lw_robot (l : Launch) (hl9 : l.stackTraces = false) (dC : Nat → ClassId) (dI : Nat → Nat → Nat) (r : Nat → Nat) (k : Nat → ClassId) (F : Nat → Int32) (A : Nat → Nat → Int32) (o : Nat) (kO : ClassId) (f : Nat → Int64) (sz : Nat) (p0 p1 : Int32) (hI : CI F) : Met l y_Lw_robot w_Lw_robot ({ frames := 8, cells := 1, slots := 6, locals := 125 }) (va_Pc [.ref (r 0), .int p0, .int p1, .ref o] (XP (dC, dI) (wL r k F A o kO f) (tL k kO) sz)) (va_Qi (fun v (u : SL) => (v, u) = hL cm_Lw_robot f (f_RS_robot F A p0 p1)) (fun (u : SL) t => aW (dC, dI) (tL k kO) (va_A (wL r k F A o kO f) sz) (wL r k u.2.1 u.2.2 o kO u.1) t) (va_A (wL r k F A o kO f) sz)) 1 6 (va_A (wL r k F A o kO f) sz) := by
  refine va_MetW (cc := b_Lw_robot) (maxL := 5) (ret := (some .int)) (hh := [(0, 10, 13, 19), (0, 10, 17, 27), (0, 10, 21, 13)]) (by decide) rfl ?_
  intro p e s m args below meth c s₁ B hml hv0
  obtain ⟨rfl, ⟨hsz, hP, hK, hD0⟩, hXS⟩ := hv0
  have hx := B.exec
  have hb := B.bytes
  have hr := B.returns
  have hts := atoms_spec (ws := w_Lw_robot) B.pre
  have hW : ∀ w ∈ WALL, w.before ([.ref (r 0), .int p0, .int p1, .ref o] : List Value).toArray s = true := fun w h => hts w (List.mem_cons_of_mem _ h)
  have hown : s.vm.findClass R_law = some m.cls := findClass_of_methodNamed B.named
  have hlocks := B.notSynchronized
  have hTab : c.exceptionTable.toList = tableOf [(0, 10, 13, 19), (0, 10, 17, 27), (0, 10, 21, 13)] := vx_table (x := y_Lw_robot) B (hts _ List.mem_cons_self)
  subst hsz
  have hD := hD0.self (sz := s.heap.size)
  generalize hAe : va_A (wL r k F A o kO f) s.heap.size = Ad at hD hXS ⊢
  have hA : ∀ q : Nat, s.heap.size ≤ q → Ad q := fun q h => by rw [← hAe]; exact Or.inr h
  have hS : va_S Ad s.heap s.heap [] := va_S.rf
  have hl := lv_entry ([.ref (r 0), .int p0, .int p1, .ref o]) (n := 5) (Nat.le_of_ble_eq_true rfl)
  rw [lg_entry_eq]
  generalize (lg_sl ([.ref (r 0), .int p0, .int p1, .ref o]) ++ List.replicate (5 - (lg_sl ([.ref (r 0), .int p0, .int p1, .ref o])).length) Slot.unset).toArray = ls at hl ⊢
  have hl : lv_has ls 5 [(0, .ref (r 0)), (1, .int p0), (2, .int p1), (3, .ref o)] := hl
  have hR : va_P (dC, dI) classes [(o, .inl (kO, 1, .inr (.inl f)))] s.heap := pPre hP
  have hC : va_P (dC, dI) classes (wC r k F A) s.heap := pSuf hP
  have hKc : va_K (dC, dI) classes (tC k) s := hK.sub [1, 2, 3, 4, 5, 6, 7, 8, 9, 10, 11, 12, 13, 14] rfl
  refine lv_aload_n hx hb d_Lw_robot_0 rfl (lv_at hl 3 rfl) ?_
  refine lv_iconst (v := 0) hx hb d_Lw_robot_1 (by decide) ?_
  refine lv_aload_n hx hb d_Lw_robot_2 rfl (lv_at hl 0 rfl) ?_
  refine lv_iload_n hx hb d_Lw_robot_3 rfl (lv_at hl 1 rfl) ?_
  refine lv_iload_n hx hb d_Lw_robot_4 rfl (lv_at hl 2 rfl) ?_
  by_cases h0 : (f_RS_robot F A p0 p1).1 = 0
  rotate_left
  · refine xcV (wr := [(o, .inl (kO, 1, .inr (.inl f)))]) (wf := fun u : SC => wC r k u.1 u.2) (F0' := F) (A0' := A) ⟨hx, hb, hml, hown, hW⟩ (c_RS_robot_x l hl9 dC dI r k F A _ p0 p1 hI h0) (cwV 2 hW (gIn k_282 k_283 k_284 k_15 k_285) rfl rfl rfl (by decide +kernel) ⟨Nat.le_of_ble_eq_true rfl, Nat.le_of_ble_eq_true rfl⟩) hKc hR hC hD hS hA hXS (va_recv hKc hC (ci := 0) (q0 := 0) rfl rfl) rfl hl.1 rfl (Nat.le_of_ble_eq_true rfl) d_Lw_robot_5 ⟨Nat.le_of_ble_eq_true rfl, Nat.le_of_ble_eq_true rfl⟩ ?_
    intro u hval H locs q9 ce hR hC hD hS hce hcv hcl
    rw [hval] at h0
    rcases cd_RS_robot F A p0 p1 with h9 | h9 | h9 | h9
    · rw [hval] at h9; exact absurd h9 h0
    · rw [hval] at h9
      have h9 : u = 1 := h9
      subst h9
      refine vx_catch (own := R_law) (name := "java/util/NoSuchElementException") (E := "java/util/NoSuchElementException") hown [] ⟨0, 10, 13, 19⟩ [⟨0, 10, 17, 27⟩, ⟨0, 10, 21, 13⟩] (by rw [hTab]; rfl) (fun z hz => nomatch hz) (by decide) (by decide) (hW _ k_280) (va_Nw.use rfl (hXS.2.2.1 ("java/util/NoSuchElementException", "java/util/NoSuchElementException") (by decide))) hce hcv hcl ?_
      refine lv_astore (lv' := [(4, .ref q9), (0, .ref (r 0)), (1, .int p0), (2, .int p1), (3, .ref o)]) hx hb d_Lw_robot_13 hl (by decide) rfl (fun ls hl => ?_)
      refine lv_iconst (v := 1) hx hb d_Lw_robot_15 (by decide) ?_
      exact W.widen (k := 1) (n := 6) (Nat.le_of_ble_eq_true rfl) (Nat.le_of_ble_eq_true rfl) (W.iret (v := 1) hx hb hr (fun t ht hW9 => ⟨⟨1, (f, F, A), rfl, by rw [hval]; rfl, by rw [ht]; exact pApp hR hC, va_K.moved hW9.alike hK, hD⟩, hS.F ht⟩) hS.2.2 d_Lw_robot_16)
    · rw [hval] at h9
      have h9 : u = 3 := h9
      subst h9
      refine vx_catch (own := R_law) (name := "java/lang/IllegalStateException") (E := "java/lang/IllegalStateException") hown [⟨0, 10, 13, 19⟩] ⟨0, 10, 17, 27⟩ [⟨0, 10, 21, 13⟩] (by rw [hTab]; rfl) (fun z hz => by
          simp only [List.mem_cons, List.not_mem_nil, or_false] at hz
          rcases hz with rfl
          · exact Or.inr ⟨by decide, "java/util/NoSuchElementException", hW _ k_280, hXS.2.2.2.2.1 ("java/lang/IllegalStateException", "java/util/NoSuchElementException") (by decide)⟩) (by decide) (by decide) (hW _ k_286) (va_Nw.use rfl (hXS.2.2.1 ("java/lang/IllegalStateException", "java/lang/IllegalStateException") (by decide))) hce hcv hcl ?_
      refine lv_astore (lv' := [(4, .ref q9), (0, .ref (r 0)), (1, .int p0), (2, .int p1), (3, .ref o)]) hx hb d_Lw_robot_17 hl (by decide) rfl (fun ls hl => ?_)
      refine lv_iconst (v := 2) hx hb d_Lw_robot_19 (by decide) ?_
      exact W.widen (k := 1) (n := 6) (Nat.le_of_ble_eq_true rfl) (Nat.le_of_ble_eq_true rfl) (W.iret (v := 2) hx hb hr (fun t ht hW9 => ⟨⟨2, (f, F, A), rfl, by rw [hval]; rfl, by rw [ht]; exact pApp hR hC, va_K.moved hW9.alike hK, hD⟩, hS.F ht⟩) hS.2.2 d_Lw_robot_20)
    · rw [hval] at h9
      have h9 : u = 4 := h9
      subst h9
      refine vx_catch (own := R_law) (name := "java/lang/UnsupportedOperationException") (E := "java/lang/UnsupportedOperationException") hown [⟨0, 10, 13, 19⟩, ⟨0, 10, 17, 27⟩] ⟨0, 10, 21, 13⟩ [] (by rw [hTab]; rfl) (fun z hz => by
          simp only [List.mem_cons, List.not_mem_nil, or_false] at hz
          rcases hz with rfl | rfl
          · exact Or.inr ⟨by decide, "java/util/NoSuchElementException", hW _ k_280, hXS.2.2.2.2.1 ("java/lang/UnsupportedOperationException", "java/util/NoSuchElementException") (by decide)⟩
          · exact Or.inr ⟨by decide, "java/lang/IllegalStateException", hW _ k_286, hXS.2.2.2.2.1 ("java/lang/UnsupportedOperationException", "java/lang/IllegalStateException") (by decide)⟩) (by decide) (by decide) (hW _ k_275) (va_Nw.use rfl (hXS.2.2.1 ("java/lang/UnsupportedOperationException", "java/lang/UnsupportedOperationException") (by decide))) hce hcv hcl ?_
      refine lv_astore (lv' := [(4, .ref q9), (0, .ref (r 0)), (1, .int p0), (2, .int p1), (3, .ref o)]) hx hb d_Lw_robot_21 hl (by decide) rfl (fun ls hl => ?_)
      refine lv_iconst (v := 3) hx hb d_Lw_robot_23 (by decide) ?_
      exact W.widen (k := 1) (n := 6) (Nat.le_of_ble_eq_true rfl) (Nat.le_of_ble_eq_true rfl) (W.iret (v := 3) hx hb hr (fun t ht hW9 => ⟨⟨3, (f, F, A), rfl, by rw [hval]; rfl, by rw [ht]; exact pApp hR hC, va_K.moved hW9.alike hK, hD⟩, hS.F ht⟩) hS.2.2 d_Lw_robot_24)
  · refine okV (wr := [(o, .inl (kO, 1, .inr (.inl f)))]) (wf := fun u : SC => wC r k u.1 u.2) ⟨hx, hb, hml, hown, hW⟩ (c_RS_robot_k l dC dI r k F A _ p0 p1 hI h0) (cwV 2 hW (gIn k_282 k_283 k_284 k_15 k_285) rfl rfl rfl (by decide +kernel) ⟨Nat.le_of_ble_eq_true rfl, Nat.le_of_ble_eq_true rfl⟩) hKc hR hC hD hS hA (va_recv hKc hC (ci := 0) (q0 := 0) rfl rfl) rfl hl.1 rfl (Nat.le_of_ble_eq_true rfl) d_Lw_robot_5 ⟨Nat.zero_le _, Nat.zero_le _⟩ (fun H locs hR hC hD hS => ?_)
    refine lv_i2l (v := (f_RS_robot F A p0 p1).2.1.toInt64) hx hb d_Lw_robot_8 rfl ?_
    refine va_last hx hb hK (pApp hR hC) hD hS 0 0 rfl rfl in01 d_Lw_robot_9 (fun H locs hP hD hS => ?_)
    have hP : va_P (dC, dI) classes (wL r k (f_RS_robot F A p0 p1).2.2.1 (f_RS_robot F A p0 p1).2.2.2 o kO (vp_updL f (0 : Int32).toNatClampNeg ((f_RS_robot F A p0 p1).2.1.toInt64))) H := hP
    have hD : va_D Ad (wL r k (f_RS_robot F A p0 p1).2.2.1 (f_RS_robot F A p0 p1).2.2.2 o kO (vp_updL f (0 : Int32).toNatClampNeg ((f_RS_robot F A p0 p1).2.1.toInt64))) := hD
    refine lv_goto (tgt := 25) hx hb d_Lw_robot_10 (by decide) ?_
    refine lv_iconst (v := 0) hx hb d_Lw_robot_25 (by decide) ?_
    exact W.widen (k := 1) (n := 6) (Nat.le_of_ble_eq_true rfl) (Nat.le_of_ble_eq_true rfl) (W.iret (v := 0) hx hb hr (fun t ht hW9 => ⟨⟨0, ((vp_updL f (0 : Int32).toNatClampNeg ((f_RS_robot F A p0 p1).2.1.toInt64)), (f_RS_robot F A p0 p1).2.2), rfl, by rw [hL, if_pos h0], by rw [ht]; exact hP, va_K.moved hW9.alike hK, hD⟩, hS.F ht⟩) hS.2.2 d_Lw_robot_26)
def cm_Lw_ask (u : Nat) : Int32 := match u with | 1 => 1 | 2 => 2 | 3 => 3 | 4 => 4 | _ => 0
set_option maxHeartbeats 4000000 in
set_option maxRecDepth 100000 in
theorem c_Lw_ask (l : Launch) (hl9 : l.stackTraces = false) (dC : Nat → ClassId) (dI : Nat → Nat → Nat) (r : Nat → Nat) (k : Nat → ClassId) (F : Nat → Int32) (A : Nat → Nat → Int32) (o : Nat) (kO : ClassId) (f : Nat → Int64) (sz : Nat) (p0 p1 p2 p3 p4 : Int32) (hI : CI F) : Met l y_Lw_ask w_Lw_ask ({ frames := 8, cells := 1, slots := 6, locals := 130 }) (va_Pc [.ref (r 0), .int p0, .int p1, .int p2, .int p3, .int p4, .ref o] (XP (dC, dI) (wL r k F A o kO f) (tL k kO) sz)) (va_Qi (fun v (u : SL) => (v, u) = hL cm_Lw_ask f (f_RS_ask F A p0 p1 p2 p3 p4)) (fun (u : SL) t => aW (dC, dI) (tL k kO) (va_A (wL r k F A o kO f) sz) (wL r k u.2.1 u.2.2 o kO u.1) t) (va_A (wL r k F A o kO f) sz)) 1 6 (va_A (wL r k F A o kO f) sz) := by
  refine va_MetW (cc := b_Lw_ask) (maxL := 8) (ret := (some .int)) (hh := [(0, 16, 19, 19), (0, 16, 23, 21), (0, 16, 27, 27), (0, 16, 31, 13)]) (by decide) rfl ?_
  intro p e s m args below meth c s₁ B hml hv0
  obtain ⟨rfl, ⟨hsz, hP, hK, hD0⟩, hXS⟩ := hv0
  have hx := B.exec
  have hb := B.bytes
  have hr := B.returns
  have hts := atoms_spec (ws := w_Lw_ask) B.pre
  have hW : ∀ w ∈ WALL, w.before ([.ref (r 0), .int p0, .int p1, .int p2, .int p3, .int p4, .ref o] : List Value).toArray s = true := fun w h => hts w (List.mem_cons_of_mem _ h)
  have hown : s.vm.findClass R_law = some m.cls := findClass_of_methodNamed B.named
  have hlocks := B.notSynchronized
  have hTab : c.exceptionTable.toList = tableOf [(0, 16, 19, 19), (0, 16, 23, 21), (0, 16, 27, 27), (0, 16, 31, 13)] := vx_table (x := y_Lw_ask) B (hts _ List.mem_cons_self)
  subst hsz
  have hD := hD0.self (sz := s.heap.size)
  generalize hAe : va_A (wL r k F A o kO f) s.heap.size = Ad at hD hXS ⊢
  have hA : ∀ q : Nat, s.heap.size ≤ q → Ad q := fun q h => by rw [← hAe]; exact Or.inr h
  have hS : va_S Ad s.heap s.heap [] := va_S.rf
  have hl := lv_entry ([.ref (r 0), .int p0, .int p1, .int p2, .int p3, .int p4, .ref o]) (n := 8) (Nat.le_of_ble_eq_true rfl)
  rw [lg_entry_eq]
  generalize (lg_sl ([.ref (r 0), .int p0, .int p1, .int p2, .int p3, .int p4, .ref o]) ++ List.replicate (8 - (lg_sl ([.ref (r 0), .int p0, .int p1, .int p2, .int p3, .int p4, .ref o])).length) Slot.unset).toArray = ls at hl ⊢
  have hl : lv_has ls 8 [(0, .ref (r 0)), (1, .int p0), (2, .int p1), (3, .int p2), (4, .int p3), (5, .int p4), (6, .ref o)] := hl
  have hR : va_P (dC, dI) classes [(o, .inl (kO, 1, .inr (.inl f)))] s.heap := pPre hP
  have hC : va_P (dC, dI) classes (wC r k F A) s.heap := pSuf hP
  have hKc : va_K (dC, dI) classes (tC k) s := hK.sub [1, 2, 3, 4, 5, 6, 7, 8, 9, 10, 11, 12, 13, 14] rfl
  refine lv_aload hx hb d_Lw_ask_0 (lv_at hl 6 rfl) ?_
  refine lv_iconst (v := 0) hx hb d_Lw_ask_2 (by decide) ?_
  refine lv_aload_n hx hb d_Lw_ask_3 rfl (lv_at hl 0 rfl) ?_
  refine lv_iload_n hx hb d_Lw_ask_4 rfl (lv_at hl 1 rfl) ?_
  refine lv_iload_n hx hb d_Lw_ask_5 rfl (lv_at hl 2 rfl) ?_
  refine lv_iload_n hx hb d_Lw_ask_6 rfl (lv_at hl 3 rfl) ?_
  refine lv_iload hx hb d_Lw_ask_7 (lv_at hl 4 rfl) ?_
  refine lv_iload hx hb d_Lw_ask_9 (lv_at hl 5 rfl) ?_
  by_cases h0 : (f_RS_ask F A p0 p1 p2 p3 p4).1 = 0
  rotate_left
  · refine xcV (wr := [(o, .inl (kO, 1, .inr (.inl f)))]) (wf := fun u : SC => wC r k u.1 u.2) (F0' := F) (A0' := A) ⟨hx, hb, hml, hown, hW⟩ (c_RS_ask_x l hl9 dC dI r k F A _ p0 p1 p2 p3 p4 hI h0) (cwV 5 hW (gIn k_287 k_288 k_289 k_15 k_290) rfl rfl rfl (by decide +kernel) ⟨Nat.le_of_ble_eq_true rfl, Nat.le_of_ble_eq_true rfl⟩) hKc hR hC hD hS hA hXS (va_recv hKc hC (ci := 0) (q0 := 0) rfl rfl) rfl hl.1 rfl (Nat.le_of_ble_eq_true rfl) d_Lw_ask_11 ⟨Nat.le_of_ble_eq_true rfl, Nat.le_of_ble_eq_true rfl⟩ ?_
    intro u hval H locs q9 ce hR hC hD hS hce hcv hcl
    rw [hval] at h0
    rcases cd_RS_ask F A p0 p1 p2 p3 p4 with h9 | h9 | h9 | h9 | h9
    · rw [hval] at h9; exact absurd h9 h0
    · rw [hval] at h9
      have h9 : u = 1 := h9
      subst h9
      refine vx_catch (own := R_law) (name := "java/util/NoSuchElementException") (E := "java/util/NoSuchElementException") hown [] ⟨0, 16, 19, 19⟩ [⟨0, 16, 23, 21⟩, ⟨0, 16, 27, 27⟩, ⟨0, 16, 31, 13⟩] (by rw [hTab]; rfl) (fun z hz => nomatch hz) (by decide) (by decide) (hW _ k_280) (va_Nw.use rfl (hXS.2.2.1 ("java/util/NoSuchElementException", "java/util/NoSuchElementException") (by decide))) hce hcv hcl ?_
      refine lv_astore (lv' := [(7, .ref q9), (0, .ref (r 0)), (1, .int p0), (2, .int p1), (3, .int p2), (4, .int p3), (5, .int p4), (6, .ref o)]) hx hb d_Lw_ask_19 hl (by decide) rfl (fun ls hl => ?_)
      refine lv_iconst (v := 1) hx hb d_Lw_ask_21 (by decide) ?_
      exact W.widen (k := 1) (n := 6) (Nat.le_of_ble_eq_true rfl) (Nat.le_of_ble_eq_true rfl) (W.iret (v := 1) hx hb hr (fun t ht hW9 => ⟨⟨1, (f, F, A), rfl, by rw [hval]; rfl, by rw [ht]; exact pApp hR hC, va_K.moved hW9.alike hK, hD⟩, hS.F ht⟩) hS.2.2 d_Lw_ask_22)
    · rw [hval] at h9
      have h9 : u = 2 := h9
      subst h9
      refine vx_catch (own := R_law) (name := "java/lang/IllegalArgumentException") (E := "java/lang/IllegalArgumentException") hown [⟨0, 16, 19, 19⟩] ⟨0, 16, 23, 21⟩ [⟨0, 16, 27, 27⟩, ⟨0, 16, 31, 13⟩] (by rw [hTab]; rfl) (fun z hz => by
          simp only [List.mem_cons, List.not_mem_nil, or_false] at hz
          rcases hz with rfl
          · exact Or.inr ⟨by decide, "java/util/NoSuchElementException", hW _ k_280, hXS.2.2.2.2.1 ("java/lang/IllegalArgumentException", "java/util/NoSuchElementException") (by decide)⟩) (by decide) (by decide) (hW _ k_281) (va_Nw.use rfl (hXS.2.2.1 ("java/lang/IllegalArgumentException", "java/lang/IllegalArgumentException") (by decide))) hce hcv hcl ?_
      refine lv_astore (lv' := [(7, .ref q9), (0, .ref (r 0)), (1, .int p0), (2, .int p1), (3, .int p2), (4, .int p3), (5, .int p4), (6, .ref o)]) hx hb d_Lw_ask_23 hl (by decide) rfl (fun ls hl => ?_)
      refine lv_iconst (v := 2) hx hb d_Lw_ask_25 (by decide) ?_
      exact W.widen (k := 1) (n := 6) (Nat.le_of_ble_eq_true rfl) (Nat.le_of_ble_eq_true rfl) (W.iret (v := 2) hx hb hr (fun t ht hW9 => ⟨⟨2, (f, F, A), rfl, by rw [hval]; rfl, by rw [ht]; exact pApp hR hC, va_K.moved hW9.alike hK, hD⟩, hS.F ht⟩) hS.2.2 d_Lw_ask_26)
    · rw [hval] at h9
      have h9 : u = 3 := h9
      subst h9
      refine vx_catch (own := R_law) (name := "java/lang/IllegalStateException") (E := "java/lang/IllegalStateException") hown [⟨0, 16, 19, 19⟩, ⟨0, 16, 23, 21⟩] ⟨0, 16, 27, 27⟩ [⟨0, 16, 31, 13⟩] (by rw [hTab]; rfl) (fun z hz => by
          simp only [List.mem_cons, List.not_mem_nil, or_false] at hz
          rcases hz with rfl | rfl
          · exact Or.inr ⟨by decide, "java/util/NoSuchElementException", hW _ k_280, hXS.2.2.2.2.1 ("java/lang/IllegalStateException", "java/util/NoSuchElementException") (by decide)⟩
          · exact Or.inr ⟨by decide, "java/lang/IllegalArgumentException", hW _ k_281, hXS.2.2.2.2.1 ("java/lang/IllegalStateException", "java/lang/IllegalArgumentException") (by decide)⟩) (by decide) (by decide) (hW _ k_286) (va_Nw.use rfl (hXS.2.2.1 ("java/lang/IllegalStateException", "java/lang/IllegalStateException") (by decide))) hce hcv hcl ?_
      refine lv_astore (lv' := [(7, .ref q9), (0, .ref (r 0)), (1, .int p0), (2, .int p1), (3, .int p2), (4, .int p3), (5, .int p4), (6, .ref o)]) hx hb d_Lw_ask_27 hl (by decide) rfl (fun ls hl => ?_)
      refine lv_iconst (v := 3) hx hb d_Lw_ask_29 (by decide) ?_
      exact W.widen (k := 1) (n := 6) (Nat.le_of_ble_eq_true rfl) (Nat.le_of_ble_eq_true rfl) (W.iret (v := 3) hx hb hr (fun t ht hW9 => ⟨⟨3, (f, F, A), rfl, by rw [hval]; rfl, by rw [ht]; exact pApp hR hC, va_K.moved hW9.alike hK, hD⟩, hS.F ht⟩) hS.2.2 d_Lw_ask_30)
    · rw [hval] at h9
      have h9 : u = 4 := h9
      subst h9
      refine vx_catch (own := R_law) (name := "java/lang/UnsupportedOperationException") (E := "java/lang/UnsupportedOperationException") hown [⟨0, 16, 19, 19⟩, ⟨0, 16, 23, 21⟩, ⟨0, 16, 27, 27⟩] ⟨0, 16, 31, 13⟩ [] (by rw [hTab]; rfl) (fun z hz => by
          simp only [List.mem_cons, List.not_mem_nil, or_false] at hz
          rcases hz with rfl | rfl | rfl
          · exact Or.inr ⟨by decide, "java/util/NoSuchElementException", hW _ k_280, hXS.2.2.2.2.1 ("java/lang/UnsupportedOperationException", "java/util/NoSuchElementException") (by decide)⟩
          · exact Or.inr ⟨by decide, "java/lang/IllegalArgumentException", hW _ k_281, hXS.2.2.2.2.1 ("java/lang/UnsupportedOperationException", "java/lang/IllegalArgumentException") (by decide)⟩
          · exact Or.inr ⟨by decide, "java/lang/IllegalStateException", hW _ k_286, hXS.2.2.2.2.1 ("java/lang/UnsupportedOperationException", "java/lang/IllegalStateException") (by decide)⟩) (by decide) (by decide) (hW _ k_275) (va_Nw.use rfl (hXS.2.2.1 ("java/lang/UnsupportedOperationException", "java/lang/UnsupportedOperationException") (by decide))) hce hcv hcl ?_
      refine lv_astore (lv' := [(7, .ref q9), (0, .ref (r 0)), (1, .int p0), (2, .int p1), (3, .int p2), (4, .int p3), (5, .int p4), (6, .ref o)]) hx hb d_Lw_ask_31 hl (by decide) rfl (fun ls hl => ?_)
      refine lv_iconst (v := 4) hx hb d_Lw_ask_33 (by decide) ?_
      exact W.widen (k := 1) (n := 6) (Nat.le_of_ble_eq_true rfl) (Nat.le_of_ble_eq_true rfl) (W.iret (v := 4) hx hb hr (fun t ht hW9 => ⟨⟨4, (f, F, A), rfl, by rw [hval]; rfl, by rw [ht]; exact pApp hR hC, va_K.moved hW9.alike hK, hD⟩, hS.F ht⟩) hS.2.2 d_Lw_ask_34)
  · refine okV (wr := [(o, .inl (kO, 1, .inr (.inl f)))]) (wf := fun u : SC => wC r k u.1 u.2) ⟨hx, hb, hml, hown, hW⟩ (c_RS_ask_k l dC dI r k F A _ p0 p1 p2 p3 p4 hI h0) (cwV 5 hW (gIn k_287 k_288 k_289 k_15 k_290) rfl rfl rfl (by decide +kernel) ⟨Nat.le_of_ble_eq_true rfl, Nat.le_of_ble_eq_true rfl⟩) hKc hR hC hD hS hA (va_recv hKc hC (ci := 0) (q0 := 0) rfl rfl) rfl hl.1 rfl (Nat.le_of_ble_eq_true rfl) d_Lw_ask_11 ⟨Nat.zero_le _, Nat.zero_le _⟩ (fun H locs hR hC hD hS => ?_)
    refine lv_i2l (v := (f_RS_ask F A p0 p1 p2 p3 p4).2.1.toInt64) hx hb d_Lw_ask_14 rfl ?_
    refine va_last hx hb hK (pApp hR hC) hD hS 0 0 rfl rfl in01 d_Lw_ask_15 (fun H locs hP hD hS => ?_)
    have hP : va_P (dC, dI) classes (wL r k (f_RS_ask F A p0 p1 p2 p3 p4).2.2.1 (f_RS_ask F A p0 p1 p2 p3 p4).2.2.2 o kO (vp_updL f (0 : Int32).toNatClampNeg ((f_RS_ask F A p0 p1 p2 p3 p4).2.1.toInt64))) H := hP
    have hD : va_D Ad (wL r k (f_RS_ask F A p0 p1 p2 p3 p4).2.2.1 (f_RS_ask F A p0 p1 p2 p3 p4).2.2.2 o kO (vp_updL f (0 : Int32).toNatClampNeg ((f_RS_ask F A p0 p1 p2 p3 p4).2.1.toInt64))) := hD
    refine lv_goto (tgt := 35) hx hb d_Lw_ask_16 (by decide) ?_
    refine lv_iconst (v := 0) hx hb d_Lw_ask_35 (by decide) ?_
    exact W.widen (k := 1) (n := 6) (Nat.le_of_ble_eq_true rfl) (Nat.le_of_ble_eq_true rfl) (W.iret (v := 0) hx hb hr (fun t ht hW9 => ⟨⟨0, ((vp_updL f (0 : Int32).toNatClampNeg ((f_RS_ask F A p0 p1 p2 p3 p4).2.1.toInt64)), (f_RS_ask F A p0 p1 p2 p3 p4).2.2), rfl, by rw [hL, if_pos h0], by rw [ht]; exact hP, va_K.moved hW9.alike hK, hD⟩, hS.F ht⟩) hS.2.2 d_Lw_ask_36)
def cm_Lw_free (u : Nat) : Int32 := match u with | 1 => 1 | 3 => 2 | _ => 0
set_option maxHeartbeats 4000000 in
set_option maxRecDepth 100000 in
theorem c_Lw_free (l : Launch) (hl9 : l.stackTraces = false) (dC : Nat → ClassId) (dI : Nat → Nat → Nat) (r : Nat → Nat) (k : Nat → ClassId) (F : Nat → Int32) (A : Nat → Nat → Int32) (o : Nat) (kO : ClassId) (f : Nat → Int64) (sz : Nat) (p0 : Int32) (hI : CI F) : Met l y_Lw_free w_Lw_free ({ frames := 8, cells := 1, slots := 6, locals := 124 }) (va_Pc [.ref (r 0), .int p0, .ref o] (XP (dC, dI) (wL r k F A o kO f) (tL k kO) sz)) (va_Qi (fun v (u : SL) => (v, u) = hL cm_Lw_free f (f_RS_free F A p0)) (fun (u : SL) t => aW (dC, dI) (tL k kO) (va_A (wL r k F A o kO f) sz) (wL r k u.2.1 u.2.2 o kO u.1) t) (va_A (wL r k F A o kO f) sz)) 1 6 (va_A (wL r k F A o kO f) sz) := by
  refine va_MetW (cc := b_Lw_free) (maxL := 4) (ret := (some .int)) (hh := [(0, 9, 12, 19), (0, 9, 15, 27)]) (by decide) rfl ?_
  intro p e s m args below meth c s₁ B hml hv0
  obtain ⟨rfl, ⟨hsz, hP, hK, hD0⟩, hXS⟩ := hv0
  have hx := B.exec
  have hb := B.bytes
  have hr := B.returns
  have hts := atoms_spec (ws := w_Lw_free) B.pre
  have hW : ∀ w ∈ WALL, w.before ([.ref (r 0), .int p0, .ref o] : List Value).toArray s = true := fun w h => hts w (List.mem_cons_of_mem _ h)
  have hown : s.vm.findClass R_law = some m.cls := findClass_of_methodNamed B.named
  have hlocks := B.notSynchronized
  have hTab : c.exceptionTable.toList = tableOf [(0, 9, 12, 19), (0, 9, 15, 27)] := vx_table (x := y_Lw_free) B (hts _ List.mem_cons_self)
  subst hsz
  have hD := hD0.self (sz := s.heap.size)
  generalize hAe : va_A (wL r k F A o kO f) s.heap.size = Ad at hD hXS ⊢
  have hA : ∀ q : Nat, s.heap.size ≤ q → Ad q := fun q h => by rw [← hAe]; exact Or.inr h
  have hS : va_S Ad s.heap s.heap [] := va_S.rf
  have hl := lv_entry ([.ref (r 0), .int p0, .ref o]) (n := 4) (Nat.le_of_ble_eq_true rfl)
  rw [lg_entry_eq]
  generalize (lg_sl ([.ref (r 0), .int p0, .ref o]) ++ List.replicate (4 - (lg_sl ([.ref (r 0), .int p0, .ref o])).length) Slot.unset).toArray = ls at hl ⊢
  have hl : lv_has ls 4 [(0, .ref (r 0)), (1, .int p0), (2, .ref o)] := hl
  have hR : va_P (dC, dI) classes [(o, .inl (kO, 1, .inr (.inl f)))] s.heap := pPre hP
  have hC : va_P (dC, dI) classes (wC r k F A) s.heap := pSuf hP
  have hKc : va_K (dC, dI) classes (tC k) s := hK.sub [1, 2, 3, 4, 5, 6, 7, 8, 9, 10, 11, 12, 13, 14] rfl
  refine lv_aload_n hx hb d_Lw_free_0 rfl (lv_at hl 2 rfl) ?_
  refine lv_iconst (v := 0) hx hb d_Lw_free_1 (by decide) ?_
  refine lv_aload_n hx hb d_Lw_free_2 rfl (lv_at hl 0 rfl) ?_
  refine lv_iload_n hx hb d_Lw_free_3 rfl (lv_at hl 1 rfl) ?_
  by_cases h0 : (f_RS_free F A p0).1 = 0
  rotate_left
  · refine xcV (wr := [(o, .inl (kO, 1, .inr (.inl f)))]) (wf := fun u : SC => wC r k u.1 u.2) (F0' := F) (A0' := A) ⟨hx, hb, hml, hown, hW⟩ (c_RS_free_x l hl9 dC dI r k F A _ p0 hI h0) (cwV 1 hW (gIn k_291 k_292 k_293 k_15 k_294) rfl rfl rfl (by decide +kernel) ⟨Nat.le_of_ble_eq_true rfl, Nat.le_of_ble_eq_true rfl⟩) hKc hR hC hD hS hA hXS (va_recv hKc hC (ci := 0) (q0 := 0) rfl rfl) rfl hl.1 rfl (Nat.le_of_ble_eq_true rfl) d_Lw_free_4 ⟨Nat.le_of_ble_eq_true rfl, Nat.le_of_ble_eq_true rfl⟩ ?_
    intro u hval H locs q9 ce hR hC hD hS hce hcv hcl
    rw [hval] at h0
    rcases cd_RS_free F A p0 with h9 | h9 | h9
    · rw [hval] at h9; exact absurd h9 h0
    · rw [hval] at h9
      have h9 : u = 1 := h9
      subst h9
      refine vx_catch (own := R_law) (name := "java/util/NoSuchElementException") (E := "java/util/NoSuchElementException") hown [] ⟨0, 9, 12, 19⟩ [⟨0, 9, 15, 27⟩] (by rw [hTab]; rfl) (fun z hz => nomatch hz) (by decide) (by decide) (hW _ k_280) (va_Nw.use rfl (hXS.2.2.1 ("java/util/NoSuchElementException", "java/util/NoSuchElementException") (by decide))) hce hcv hcl ?_
      refine lv_astore_n (lv' := [(3, .ref q9), (0, .ref (r 0)), (1, .int p0), (2, .ref o)]) hx hb d_Lw_free_12 rfl hl (by decide) rfl (fun ls hl => ?_)
      refine lv_iconst (v := 1) hx hb d_Lw_free_13 (by decide) ?_
      exact W.widen (k := 1) (n := 6) (Nat.le_of_ble_eq_true rfl) (Nat.le_of_ble_eq_true rfl) (W.iret (v := 1) hx hb hr (fun t ht hW9 => ⟨⟨1, (f, F, A), rfl, by rw [hval]; rfl, by rw [ht]; exact pApp hR hC, va_K.moved hW9.alike hK, hD⟩, hS.F ht⟩) hS.2.2 d_Lw_free_14)
    · rw [hval] at h9
      have h9 : u = 3 := h9
      subst h9
      refine vx_catch (own := R_law) (name := "java/lang/IllegalStateException") (E := "java/lang/IllegalStateException") hown [⟨0, 9, 12, 19⟩] ⟨0, 9, 15, 27⟩ [] (by rw [hTab]; rfl) (fun z hz => by
          simp only [List.mem_cons, List.not_mem_nil, or_false] at hz
          rcases hz with rfl
          · exact Or.inr ⟨by decide, "java/util/NoSuchElementException", hW _ k_280, hXS.2.2.2.2.1 ("java/lang/IllegalStateException", "java/util/NoSuchElementException") (by decide)⟩) (by decide) (by decide) (hW _ k_286) (va_Nw.use rfl (hXS.2.2.1 ("java/lang/IllegalStateException", "java/lang/IllegalStateException") (by decide))) hce hcv hcl ?_
      refine lv_astore_n (lv' := [(3, .ref q9), (0, .ref (r 0)), (1, .int p0), (2, .ref o)]) hx hb d_Lw_free_15 rfl hl (by decide) rfl (fun ls hl => ?_)
      refine lv_iconst (v := 2) hx hb d_Lw_free_16 (by decide) ?_
      exact W.widen (k := 1) (n := 6) (Nat.le_of_ble_eq_true rfl) (Nat.le_of_ble_eq_true rfl) (W.iret (v := 2) hx hb hr (fun t ht hW9 => ⟨⟨2, (f, F, A), rfl, by rw [hval]; rfl, by rw [ht]; exact pApp hR hC, va_K.moved hW9.alike hK, hD⟩, hS.F ht⟩) hS.2.2 d_Lw_free_17)
  · refine okV (wr := [(o, .inl (kO, 1, .inr (.inl f)))]) (wf := fun u : SC => wC r k u.1 u.2) ⟨hx, hb, hml, hown, hW⟩ (c_RS_free_k l dC dI r k F A _ p0 hI h0) (cwV 1 hW (gIn k_291 k_292 k_293 k_15 k_294) rfl rfl rfl (by decide +kernel) ⟨Nat.le_of_ble_eq_true rfl, Nat.le_of_ble_eq_true rfl⟩) hKc hR hC hD hS hA (va_recv hKc hC (ci := 0) (q0 := 0) rfl rfl) rfl hl.1 rfl (Nat.le_of_ble_eq_true rfl) d_Lw_free_4 ⟨Nat.zero_le _, Nat.zero_le _⟩ (fun H locs hR hC hD hS => ?_)
    refine lv_i2l (v := (f_RS_free F A p0).2.1.toInt64) hx hb d_Lw_free_7 rfl ?_
    refine va_last hx hb hK (pApp hR hC) hD hS 0 0 rfl rfl in01 d_Lw_free_8 (fun H locs hP hD hS => ?_)
    have hP : va_P (dC, dI) classes (wL r k (f_RS_free F A p0).2.2.1 (f_RS_free F A p0).2.2.2 o kO (vp_updL f (0 : Int32).toNatClampNeg ((f_RS_free F A p0).2.1.toInt64))) H := hP
    have hD : va_D Ad (wL r k (f_RS_free F A p0).2.2.1 (f_RS_free F A p0).2.2.2 o kO (vp_updL f (0 : Int32).toNatClampNeg ((f_RS_free F A p0).2.1.toInt64))) := hD
    refine lv_goto (tgt := 18) hx hb d_Lw_free_9 (by decide) ?_
    refine lv_iconst (v := 0) hx hb d_Lw_free_18 (by decide) ?_
    exact W.widen (k := 1) (n := 6) (Nat.le_of_ble_eq_true rfl) (Nat.le_of_ble_eq_true rfl) (W.iret (v := 0) hx hb hr (fun t ht hW9 => ⟨⟨0, ((vp_updL f (0 : Int32).toNatClampNeg ((f_RS_free F A p0).2.1.toInt64)), (f_RS_free F A p0).2.2), rfl, by rw [hL, if_pos h0], by rw [ht]; exact hP, va_K.moved hW9.alike hK, hD⟩, hS.F ht⟩) hS.2.2 d_Lw_free_19)
def cm_Lw_meets (u : Nat) : Int32 := match u with | 1 => 1 | _ => 0
set_option maxHeartbeats 4000000 in
set_option maxRecDepth 100000 in
theorem c_Lw_meets (l : Launch) (hl9 : l.stackTraces = false) (dC : Nat → ClassId) (dI : Nat → Nat → Nat) (r : Nat → Nat) (k : Nat → ClassId) (F : Nat → Int32) (A : Nat → Nat → Int32) (o : Nat) (kO : ClassId) (f : Nat → Int64) (sz : Nat) (p0 p1 : Int32) (hI : CI F) : Met l y_Lw_meets w_Lw_meets ({ frames := 8, cells := 1, slots := 6, locals := 125 }) (va_Pc [.ref (r 0), .int p0, .int p1, .ref o] (XP (dC, dI) (wL r k F A o kO f) (tL k kO) sz)) (va_Qi (fun v (u : SL) => (v, u) = hB cm_Lw_meets f (f_RS_meets F A p0 p1)) (fun (u : SL) t => aW (dC, dI) (tL k kO) (va_A (wL r k F A o kO f) sz) (wL r k u.2.1 u.2.2 o kO u.1) t) (va_A (wL r k F A o kO f) sz)) 1 6 (va_A (wL r k F A o kO f) sz) := by
  refine va_MetW (cc := b_Lw_meets) (maxL := 5) (ret := (some .int)) (hh := [(0, 17, 20, 19)]) (by decide) rfl ?_
  intro p e s m args below meth c s₁ B hml hv0
  obtain ⟨rfl, ⟨hsz, hP, hK, hD0⟩, hXS⟩ := hv0
  have hx := B.exec
  have hb := B.bytes
  have hr := B.returns
  have hts := atoms_spec (ws := w_Lw_meets) B.pre
  have hW : ∀ w ∈ WALL, w.before ([.ref (r 0), .int p0, .int p1, .ref o] : List Value).toArray s = true := fun w h => hts w (List.mem_cons_of_mem _ h)
  have hown : s.vm.findClass R_law = some m.cls := findClass_of_methodNamed B.named
  have hlocks := B.notSynchronized
  have hTab : c.exceptionTable.toList = tableOf [(0, 17, 20, 19)] := vx_table (x := y_Lw_meets) B (hts _ List.mem_cons_self)
  subst hsz
  have hD := hD0.self (sz := s.heap.size)
  generalize hAe : va_A (wL r k F A o kO f) s.heap.size = Ad at hD hXS ⊢
  have hA : ∀ q : Nat, s.heap.size ≤ q → Ad q := fun q h => by rw [← hAe]; exact Or.inr h
  have hS : va_S Ad s.heap s.heap [] := va_S.rf
  have hl := lv_entry ([.ref (r 0), .int p0, .int p1, .ref o]) (n := 5) (Nat.le_of_ble_eq_true rfl)
  rw [lg_entry_eq]
  generalize (lg_sl ([.ref (r 0), .int p0, .int p1, .ref o]) ++ List.replicate (5 - (lg_sl ([.ref (r 0), .int p0, .int p1, .ref o])).length) Slot.unset).toArray = ls at hl ⊢
  have hl : lv_has ls 5 [(0, .ref (r 0)), (1, .int p0), (2, .int p1), (3, .ref o)] := hl
  have hR : va_P (dC, dI) classes [(o, .inl (kO, 1, .inr (.inl f)))] s.heap := pPre hP
  have hC : va_P (dC, dI) classes (wC r k F A) s.heap := pSuf hP
  have hKc : va_K (dC, dI) classes (tC k) s := hK.sub [1, 2, 3, 4, 5, 6, 7, 8, 9, 10, 11, 12, 13, 14] rfl
  refine lv_aload_n hx hb d_Lw_meets_0 rfl (lv_at hl 3 rfl) ?_
  refine lv_iconst (v := 0) hx hb d_Lw_meets_1 (by decide) ?_
  refine lv_aload_n hx hb d_Lw_meets_2 rfl (lv_at hl 0 rfl) ?_
  refine lv_iload_n hx hb d_Lw_meets_3 rfl (lv_at hl 1 rfl) ?_
  refine lv_iload_n hx hb d_Lw_meets_4 rfl (lv_at hl 2 rfl) ?_
  by_cases h0 : (f_RS_meets F A p0 p1).1 = 0
  rotate_left
  · refine xcV (wr := [(o, .inl (kO, 1, .inr (.inl f)))]) (wf := fun u : SC => wC r k u.1 u.2) (F0' := F) (A0' := A) ⟨hx, hb, hml, hown, hW⟩ (c_RS_meets_x l hl9 dC dI r k F A _ p0 p1 hI h0) (cwV 2 hW (gIn k_295 k_296 k_297 k_15 k_298) rfl rfl rfl (by decide +kernel) ⟨Nat.le_of_ble_eq_true rfl, Nat.le_of_ble_eq_true rfl⟩) hKc hR hC hD hS hA hXS (va_recv hKc hC (ci := 0) (q0 := 0) rfl rfl) rfl hl.1 rfl (Nat.le_of_ble_eq_true rfl) d_Lw_meets_5 ⟨Nat.le_of_ble_eq_true rfl, Nat.le_of_ble_eq_true rfl⟩ ?_
    intro u hval H locs q9 ce hR hC hD hS hce hcv hcl
    rw [hval] at h0
    rcases cd_RS_meets F A p0 p1 with h9 | h9
    · rw [hval] at h9; exact absurd h9 h0
    · rw [hval] at h9
      have h9 : u = 1 := h9
      subst h9
      refine vx_catch (own := R_law) (name := "java/util/NoSuchElementException") (E := "java/util/NoSuchElementException") hown [] ⟨0, 17, 20, 19⟩ [] (by rw [hTab]; rfl) (fun z hz => nomatch hz) (by decide) (by decide) (hW _ k_280) (va_Nw.use rfl (hXS.2.2.1 ("java/util/NoSuchElementException", "java/util/NoSuchElementException") (by decide))) hce hcv hcl ?_
      refine lv_astore (lv' := [(4, .ref q9), (0, .ref (r 0)), (1, .int p0), (2, .int p1), (3, .ref o)]) hx hb d_Lw_meets_20 hl (by decide) rfl (fun ls hl => ?_)
      refine lv_iconst (v := 1) hx hb d_Lw_meets_22 (by decide) ?_
      exact W.widen (k := 1) (n := 6) (Nat.le_of_ble_eq_true rfl) (Nat.le_of_ble_eq_true rfl) (W.iret (v := 1) hx hb hr (fun t ht hW9 => ⟨⟨1, (f, F, A), rfl, by rw [hval]; rfl, by rw [ht]; exact pApp hR hC, va_K.moved hW9.alike hK, hD⟩, hS.F ht⟩) hS.2.2 d_Lw_meets_23)
  · refine okV (wr := [(o, .inl (kO, 1, .inr (.inl f)))]) (wf := fun u : SC => wC r k u.1 u.2) ⟨hx, hb, hml, hown, hW⟩ (c_RS_meets_k l dC dI r k F A _ p0 p1 hI h0) (cwV 2 hW (gIn k_295 k_296 k_297 k_15 k_298) rfl rfl rfl (by decide +kernel) ⟨Nat.le_of_ble_eq_true rfl, Nat.le_of_ble_eq_true rfl⟩) hKc hR hC hD hS hA (va_recv hKc hC (ci := 0) (q0 := 0) rfl rfl) rfl hl.1 rfl (Nat.le_of_ble_eq_true rfl) d_Lw_meets_5 ⟨Nat.zero_le _, Nat.zero_le _⟩ (fun H locs hR hC hD hS => ?_)
    refine lv_if_eq (tgt := 15) hx hb d_Lw_meets_8 (by decide) (fun c9 => ?_) (fun c9 => ?_)
    · refine lv_lconst (v := 0) hx hb d_Lw_meets_15 rfl ?_
      refine va_last hx hb hK (pApp hR hC) hD hS 0 0 rfl rfl in01 d_Lw_meets_16 (fun H locs hP hD hS => ?_)
      have hP : va_P (dC, dI) classes (wL r k (f_RS_meets F A p0 p1).2.2.1 (f_RS_meets F A p0 p1).2.2.2 o kO (vp_updL f (0 : Int32).toNatClampNeg 0)) H := hP
      have hD : va_D Ad (wL r k (f_RS_meets F A p0 p1).2.2.1 (f_RS_meets F A p0 p1).2.2.2 o kO (vp_updL f (0 : Int32).toNatClampNeg 0)) := hD
      refine lv_goto (tgt := 24) hx hb d_Lw_meets_17 (by decide) ?_
      refine lv_iconst (v := 0) hx hb d_Lw_meets_24 (by decide) ?_
      exact W.widen (k := 1) (n := 6) (Nat.le_of_ble_eq_true rfl) (Nat.le_of_ble_eq_true rfl) (W.iret (v := 0) hx hb hr (fun t ht hW9 => ⟨⟨0, ((vp_updL f (0 : Int32).toNatClampNeg 0), (f_RS_meets F A p0 p1).2.2), rfl, by rw [hB, if_pos h0, if_pos c9], by rw [ht]; exact hP, va_K.moved hW9.alike hK, hD⟩, hS.F ht⟩) hS.2.2 d_Lw_meets_25)
    · refine lv_lconst (v := 1) hx hb d_Lw_meets_11 rfl ?_
      refine lv_goto (tgt := 16) hx hb d_Lw_meets_12 (by decide) ?_
      refine va_last hx hb hK (pApp hR hC) hD hS 0 0 rfl rfl in01 d_Lw_meets_16 (fun H locs hP hD hS => ?_)
      have hP : va_P (dC, dI) classes (wL r k (f_RS_meets F A p0 p1).2.2.1 (f_RS_meets F A p0 p1).2.2.2 o kO (vp_updL f (0 : Int32).toNatClampNeg 1)) H := hP
      have hD : va_D Ad (wL r k (f_RS_meets F A p0 p1).2.2.1 (f_RS_meets F A p0 p1).2.2.2 o kO (vp_updL f (0 : Int32).toNatClampNeg 1)) := hD
      refine lv_goto (tgt := 24) hx hb d_Lw_meets_17 (by decide) ?_
      refine lv_iconst (v := 0) hx hb d_Lw_meets_24 (by decide) ?_
      exact W.widen (k := 1) (n := 6) (Nat.le_of_ble_eq_true rfl) (Nat.le_of_ble_eq_true rfl) (W.iret (v := 0) hx hb hr (fun t ht hW9 => ⟨⟨0, ((vp_updL f (0 : Int32).toNatClampNeg 1), (f_RS_meets F A p0 p1).2.2), rfl, by rw [hB, if_pos h0, if_neg c9], by rw [ht]; exact hP, va_K.moved hW9.alike hK, hD⟩, hS.F ht⟩) hS.2.2 d_Lw_meets_25)
