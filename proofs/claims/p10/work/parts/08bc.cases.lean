set_option maxHeartbeats 4000000 in
set_option maxRecDepth 100000 in
theorem case_12 {p : Program} {l : Launch} {e : Env} {s : State} {m : MethodId} {below : List Frame} {meth : Method} {c : Code} {dC : Nat → ClassId} {dI : Nat → Nat → Nat} {b L : Nat} {xs : Nat → Int32} {r : Nat → Nat} {k : Nat → ClassId} {o : Nat} {kO : ClassId} {r2 : Nat → Nat} {k2 : Nat → ClassId} (hl9 : l.stackTraces = false) (C0 : lw_At p s m meth c b L xs) (hXS : XS (fun q => s.heap.size ≤ q) s s.heap) (hKL : va_K (dC, dI) classes (tL k kO) s) (hKM : va_K (dC, dI) classes (tM k2) s) {F : Nat → Int32} {A : Nat → Nat → Int32} {f : Nat → Int64} {G : Nat → Int32} {B : Nat → Nat → Int32} {H : Heap} {locs : List Loc} {ls : Array Slot} {i : Int32} {cells slots : Nat} {Q : State → Prop} (hcl : cells + 1 ≤ 1078) (hsl : slots + 6 ≤ 9466) (h1 : vp_in (i + 1) L) (h2 : vp_in (i + 2) L) (h3 : vp_in (i + 3) L) (h4 : vp_in (i + 4) L) (h5 : vp_in (i + 5) L) (rel : LR F A G B) (hPL : va_P (dC, dI) classes (wL r k F A o kO f) H) (hPM : va_P (dC, dI) classes (wM r2 k2 G B) H) (hD : va_D (fun q => s.heap.size ≤ q) (wM r2 k2 G B ++ wL r k F A o kO f)) (hS : va_S (fun q => s.heap.size ≤ q) s.heap H locs) (hl : lv_has ls 7 [(0, .ref b), (1, .ref (r 0)), (2, .ref (r2 0)), (3, .ref o), (4, .int i)])
    (next : ∀ (F : Nat → Int32) (A : Nat → Nat → Int32) (f : Nat → Int64) (G : Nat → Int32) (B : Nat → Nat → Int32) (H : Heap) (locs : List Loc) (ls : Array Slot), LR F A G B → va_P (dC, dI) classes (wL r k F A o kO f) H → va_P (dC, dI) classes (wM r2 k2 G B) H → va_D (fun q => s.heap.size ≤ q) (wM r2 k2 G B ++ wL r k F A o kO f) → va_S (fun q => s.heap.size ≤ q) s.heap H locs → lv_has ls 7 [(0, .ref b), (1, .ref (r 0)), (2, .ref (r2 0)), (3, .ref o), (4, .int i)] → W p l e room_1 s m #[Value.ref b] below meth c H locs (cells + 1) (slots + 6) Q (F0 m 889 ls [])) : W p l e room_1 s m #[Value.ref b] below meth c H locs cells slots Q (F0 m 688 ls []) := by
  obtain ⟨hx, hb, hr, hml, hown, hts, hX, hbl, hlocks, hgv⟩ := C0
  have hW : ∀ w ∈ WALL, w.before #[Value.ref b] s = true := fun w h => hts w (WALL_good w h).1
  have hA : ∀ q : Nat, s.heap.size ≤ q → (fun q : Nat => s.heap.size ≤ q) q := fun _ h => h
  have hbA : ¬ (fun q : Nat => s.heap.size ≤ q) b := Nat.not_le.mpr hbl
  have hI := rel.ci
  have hJ := rel.si
  have h_at := rel.at
  refine lv_aload_n hx hb d_law_688 rfl (lv_at hl 1 rfl) ?_
  refine lv_aload_n hx hb d_law_689 rfl (lv_at hl 0 rfl) ?_
  refine lv_iload hx hb d_law_690 (lv_at hl 4 rfl) ?_
  refine lv_iconst (v := 1) hx hb d_law_692 (by decide) ?_
  refine lv_iadd hx hb d_law_693 ?_
  refine va_sld hx hb hX hbl hbA hS h1 d_law_694 ?_
  refine lv_aload_n hx hb d_law_695 rfl (lv_at hl 3 rfl) ?_
  refine scS (rest := []) (hh := [(0, 16, 19, 19)]) (wr := wM r2 k2 G B) (wf := fun u : SL => wL r k u.2.1 u.2.2 o kO u.1) ⟨hx, hb, hml, hown, hW⟩ (c_Lw_report l hl9 dC dI r k F A o kO f _ (xs (i + 1).toNatClampNeg) hI) (vx_cwSW 3 hW (gInS k_432 k_433 k_345 k_434) rfl rfl rfl (by decide +kernel) ⟨Nat.le_of_ble_eq_true rfl, Nat.le_of_ble_eq_true rfl⟩) hKL hPM hPL hD hS hA hXS rfl hl.1 rfl (Nat.le_of_ble_eq_true rfl) d_law_696 ⟨hcl, hsl⟩ (fun H locs hPM hPL hD hS => ?_)
  refine lv_istore (lv' := [(5, .int ((hB cm_Lw_report f (f_RS_report F A (xs (i + 1).toNatClampNeg))).1)), (0, .ref b), (1, .ref (r 0)), (2, .ref (r2 0)), (3, .ref o), (4, .int i)]) hx hb d_law_699 hl (by decide) rfl (fun ls hl => ?_)
  refine lv_aload_n hx hb d_law_701 rfl (lv_at hl 3 rfl) ?_
  refine lv_aload_n hx hb d_law_702 rfl (lv_at hl 1 rfl) ?_
  refine lv_iload hx hb d_law_703 (lv_at hl 5 rfl) ?_
  refine lv_iconst (v := 1) hx hb d_law_705 (by decide) ?_
  refine lv_iadd hx hb d_law_706 ?_
  refine va_sld hx hb hX hbl hbA hS h1 d_law_707 ?_
  refine mcV (rest := []) (wr := wL r k ((hB cm_Lw_report f (f_RS_report F A (xs (i + 1).toNatClampNeg))).2.2.1) ((hB cm_Lw_report f (f_RS_report F A (xs (i + 1).toNatClampNeg))).2.2.2) o kO ((hB cm_Lw_report f (f_RS_report F A (xs (i + 1).toNatClampNeg))).2.1)) (wf := fun u : SC => wM r2 k2 u.1 u.2) ⟨hx, hb, hml, hown, hW⟩ (c_Mo_report l dC dI r2 k2 G B _ (xs (i + 1).toNatClampNeg) hJ) (cwV 1 hW (gIn k_435 k_436 k_437 k_193 k_438) rfl rfl rfl (by decide +kernel) ⟨Nat.le_of_ble_eq_true rfl, Nat.le_of_ble_eq_true rfl⟩) hKM hPL hPM (dSwap hD) hS hA (va_recv hKM hPM (ci := 3) (q0 := 0) rfl rfl) rfl hl.1 rfl (Nat.le_of_ble_eq_true rfl) d_law_708 ⟨hcl, hsl⟩ (fun H locs hPL hPM hD hS => ?_)
  have hD := dSwap hD
  refine lv_istore (lv' := [(6, .int ((f_Mo_report G B (xs (i + 1).toNatClampNeg)).1)), (5, .int ((hB cm_Lw_report f (f_RS_report F A (xs (i + 1).toNatClampNeg))).1)), (0, .ref b), (1, .ref (r 0)), (2, .ref (r2 0)), (3, .ref o), (4, .int i)]) hx hb d_law_711 hl (by decide) rfl (fun ls hl => ?_)
  refine lv_goto (tgt := 889) hx hb d_law_713 (by decide) ?_
  exact next _ _ _ _ _ _ _ ls (by rw [hB_st]; exact sim_report rel (xs (i + 1).toNatClampNeg)) hPL hPM hD hS (lv_sub hl [2, 3, 4, 5, 6] rfl)
set_option maxHeartbeats 4000000 in
set_option maxRecDepth 100000 in
theorem case_13 {p : Program} {l : Launch} {e : Env} {s : State} {m : MethodId} {below : List Frame} {meth : Method} {c : Code} {dC : Nat → ClassId} {dI : Nat → Nat → Nat} {b L : Nat} {xs : Nat → Int32} {r : Nat → Nat} {k : Nat → ClassId} {o : Nat} {kO : ClassId} {r2 : Nat → Nat} {k2 : Nat → ClassId} (hl9 : l.stackTraces = false) (C0 : lw_At p s m meth c b L xs) (hXS : XS (fun q => s.heap.size ≤ q) s s.heap) (hKL : va_K (dC, dI) classes (tL k kO) s) (hKM : va_K (dC, dI) classes (tM k2) s) {F : Nat → Int32} {A : Nat → Nat → Int32} {f : Nat → Int64} {G : Nat → Int32} {B : Nat → Nat → Int32} {H : Heap} {locs : List Loc} {ls : Array Slot} {i : Int32} {cells slots : Nat} {Q : State → Prop} (hcl : cells + 1 ≤ 1078) (hsl : slots + 6 ≤ 9466) (h1 : vp_in (i + 1) L) (h2 : vp_in (i + 2) L) (h3 : vp_in (i + 3) L) (h4 : vp_in (i + 4) L) (h5 : vp_in (i + 5) L) (rel : LR F A G B) (hPL : va_P (dC, dI) classes (wL r k F A o kO f) H) (hPM : va_P (dC, dI) classes (wM r2 k2 G B) H) (hD : va_D (fun q => s.heap.size ≤ q) (wM r2 k2 G B ++ wL r k F A o kO f)) (hS : va_S (fun q => s.heap.size ≤ q) s.heap H locs) (hl : lv_has ls 7 [(0, .ref b), (1, .ref (r 0)), (2, .ref (r2 0)), (3, .ref o), (4, .int i)])
    (next : ∀ (F : Nat → Int32) (A : Nat → Nat → Int32) (f : Nat → Int64) (G : Nat → Int32) (B : Nat → Nat → Int32) (H : Heap) (locs : List Loc) (ls : Array Slot), LR F A G B → va_P (dC, dI) classes (wL r k F A o kO f) H → va_P (dC, dI) classes (wM r2 k2 G B) H → va_D (fun q => s.heap.size ≤ q) (wM r2 k2 G B ++ wL r k F A o kO f) → va_S (fun q => s.heap.size ≤ q) s.heap H locs → lv_has ls 7 [(0, .ref b), (1, .ref (r 0)), (2, .ref (r2 0)), (3, .ref o), (4, .int i)] → W p l e room_1 s m #[Value.ref b] below meth c H locs (cells + 1) (slots + 6) Q (F0 m 889 ls [])) : W p l e room_1 s m #[Value.ref b] below meth c H locs cells slots Q (F0 m 716 ls []) := by
  obtain ⟨hx, hb, hr, hml, hown, hts, hX, hbl, hlocks, hgv⟩ := C0
  have hW : ∀ w ∈ WALL, w.before #[Value.ref b] s = true := fun w h => hts w (WALL_good w h).1
  have hA : ∀ q : Nat, s.heap.size ≤ q → (fun q : Nat => s.heap.size ≤ q) q := fun _ h => h
  have hbA : ¬ (fun q : Nat => s.heap.size ≤ q) b := Nat.not_le.mpr hbl
  have hI := rel.ci
  have hJ := rel.si
  have h_at := rel.at
  refine lv_aload_n hx hb d_law_716 rfl (lv_at hl 1 rfl) ?_
  refine lv_aload_n hx hb d_law_717 rfl (lv_at hl 0 rfl) ?_
  refine lv_iload hx hb d_law_718 (lv_at hl 4 rfl) ?_
  refine lv_iconst (v := 1) hx hb d_law_720 (by decide) ?_
  refine lv_iadd hx hb d_law_721 ?_
  refine va_sld hx hb hX hbl hbA hS h1 d_law_722 ?_
  refine lv_aload_n hx hb d_law_723 rfl (lv_at hl 3 rfl) ?_
  refine scS (rest := []) (hh := [(0, 9, 12, 21)]) (wr := wM r2 k2 G B) (wf := fun u : SL => wL r k u.2.1 u.2.2 o kO u.1) ⟨hx, hb, hml, hown, hW⟩ (c_Lw_pass l hl9 dC dI r k F A o kO f _ (xs (i + 1).toNatClampNeg) hI) (vx_cwSW 3 hW (gInS k_439 k_440 k_345 k_441) rfl rfl rfl (by decide +kernel) ⟨Nat.le_of_ble_eq_true rfl, Nat.le_of_ble_eq_true rfl⟩) hKL hPM hPL hD hS hA hXS rfl hl.1 rfl (Nat.le_of_ble_eq_true rfl) d_law_724 ⟨hcl, hsl⟩ (fun H locs hPM hPL hD hS => ?_)
  refine lv_istore (lv' := [(5, .int ((hL cm_Lw_pass f (f_RS_pass F A (xs (i + 1).toNatClampNeg))).1)), (0, .ref b), (1, .ref (r 0)), (2, .ref (r2 0)), (3, .ref o), (4, .int i)]) hx hb d_law_727 hl (by decide) rfl (fun ls hl => ?_)
  refine lv_aload_n hx hb d_law_729 rfl (lv_at hl 3 rfl) ?_
  refine lv_aload_n hx hb d_law_730 rfl (lv_at hl 1 rfl) ?_
  refine lv_iload hx hb d_law_731 (lv_at hl 5 rfl) ?_
  refine lv_iconst (v := 1) hx hb d_law_733 (by decide) ?_
  refine lv_iadd hx hb d_law_734 ?_
  refine va_sld hx hb hX hbl hbA hS h1 d_law_735 ?_
  refine mcV (rest := []) (wr := wL r k ((hL cm_Lw_pass f (f_RS_pass F A (xs (i + 1).toNatClampNeg))).2.2.1) ((hL cm_Lw_pass f (f_RS_pass F A (xs (i + 1).toNatClampNeg))).2.2.2) o kO ((hL cm_Lw_pass f (f_RS_pass F A (xs (i + 1).toNatClampNeg))).2.1)) (wf := fun u : SC => wM r2 k2 u.1 u.2) ⟨hx, hb, hml, hown, hW⟩ (c_Mo_pass l dC dI r2 k2 G B _ (xs (i + 1).toNatClampNeg) hJ) (cwV 1 hW (gIn k_442 k_443 k_444 k_193 k_445) rfl rfl rfl (by decide +kernel) ⟨Nat.le_of_ble_eq_true rfl, Nat.le_of_ble_eq_true rfl⟩) hKM hPL hPM (dSwap hD) hS hA (va_recv hKM hPM (ci := 3) (q0 := 0) rfl rfl) rfl hl.1 rfl (Nat.le_of_ble_eq_true rfl) d_law_736 ⟨hcl, hsl⟩ (fun H locs hPL hPM hD hS => ?_)
  have hD := dSwap hD
  refine lv_istore (lv' := [(6, .int ((f_Mo_pass G B (xs (i + 1).toNatClampNeg)).1)), (5, .int ((hL cm_Lw_pass f (f_RS_pass F A (xs (i + 1).toNatClampNeg))).1)), (0, .ref b), (1, .ref (r 0)), (2, .ref (r2 0)), (3, .ref o), (4, .int i)]) hx hb d_law_739 hl (by decide) rfl (fun ls hl => ?_)
  refine lv_goto (tgt := 889) hx hb d_law_741 (by decide) ?_
  exact next _ _ _ _ _ _ _ ls (by rw [hL_st]; exact sim_pass rel (xs (i + 1).toNatClampNeg)) hPL hPM hD hS (lv_sub hl [2, 3, 4, 5, 6] rfl)
set_option maxHeartbeats 4000000 in
set_option maxRecDepth 100000 in
theorem case_14 {p : Program} {l : Launch} {e : Env} {s : State} {m : MethodId} {below : List Frame} {meth : Method} {c : Code} {dC : Nat → ClassId} {dI : Nat → Nat → Nat} {b L : Nat} {xs : Nat → Int32} {r : Nat → Nat} {k : Nat → ClassId} {o : Nat} {kO : ClassId} {r2 : Nat → Nat} {k2 : Nat → ClassId} (hl9 : l.stackTraces = false) (C0 : lw_At p s m meth c b L xs) (hXS : XS (fun q => s.heap.size ≤ q) s s.heap) (hKL : va_K (dC, dI) classes (tL k kO) s) (hKM : va_K (dC, dI) classes (tM k2) s) {F : Nat → Int32} {A : Nat → Nat → Int32} {f : Nat → Int64} {G : Nat → Int32} {B : Nat → Nat → Int32} {H : Heap} {locs : List Loc} {ls : Array Slot} {i : Int32} {cells slots : Nat} {Q : State → Prop} (hcl : cells + 1 ≤ 1078) (hsl : slots + 6 ≤ 9466) (h1 : vp_in (i + 1) L) (h2 : vp_in (i + 2) L) (h3 : vp_in (i + 3) L) (h4 : vp_in (i + 4) L) (h5 : vp_in (i + 5) L) (rel : LR F A G B) (hPL : va_P (dC, dI) classes (wL r k F A o kO f) H) (hPM : va_P (dC, dI) classes (wM r2 k2 G B) H) (hD : va_D (fun q => s.heap.size ≤ q) (wM r2 k2 G B ++ wL r k F A o kO f)) (hS : va_S (fun q => s.heap.size ≤ q) s.heap H locs) (hl : lv_has ls 7 [(0, .ref b), (1, .ref (r 0)), (2, .ref (r2 0)), (3, .ref o), (4, .int i)])
    (next : ∀ (F : Nat → Int32) (A : Nat → Nat → Int32) (f : Nat → Int64) (G : Nat → Int32) (B : Nat → Nat → Int32) (H : Heap) (locs : List Loc) (ls : Array Slot), LR F A G B → va_P (dC, dI) classes (wL r k F A o kO f) H → va_P (dC, dI) classes (wM r2 k2 G B) H → va_D (fun q => s.heap.size ≤ q) (wM r2 k2 G B ++ wL r k F A o kO f) → va_S (fun q => s.heap.size ≤ q) s.heap H locs → lv_has ls 7 [(0, .ref b), (1, .ref (r 0)), (2, .ref (r2 0)), (3, .ref o), (4, .int i)] → W p l e room_1 s m #[Value.ref b] below meth c H locs (cells + 1) (slots + 6) Q (F0 m 889 ls [])) : W p l e room_1 s m #[Value.ref b] below meth c H locs cells slots Q (F0 m 744 ls []) := by
  obtain ⟨hx, hb, hr, hml, hown, hts, hX, hbl, hlocks, hgv⟩ := C0
  have hW : ∀ w ∈ WALL, w.before #[Value.ref b] s = true := fun w h => hts w (WALL_good w h).1
  have hA : ∀ q : Nat, s.heap.size ≤ q → (fun q : Nat => s.heap.size ≤ q) q := fun _ h => h
  have hbA : ¬ (fun q : Nat => s.heap.size ≤ q) b := Nat.not_le.mpr hbl
  have hI := rel.ci
  have hJ := rel.si
  have h_at := rel.at
  refine lv_aload_n hx hb d_law_744 rfl (lv_at hl 1 rfl) ?_
  refine lv_aload_n hx hb d_law_745 rfl (lv_at hl 0 rfl) ?_
  refine lv_iload hx hb d_law_746 (lv_at hl 4 rfl) ?_
  refine lv_iconst (v := 1) hx hb d_law_748 (by decide) ?_
  refine lv_iadd hx hb d_law_749 ?_
  refine va_sld hx hb hX hbl hbA hS h1 d_law_750 ?_
  refine lv_aload_n hx hb d_law_751 rfl (lv_at hl 0 rfl) ?_
  refine lv_iload hx hb d_law_752 (lv_at hl 4 rfl) ?_
  refine lv_iconst (v := 2) hx hb d_law_754 (by decide) ?_
  refine lv_iadd hx hb d_law_755 ?_
  refine va_sld hx hb hX hbl hbA hS h2 d_law_756 ?_
  refine lv_aload_n hx hb d_law_757 rfl (lv_at hl 3 rfl) ?_
  refine scS (rest := []) (hh := [(0, 10, 13, 19), (0, 10, 17, 21)]) (wr := wM r2 k2 G B) (wf := fun u : SL => wL r k u.2.1 u.2.2 o kO u.1) ⟨hx, hb, hml, hown, hW⟩ (c_Lw_holder l hl9 dC dI r k F A o kO f _ (xs (i + 1).toNatClampNeg) (xs (i + 2).toNatClampNeg) hI) (vx_cwSW 4 hW (gInS k_446 k_447 k_345 k_448) rfl rfl rfl (by decide +kernel) ⟨Nat.le_of_ble_eq_true rfl, Nat.le_of_ble_eq_true rfl⟩) hKL hPM hPL hD hS hA hXS rfl hl.1 rfl (Nat.le_of_ble_eq_true rfl) d_law_758 ⟨hcl, hsl⟩ (fun H locs hPM hPL hD hS => ?_)
  refine lv_istore (lv' := [(5, .int ((hL cm_Lw_holder f (f_RS_holder F A (xs (i + 1).toNatClampNeg) (xs (i + 2).toNatClampNeg))).1)), (0, .ref b), (1, .ref (r 0)), (2, .ref (r2 0)), (3, .ref o), (4, .int i)]) hx hb d_law_761 hl (by decide) rfl (fun ls hl => ?_)
  refine lv_aload_n hx hb d_law_763 rfl (lv_at hl 3 rfl) ?_
  refine lv_aload_n hx hb d_law_764 rfl (lv_at hl 1 rfl) ?_
  refine lv_iload hx hb d_law_765 (lv_at hl 5 rfl) ?_
  refine lv_iconst (v := 1) hx hb d_law_767 (by decide) ?_
  refine lv_iadd hx hb d_law_768 ?_
  refine va_sld hx hb hX hbl hbA hS h1 d_law_769 ?_
  refine lv_aload_n hx hb d_law_770 rfl (lv_at hl 1 rfl) ?_
  refine lv_iload hx hb d_law_771 (lv_at hl 5 rfl) ?_
  refine lv_iconst (v := 2) hx hb d_law_773 (by decide) ?_
  refine lv_iadd hx hb d_law_774 ?_
  refine va_sld hx hb hX hbl hbA hS h2 d_law_775 ?_
  refine mcV (rest := []) (wr := wL r k ((hL cm_Lw_holder f (f_RS_holder F A (xs (i + 1).toNatClampNeg) (xs (i + 2).toNatClampNeg))).2.2.1) ((hL cm_Lw_holder f (f_RS_holder F A (xs (i + 1).toNatClampNeg) (xs (i + 2).toNatClampNeg))).2.2.2) o kO ((hL cm_Lw_holder f (f_RS_holder F A (xs (i + 1).toNatClampNeg) (xs (i + 2).toNatClampNeg))).2.1)) (wf := fun u : SC => wM r2 k2 u.1 u.2) ⟨hx, hb, hml, hown, hW⟩ (c_Mo_holder l dC dI r2 k2 G B _ (xs (i + 1).toNatClampNeg) (xs (i + 2).toNatClampNeg) hJ) (cwV 2 hW (gIn k_449 k_450 k_451 k_193 k_452) rfl rfl rfl (by decide +kernel) ⟨Nat.le_of_ble_eq_true rfl, Nat.le_of_ble_eq_true rfl⟩) hKM hPL hPM (dSwap hD) hS hA (va_recv hKM hPM (ci := 3) (q0 := 0) rfl rfl) rfl hl.1 rfl (Nat.le_of_ble_eq_true rfl) d_law_776 ⟨hcl, hsl⟩ (fun H locs hPL hPM hD hS => ?_)
  have hD := dSwap hD
  refine lv_istore (lv' := [(6, .int ((f_Mo_holder G B (xs (i + 1).toNatClampNeg) (xs (i + 2).toNatClampNeg)).1)), (5, .int ((hL cm_Lw_holder f (f_RS_holder F A (xs (i + 1).toNatClampNeg) (xs (i + 2).toNatClampNeg))).1)), (0, .ref b), (1, .ref (r 0)), (2, .ref (r2 0)), (3, .ref o), (4, .int i)]) hx hb d_law_779 hl (by decide) rfl (fun ls hl => ?_)
  refine lv_goto (tgt := 889) hx hb d_law_781 (by decide) ?_
  exact next _ _ _ _ _ _ _ ls (by rw [hL_st]; exact sim_holder rel (xs (i + 1).toNatClampNeg) (xs (i + 2).toNatClampNeg)) hPL hPM hD hS (lv_sub hl [2, 3, 4, 5, 6] rfl)
set_option maxHeartbeats 4000000 in
set_option maxRecDepth 100000 in
theorem case_15 {p : Program} {l : Launch} {e : Env} {s : State} {m : MethodId} {below : List Frame} {meth : Method} {c : Code} {dC : Nat → ClassId} {dI : Nat → Nat → Nat} {b L : Nat} {xs : Nat → Int32} {r : Nat → Nat} {k : Nat → ClassId} {o : Nat} {kO : ClassId} {r2 : Nat → Nat} {k2 : Nat → ClassId} (hl9 : l.stackTraces = false) (C0 : lw_At p s m meth c b L xs) (hXS : XS (fun q => s.heap.size ≤ q) s s.heap) (hKL : va_K (dC, dI) classes (tL k kO) s) (hKM : va_K (dC, dI) classes (tM k2) s) {F : Nat → Int32} {A : Nat → Nat → Int32} {f : Nat → Int64} {G : Nat → Int32} {B : Nat → Nat → Int32} {H : Heap} {locs : List Loc} {ls : Array Slot} {i : Int32} {cells slots : Nat} {Q : State → Prop} (hcl : cells + 1 ≤ 1078) (hsl : slots + 6 ≤ 9466) (h1 : vp_in (i + 1) L) (h2 : vp_in (i + 2) L) (h3 : vp_in (i + 3) L) (h4 : vp_in (i + 4) L) (h5 : vp_in (i + 5) L) (rel : LR F A G B) (hPL : va_P (dC, dI) classes (wL r k F A o kO f) H) (hPM : va_P (dC, dI) classes (wM r2 k2 G B) H) (hD : va_D (fun q => s.heap.size ≤ q) (wM r2 k2 G B ++ wL r k F A o kO f)) (hS : va_S (fun q => s.heap.size ≤ q) s.heap H locs) (hl : lv_has ls 7 [(0, .ref b), (1, .ref (r 0)), (2, .ref (r2 0)), (3, .ref o), (4, .int i)])
    (next : ∀ (F : Nat → Int32) (A : Nat → Nat → Int32) (f : Nat → Int64) (G : Nat → Int32) (B : Nat → Nat → Int32) (H : Heap) (locs : List Loc) (ls : Array Slot), LR F A G B → va_P (dC, dI) classes (wL r k F A o kO f) H → va_P (dC, dI) classes (wM r2 k2 G B) H → va_D (fun q => s.heap.size ≤ q) (wM r2 k2 G B ++ wL r k F A o kO f) → va_S (fun q => s.heap.size ≤ q) s.heap H locs → lv_has ls 7 [(0, .ref b), (1, .ref (r 0)), (2, .ref (r2 0)), (3, .ref o), (4, .int i)] → W p l e room_1 s m #[Value.ref b] below meth c H locs (cells + 1) (slots + 6) Q (F0 m 889 ls [])) : W p l e room_1 s m #[Value.ref b] below meth c H locs cells slots Q (F0 m 784 ls []) := by
  obtain ⟨hx, hb, hr, hml, hown, hts, hX, hbl, hlocks, hgv⟩ := C0
  have hW : ∀ w ∈ WALL, w.before #[Value.ref b] s = true := fun w h => hts w (WALL_good w h).1
  have hA : ∀ q : Nat, s.heap.size ≤ q → (fun q : Nat => s.heap.size ≤ q) q := fun _ h => h
  have hbA : ¬ (fun q : Nat => s.heap.size ≤ q) b := Nat.not_le.mpr hbl
  have hI := rel.ci
  have hJ := rel.si
  have h_at := rel.at
  refine lv_aload_n hx hb d_law_784 rfl (lv_at hl 1 rfl) ?_
  refine lv_aload_n hx hb d_law_785 rfl (lv_at hl 0 rfl) ?_
  refine lv_iload hx hb d_law_786 (lv_at hl 4 rfl) ?_
  refine lv_iconst (v := 1) hx hb d_law_788 (by decide) ?_
  refine lv_iadd hx hb d_law_789 ?_
  refine va_sld hx hb hX hbl hbA hS h1 d_law_790 ?_
  refine lv_aload_n hx hb d_law_791 rfl (lv_at hl 0 rfl) ?_
  refine lv_iload hx hb d_law_792 (lv_at hl 4 rfl) ?_
  refine lv_iconst (v := 2) hx hb d_law_794 (by decide) ?_
  refine lv_iadd hx hb d_law_795 ?_
  refine va_sld hx hb hX hbl hbA hS h2 d_law_796 ?_
  refine lv_aload_n hx hb d_law_797 rfl (lv_at hl 3 rfl) ?_
  refine scS (rest := []) (hh := [(0, 10, 13, 19), (0, 10, 17, 21)]) (wr := wM r2 k2 G B) (wf := fun u : SL => wL r k u.2.1 u.2.2 o kO u.1) ⟨hx, hb, hml, hown, hW⟩ (c_Lw_told l hl9 dC dI r k F A o kO f _ (xs (i + 1).toNatClampNeg) (xs (i + 2).toNatClampNeg) hI) (vx_cwSW 4 hW (gInS k_453 k_454 k_345 k_455) rfl rfl rfl (by decide +kernel) ⟨Nat.le_of_ble_eq_true rfl, Nat.le_of_ble_eq_true rfl⟩) hKL hPM hPL hD hS hA hXS rfl hl.1 rfl (Nat.le_of_ble_eq_true rfl) d_law_798 ⟨hcl, hsl⟩ (fun H locs hPM hPL hD hS => ?_)
  refine lv_istore (lv' := [(5, .int ((hL cm_Lw_told f (f_RS_told F A (xs (i + 1).toNatClampNeg) (xs (i + 2).toNatClampNeg))).1)), (0, .ref b), (1, .ref (r 0)), (2, .ref (r2 0)), (3, .ref o), (4, .int i)]) hx hb d_law_801 hl (by decide) rfl (fun ls hl => ?_)
  refine lv_aload_n hx hb d_law_803 rfl (lv_at hl 3 rfl) ?_
  refine lv_aload_n hx hb d_law_804 rfl (lv_at hl 1 rfl) ?_
  refine lv_iload hx hb d_law_805 (lv_at hl 5 rfl) ?_
  refine lv_iconst (v := 1) hx hb d_law_807 (by decide) ?_
  refine lv_iadd hx hb d_law_808 ?_
  refine va_sld hx hb hX hbl hbA hS h1 d_law_809 ?_
  refine lv_aload_n hx hb d_law_810 rfl (lv_at hl 1 rfl) ?_
  refine lv_iload hx hb d_law_811 (lv_at hl 5 rfl) ?_
  refine lv_iconst (v := 2) hx hb d_law_813 (by decide) ?_
  refine lv_iadd hx hb d_law_814 ?_
  refine va_sld hx hb hX hbl hbA hS h2 d_law_815 ?_
  refine mcV (rest := []) (wr := wL r k ((hL cm_Lw_told f (f_RS_told F A (xs (i + 1).toNatClampNeg) (xs (i + 2).toNatClampNeg))).2.2.1) ((hL cm_Lw_told f (f_RS_told F A (xs (i + 1).toNatClampNeg) (xs (i + 2).toNatClampNeg))).2.2.2) o kO ((hL cm_Lw_told f (f_RS_told F A (xs (i + 1).toNatClampNeg) (xs (i + 2).toNatClampNeg))).2.1)) (wf := fun u : SC => wM r2 k2 u.1 u.2) ⟨hx, hb, hml, hown, hW⟩ (c_Mo_told l dC dI r2 k2 G B _ (xs (i + 1).toNatClampNeg) (xs (i + 2).toNatClampNeg) hJ) (cwV 2 hW (gIn k_456 k_457 k_458 k_193 k_459) rfl rfl rfl (by decide +kernel) ⟨Nat.le_of_ble_eq_true rfl, Nat.le_of_ble_eq_true rfl⟩) hKM hPL hPM (dSwap hD) hS hA (va_recv hKM hPM (ci := 3) (q0 := 0) rfl rfl) rfl hl.1 rfl (Nat.le_of_ble_eq_true rfl) d_law_816 ⟨hcl, hsl⟩ (fun H locs hPL hPM hD hS => ?_)
  have hD := dSwap hD
  refine lv_istore (lv' := [(6, .int ((f_Mo_told G B (xs (i + 1).toNatClampNeg) (xs (i + 2).toNatClampNeg)).1)), (5, .int ((hL cm_Lw_told f (f_RS_told F A (xs (i + 1).toNatClampNeg) (xs (i + 2).toNatClampNeg))).1)), (0, .ref b), (1, .ref (r 0)), (2, .ref (r2 0)), (3, .ref o), (4, .int i)]) hx hb d_law_819 hl (by decide) rfl (fun ls hl => ?_)
  refine lv_goto (tgt := 889) hx hb d_law_821 (by decide) ?_
  exact next _ _ _ _ _ _ _ ls (by rw [hL_st]; exact sim_told rel (xs (i + 1).toNatClampNeg) (xs (i + 2).toNatClampNeg)) hPL hPM hD hS (lv_sub hl [2, 3, 4, 5, 6] rfl)
set_option maxHeartbeats 4000000 in
set_option maxRecDepth 100000 in
theorem case_16 {p : Program} {l : Launch} {e : Env} {s : State} {m : MethodId} {below : List Frame} {meth : Method} {c : Code} {dC : Nat → ClassId} {dI : Nat → Nat → Nat} {b L : Nat} {xs : Nat → Int32} {r : Nat → Nat} {k : Nat → ClassId} {o : Nat} {kO : ClassId} {r2 : Nat → Nat} {k2 : Nat → ClassId} (hl9 : l.stackTraces = false) (C0 : lw_At p s m meth c b L xs) (hXS : XS (fun q => s.heap.size ≤ q) s s.heap) (hKL : va_K (dC, dI) classes (tL k kO) s) (hKM : va_K (dC, dI) classes (tM k2) s) {F : Nat → Int32} {A : Nat → Nat → Int32} {f : Nat → Int64} {G : Nat → Int32} {B : Nat → Nat → Int32} {H : Heap} {locs : List Loc} {ls : Array Slot} {i : Int32} {cells slots : Nat} {Q : State → Prop} (hcl : cells + 1 ≤ 1078) (hsl : slots + 6 ≤ 9466) (h1 : vp_in (i + 1) L) (h2 : vp_in (i + 2) L) (h3 : vp_in (i + 3) L) (h4 : vp_in (i + 4) L) (h5 : vp_in (i + 5) L) (rel : LR F A G B) (hPL : va_P (dC, dI) classes (wL r k F A o kO f) H) (hPM : va_P (dC, dI) classes (wM r2 k2 G B) H) (hD : va_D (fun q => s.heap.size ≤ q) (wM r2 k2 G B ++ wL r k F A o kO f)) (hS : va_S (fun q => s.heap.size ≤ q) s.heap H locs) (hl : lv_has ls 7 [(0, .ref b), (1, .ref (r 0)), (2, .ref (r2 0)), (3, .ref o), (4, .int i)])
    (next : ∀ (F : Nat → Int32) (A : Nat → Nat → Int32) (f : Nat → Int64) (G : Nat → Int32) (B : Nat → Nat → Int32) (H : Heap) (locs : List Loc) (ls : Array Slot), LR F A G B → va_P (dC, dI) classes (wL r k F A o kO f) H → va_P (dC, dI) classes (wM r2 k2 G B) H → va_D (fun q => s.heap.size ≤ q) (wM r2 k2 G B ++ wL r k F A o kO f) → va_S (fun q => s.heap.size ≤ q) s.heap H locs → lv_has ls 7 [(0, .ref b), (1, .ref (r 0)), (2, .ref (r2 0)), (3, .ref o), (4, .int i)] → W p l e room_1 s m #[Value.ref b] below meth c H locs (cells + 1) (slots + 6) Q (F0 m 889 ls [])) : W p l e room_1 s m #[Value.ref b] below meth c H locs cells slots Q (F0 m 824 ls []) := by
  obtain ⟨hx, hb, hr, hml, hown, hts, hX, hbl, hlocks, hgv⟩ := C0
  have hW : ∀ w ∈ WALL, w.before #[Value.ref b] s = true := fun w h => hts w (WALL_good w h).1
  have hA : ∀ q : Nat, s.heap.size ≤ q → (fun q : Nat => s.heap.size ≤ q) q := fun _ h => h
  have hbA : ¬ (fun q : Nat => s.heap.size ≤ q) b := Nat.not_le.mpr hbl
  have hI := rel.ci
  have hJ := rel.si
  have h_at := rel.at
  refine lv_aload_n hx hb d_law_824 rfl (lv_at hl 1 rfl) ?_
  refine lv_aload_n hx hb d_law_825 rfl (lv_at hl 0 rfl) ?_
  refine lv_iload hx hb d_law_826 (lv_at hl 4 rfl) ?_
  refine lv_iconst (v := 1) hx hb d_law_828 (by decide) ?_
  refine lv_iadd hx hb d_law_829 ?_
  refine va_sld hx hb hX hbl hbA hS h1 d_law_830 ?_
  refine lv_aload_n hx hb d_law_831 rfl (lv_at hl 0 rfl) ?_
  refine lv_iload hx hb d_law_832 (lv_at hl 4 rfl) ?_
  refine lv_iconst (v := 2) hx hb d_law_834 (by decide) ?_
  refine lv_iadd hx hb d_law_835 ?_
  refine va_sld hx hb hX hbl hbA hS h2 d_law_836 ?_
  refine lv_aload_n hx hb d_law_837 rfl (lv_at hl 3 rfl) ?_
  refine scS (rest := []) (hh := [(0, 10, 13, 19), (0, 10, 17, 21)]) (wr := wM r2 k2 G B) (wf := fun u : SL => wL r k u.2.1 u.2.2 o kO u.1) ⟨hx, hb, hml, hown, hW⟩ (c_Lw_grant l hl9 dC dI r k F A o kO f _ (xs (i + 1).toNatClampNeg) (xs (i + 2).toNatClampNeg) hI) (vx_cwSW 4 hW (gInS k_460 k_461 k_345 k_462) rfl rfl rfl (by decide +kernel) ⟨Nat.le_of_ble_eq_true rfl, Nat.le_of_ble_eq_true rfl⟩) hKL hPM hPL hD hS hA hXS rfl hl.1 rfl (Nat.le_of_ble_eq_true rfl) d_law_838 ⟨hcl, hsl⟩ (fun H locs hPM hPL hD hS => ?_)
  refine lv_istore (lv' := [(5, .int ((hL cm_Lw_grant f (f_RS_grant F A (xs (i + 1).toNatClampNeg) (xs (i + 2).toNatClampNeg))).1)), (0, .ref b), (1, .ref (r 0)), (2, .ref (r2 0)), (3, .ref o), (4, .int i)]) hx hb d_law_841 hl (by decide) rfl (fun ls hl => ?_)
  refine lv_aload_n hx hb d_law_843 rfl (lv_at hl 3 rfl) ?_
  refine lv_aload_n hx hb d_law_844 rfl (lv_at hl 1 rfl) ?_
  refine lv_iload hx hb d_law_845 (lv_at hl 5 rfl) ?_
  refine lv_iconst (v := 1) hx hb d_law_847 (by decide) ?_
  refine lv_iadd hx hb d_law_848 ?_
  refine va_sld hx hb hX hbl hbA hS h1 d_law_849 ?_
  refine lv_aload_n hx hb d_law_850 rfl (lv_at hl 1 rfl) ?_
  refine lv_iload hx hb d_law_851 (lv_at hl 5 rfl) ?_
  refine lv_iconst (v := 2) hx hb d_law_853 (by decide) ?_
  refine lv_iadd hx hb d_law_854 ?_
  refine va_sld hx hb hX hbl hbA hS h2 d_law_855 ?_
  refine mcV (rest := []) (wr := wL r k ((hL cm_Lw_grant f (f_RS_grant F A (xs (i + 1).toNatClampNeg) (xs (i + 2).toNatClampNeg))).2.2.1) ((hL cm_Lw_grant f (f_RS_grant F A (xs (i + 1).toNatClampNeg) (xs (i + 2).toNatClampNeg))).2.2.2) o kO ((hL cm_Lw_grant f (f_RS_grant F A (xs (i + 1).toNatClampNeg) (xs (i + 2).toNatClampNeg))).2.1)) (wf := fun u : SC => wM r2 k2 u.1 u.2) ⟨hx, hb, hml, hown, hW⟩ (c_Mo_grant l dC dI r2 k2 G B _ (xs (i + 1).toNatClampNeg) (xs (i + 2).toNatClampNeg) hJ) (cwV 2 hW (gIn k_463 k_464 k_465 k_193 k_466) rfl rfl rfl (by decide +kernel) ⟨Nat.le_of_ble_eq_true rfl, Nat.le_of_ble_eq_true rfl⟩) hKM hPL hPM (dSwap hD) hS hA (va_recv hKM hPM (ci := 3) (q0 := 0) rfl rfl) rfl hl.1 rfl (Nat.le_of_ble_eq_true rfl) d_law_856 ⟨hcl, hsl⟩ (fun H locs hPL hPM hD hS => ?_)
  have hD := dSwap hD
  refine lv_istore (lv' := [(6, .int ((f_Mo_grant G B (xs (i + 1).toNatClampNeg) (xs (i + 2).toNatClampNeg)).1)), (5, .int ((hL cm_Lw_grant f (f_RS_grant F A (xs (i + 1).toNatClampNeg) (xs (i + 2).toNatClampNeg))).1)), (0, .ref b), (1, .ref (r 0)), (2, .ref (r2 0)), (3, .ref o), (4, .int i)]) hx hb d_law_859 hl (by decide) rfl (fun ls hl => ?_)
  refine lv_goto (tgt := 889) hx hb d_law_861 (by decide) ?_
  exact next _ _ _ _ _ _ _ ls (by rw [hL_st]; exact sim_grant rel (xs (i + 1).toNatClampNeg) (xs (i + 2).toNatClampNeg)) hPL hPM hD hS (lv_sub hl [2, 3, 4, 5, 6] rfl)
set_option maxHeartbeats 4000000 in
set_option maxRecDepth 100000 in
theorem case_17 {p : Program} {l : Launch} {e : Env} {s : State} {m : MethodId} {below : List Frame} {meth : Method} {c : Code} {dC : Nat → ClassId} {dI : Nat → Nat → Nat} {b L : Nat} {xs : Nat → Int32} {r : Nat → Nat} {k : Nat → ClassId} {o : Nat} {kO : ClassId} {r2 : Nat → Nat} {k2 : Nat → ClassId} (hl9 : l.stackTraces = false) (C0 : lw_At p s m meth c b L xs) (hXS : XS (fun q => s.heap.size ≤ q) s s.heap) (hKL : va_K (dC, dI) classes (tL k kO) s) (hKM : va_K (dC, dI) classes (tM k2) s) {F : Nat → Int32} {A : Nat → Nat → Int32} {f : Nat → Int64} {G : Nat → Int32} {B : Nat → Nat → Int32} {H : Heap} {locs : List Loc} {ls : Array Slot} {i : Int32} {cells slots : Nat} {Q : State → Prop} (hcl : cells + 1 ≤ 1078) (hsl : slots + 6 ≤ 9466) (h1 : vp_in (i + 1) L) (h2 : vp_in (i + 2) L) (h3 : vp_in (i + 3) L) (h4 : vp_in (i + 4) L) (h5 : vp_in (i + 5) L) (rel : LR F A G B) (hPL : va_P (dC, dI) classes (wL r k F A o kO f) H) (hPM : va_P (dC, dI) classes (wM r2 k2 G B) H) (hD : va_D (fun q => s.heap.size ≤ q) (wM r2 k2 G B ++ wL r k F A o kO f)) (hS : va_S (fun q => s.heap.size ≤ q) s.heap H locs) (hl : lv_has ls 7 [(0, .ref b), (1, .ref (r 0)), (2, .ref (r2 0)), (3, .ref o), (4, .int i)])
    (next : ∀ (F : Nat → Int32) (A : Nat → Nat → Int32) (f : Nat → Int64) (G : Nat → Int32) (B : Nat → Nat → Int32) (H : Heap) (locs : List Loc) (ls : Array Slot), LR F A G B → va_P (dC, dI) classes (wL r k F A o kO f) H → va_P (dC, dI) classes (wM r2 k2 G B) H → va_D (fun q => s.heap.size ≤ q) (wM r2 k2 G B ++ wL r k F A o kO f) → va_S (fun q => s.heap.size ≤ q) s.heap H locs → lv_has ls 7 [(0, .ref b), (1, .ref (r 0)), (2, .ref (r2 0)), (3, .ref o), (4, .int i)] → W p l e room_1 s m #[Value.ref b] below meth c H locs (cells + 1) (slots + 6) Q (F0 m 889 ls [])) : W p l e room_1 s m #[Value.ref b] below meth c H locs cells slots Q (F0 m 864 ls []) := by
  obtain ⟨hx, hb, hr, hml, hown, hts, hX, hbl, hlocks, hgv⟩ := C0
  have hW : ∀ w ∈ WALL, w.before #[Value.ref b] s = true := fun w h => hts w (WALL_good w h).1
  have hA : ∀ q : Nat, s.heap.size ≤ q → (fun q : Nat => s.heap.size ≤ q) q := fun _ h => h
  have hbA : ¬ (fun q : Nat => s.heap.size ≤ q) b := Nat.not_le.mpr hbl
  have hI := rel.ci
  have hJ := rel.si
  have h_at := rel.at
  refine lv_aload_n hx hb d_law_864 rfl (lv_at hl 1 rfl) ?_
  refine lv_aload_n hx hb d_law_865 rfl (lv_at hl 0 rfl) ?_
  refine lv_iload hx hb d_law_866 (lv_at hl 4 rfl) ?_
  refine lv_iconst (v := 1) hx hb d_law_868 (by decide) ?_
  refine lv_iadd hx hb d_law_869 ?_
  refine va_sld hx hb hX hbl hbA hS h1 d_law_870 ?_
  have hKc : va_K (dC, dI) classes (tC k) s := hKL.sub [1, 2, 3, 4, 5, 6, 7, 8, 9, 10, 11, 12, 13, 14] rfl
  have hPc : va_P (dC, dI) classes (wC r k F A) H := pSuf hPL
  refine rdV (rest := []) ⟨hx, hb, hml, hown, hW⟩ (c_RS_count l dC dI r k F A (xs (i + 1).toNatClampNeg) hI) (cwV 1 hW (gIn k_467 k_468 k_469 k_15 k_470) rfl rfl rfl (by decide +kernel) ⟨Nat.le_of_ble_eq_true rfl, Nat.le_of_ble_eq_true rfl⟩) hKc hPc (va_recv hKc hPc (ci := 0) (q0 := 0) rfl rfl) rfl hl.1 rfl (Nat.le_of_ble_eq_true rfl) d_law_871 ⟨Nat.le_trans (Nat.le_add_right _ _) hcl, Nat.le_trans (Nat.le_add_right _ _) hsl⟩ ?_
  refine lv_pop hx hb d_law_874 rfl ?_
  refine lv_aload_n hx hb d_law_875 rfl (lv_at hl 2 rfl) ?_
  refine lv_aload_n hx hb d_law_876 rfl (lv_at hl 0 rfl) ?_
  refine lv_iload hx hb d_law_877 (lv_at hl 4 rfl) ?_
  refine lv_iconst (v := 1) hx hb d_law_879 (by decide) ?_
  refine lv_iadd hx hb d_law_880 ?_
  refine va_sld hx hb hX hbl hbA hS h1 d_law_881 ?_
  refine mcV (rest := []) (wr := wL r k F A o kO f) (wf := fun u : SC => wM r2 k2 u.1 u.2) ⟨hx, hb, hml, hown, hW⟩ (c_Mo_count l dC dI r2 k2 G B _ (xs (i + 1).toNatClampNeg) hJ) (cwV 1 hW (gIn k_471 k_472 k_473 k_193 k_474) rfl rfl rfl (by decide +kernel) ⟨Nat.le_of_ble_eq_true rfl, Nat.le_of_ble_eq_true rfl⟩) hKM hPL hPM (dSwap hD) hS hA (va_recv hKM hPM (ci := 3) (q0 := 0) rfl rfl) rfl hl.1 rfl (Nat.le_of_ble_eq_true rfl) d_law_882 ⟨Nat.le_trans (Nat.le_add_right _ _) hcl, Nat.le_trans (Nat.le_add_right _ _) hsl⟩ (fun H locs hPL hPM hD hS => ?_)
  have hD := dSwap hD
  refine lv_pop hx hb d_law_885 rfl ?_
  refine lv_goto (tgt := 889) hx hb d_law_886 (by decide) ?_
  refine W.widen (k := cells + 1) (n := slots + 6) (Nat.le_add_right _ _) (Nat.le_add_right _ _) ?_
  exact next _ _ _ _ _ _ _ ls (sim_count rel (xs (i + 1).toNatClampNeg)) hPL hPM hD hS (lv_sub hl [0, 1, 2, 3, 4] rfl)
