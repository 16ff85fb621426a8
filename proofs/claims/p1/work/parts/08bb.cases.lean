set_option maxHeartbeats 4000000 in
set_option maxRecDepth 100000 in
theorem case_6 {p : Program} {l : Launch} {e : Env} {s : State} {m : MethodId} {below : List Frame} {meth : Method} {c : Code} {dC : Nat → ClassId} {dI : Nat → Nat → Nat} {b L : Nat} {xs : Nat → Int32} {r : Nat → Nat} {k : Nat → ClassId} {o : Nat} {kO : ClassId} {r2 : Nat → Nat} {k2 : Nat → ClassId} (hl9 : l.stackTraces = false) (C0 : lw_At p s m meth c b L xs) (hXS : XS (fun q => s.heap.size ≤ q) s s.heap) (hKL : va_K (dC, dI) classes (tL k kO) s) (hKM : va_K (dC, dI) classes (tM k2) s) {F : Nat → Int32} {A : Nat → Nat → Int32} {f : Nat → Int64} {G : Nat → Int32} {B : Nat → Nat → Int32} {H : Heap} {locs : List Loc} {ls : Array Slot} {i : Int32} {cells slots : Nat} {Q : State → Prop} (hcl : cells + 1 ≤ 56) (hsl : slots + 6 ≤ 1290) (h1 : vp_in (i + 1) L) (h2 : vp_in (i + 2) L) (h3 : vp_in (i + 3) L) (h4 : vp_in (i + 4) L) (h5 : vp_in (i + 5) L) (rel : LR F A G B) (hPL : va_P (dC, dI) classes (wL r k F A o kO f) H) (hPM : va_P (dC, dI) classes (wM r2 k2 G B) H) (hD : va_D (fun q => s.heap.size ≤ q) (wM r2 k2 G B ++ wL r k F A o kO f)) (hS : va_S (fun q => s.heap.size ≤ q) s.heap H locs) (hl : lv_has ls 7 [(0, .ref b), (1, .ref (r 0)), (2, .ref (r2 0)), (3, .ref o), (4, .int i)])
    (next : ∀ (F : Nat → Int32) (A : Nat → Nat → Int32) (f : Nat → Int64) (G : Nat → Int32) (B : Nat → Nat → Int32) (H : Heap) (locs : List Loc) (ls : Array Slot), LR F A G B → va_P (dC, dI) classes (wL r k F A o kO f) H → va_P (dC, dI) classes (wM r2 k2 G B) H → va_D (fun q => s.heap.size ≤ q) (wM r2 k2 G B ++ wL r k F A o kO f) → va_S (fun q => s.heap.size ≤ q) s.heap H locs → lv_has ls 7 [(0, .ref b), (1, .ref (r 0)), (2, .ref (r2 0)), (3, .ref o), (4, .int i)] → W p l e room_1 s m #[Value.ref b] below meth c H locs (cells + 1) (slots + 6) Q (F0 m 1351 ls [])) : W p l e room_1 s m #[Value.ref b] below meth c H locs cells slots Q (F0 m 587 ls []) := by
  obtain ⟨hx, hb, hr, hml, hown, hts, hX, hbl, hlocks, hgv⟩ := C0
  have hW : ∀ w ∈ WALL, w.before #[Value.ref b] s = true := fun w h => hts w (WALL_good w h).1
  have hA : ∀ q : Nat, s.heap.size ≤ q → (fun q : Nat => s.heap.size ≤ q) q := fun _ h => h
  have hbA : ¬ (fun q : Nat => s.heap.size ≤ q) b := Nat.not_le.mpr hbl
  have hI := rel.ci
  have hJ := rel.si
  have h_at := rel.at
  refine lv_aload_n hx hb d_law_587 rfl (lv_at hl 1 rfl) ?_
  refine lv_aload_n hx hb d_law_588 rfl (lv_at hl 0 rfl) ?_
  refine lv_iload hx hb d_law_589 (lv_at hl 4 rfl) ?_
  refine lv_iconst (v := 1) hx hb d_law_591 (by decide) ?_
  refine lv_iadd hx hb d_law_592 ?_
  refine va_sld hx hb hX hbl hbA hS h1 d_law_593 ?_
  refine lv_aload_n hx hb d_law_594 rfl (lv_at hl 0 rfl) ?_
  refine lv_iload hx hb d_law_595 (lv_at hl 4 rfl) ?_
  refine lv_iconst (v := 2) hx hb d_law_597 (by decide) ?_
  refine lv_iadd hx hb d_law_598 ?_
  refine va_sld hx hb hX hbl hbA hS h2 d_law_599 ?_
  refine lv_aload_n hx hb d_law_600 rfl (lv_at hl 3 rfl) ?_
  refine scS (rest := []) (hh := [(0, 10, 13, 19), (0, 10, 17, 21), (0, 10, 21, 27)]) (wr := wM r2 k2 G B) (wf := fun u : SL => wL r k u.2.1 u.2.2 o kO u.1) ⟨hx, hb, hml, hown, hW⟩ (c_Lw_step l hl9 dC dI r k F A o kO f _ (xs (i + 1).toNatClampNeg) (xs (i + 2).toNatClampNeg) hI) (vx_cwSW 4 hW (gInS k_390 k_391 k_345 k_392) rfl rfl rfl (by decide +kernel) ⟨Nat.le_of_ble_eq_true rfl, Nat.le_of_ble_eq_true rfl⟩) hKL hPM hPL hD hS hA hXS rfl hl.1 rfl (Nat.le_of_ble_eq_true rfl) d_law_601 ⟨hcl, hsl⟩ (fun H locs hPM hPL hD hS => ?_)
  refine lv_istore (lv' := [(5, .int ((hL cm_Lw_step f (f_RS_step F A (xs (i + 1).toNatClampNeg) (xs (i + 2).toNatClampNeg))).1)), (0, .ref b), (1, .ref (r 0)), (2, .ref (r2 0)), (3, .ref o), (4, .int i)]) hx hb d_law_604 hl (by decide) rfl (fun ls hl => ?_)
  refine lv_aload_n hx hb d_law_606 rfl (lv_at hl 3 rfl) ?_
  refine lv_aload_n hx hb d_law_607 rfl (lv_at hl 1 rfl) ?_
  refine lv_iload hx hb d_law_608 (lv_at hl 5 rfl) ?_
  refine lv_iconst (v := 1) hx hb d_law_610 (by decide) ?_
  refine lv_iadd hx hb d_law_611 ?_
  refine va_sld hx hb hX hbl hbA hS h1 d_law_612 ?_
  refine lv_aload_n hx hb d_law_613 rfl (lv_at hl 1 rfl) ?_
  refine lv_iload hx hb d_law_614 (lv_at hl 5 rfl) ?_
  refine lv_iconst (v := 2) hx hb d_law_616 (by decide) ?_
  refine lv_iadd hx hb d_law_617 ?_
  refine va_sld hx hb hX hbl hbA hS h2 d_law_618 ?_
  refine mcV (rest := []) (wr := wL r k ((hL cm_Lw_step f (f_RS_step F A (xs (i + 1).toNatClampNeg) (xs (i + 2).toNatClampNeg))).2.2.1) ((hL cm_Lw_step f (f_RS_step F A (xs (i + 1).toNatClampNeg) (xs (i + 2).toNatClampNeg))).2.2.2) o kO ((hL cm_Lw_step f (f_RS_step F A (xs (i + 1).toNatClampNeg) (xs (i + 2).toNatClampNeg))).2.1)) (wf := fun u : SC => wM r2 k2 u.1 u.2) ⟨hx, hb, hml, hown, hW⟩ (c_Mo_step l dC dI r2 k2 G B _ (xs (i + 1).toNatClampNeg) (xs (i + 2).toNatClampNeg) hJ h_at) (cwV 2 hW (gIn k_393 k_394 k_395 k_193 k_396) rfl rfl rfl (by decide +kernel) ⟨Nat.le_of_ble_eq_true rfl, Nat.le_of_ble_eq_true rfl⟩) hKM hPL hPM (dSwap hD) hS hA (va_recv hKM hPM (ci := 3) (q0 := 0) rfl rfl) rfl hl.1 rfl (Nat.le_of_ble_eq_true rfl) d_law_619 ⟨hcl, hsl⟩ (fun H locs hPL hPM hD hS => ?_)
  have hD := dSwap hD
  refine lv_istore (lv' := [(6, .int ((f_Mo_step G B (xs (i + 1).toNatClampNeg) (xs (i + 2).toNatClampNeg)).1)), (5, .int ((hL cm_Lw_step f (f_RS_step F A (xs (i + 1).toNatClampNeg) (xs (i + 2).toNatClampNeg))).1)), (0, .ref b), (1, .ref (r 0)), (2, .ref (r2 0)), (3, .ref o), (4, .int i)]) hx hb d_law_622 hl (by decide) rfl (fun ls hl => ?_)
  refine lv_aload_n hx hb d_law_624 rfl (lv_at hl 4 rfl) ?_
  refine rdV (rest := []) ⟨hx, hb, hml, hown, hW⟩ (c_Mo_thrown l dC dI r2 k2 ((f_Mo_step G B (xs (i + 1).toNatClampNeg) (xs (i + 2).toNatClampNeg)).2.1) ((f_Mo_step G B (xs (i + 1).toNatClampNeg) (xs (i + 2).toNatClampNeg)).2.2)) (cwV 0 hW (gIn k_351 k_352 k_353 k_193 k_354) rfl rfl rfl (by decide +kernel) ⟨Nat.le_of_ble_eq_true rfl, Nat.le_of_ble_eq_true rfl⟩) hKM hPM (va_recv hKM hPM (ci := 3) (q0 := 0) rfl rfl) rfl hl.1 rfl (Nat.le_of_ble_eq_true rfl) d_law_625 ⟨hcl, hsl⟩ ?_
  refine lv_iload hx hb d_law_628 (lv_at hl 1 rfl) ?_
  refine lv_icmp_eq (tgt := 635) hx hb d_law_630 (by decide) (fun _ => ?_) (fun h9 => absurd (ans_step rel (xs (i + 1).toNatClampNeg) (xs (i + 2).toNatClampNeg) f).1 h9)
  refine lv_iload hx hb d_law_635 (lv_at hl 1 rfl) ?_
  refine lv_if_ne (tgt := 652) hx hb d_law_637 (by decide) (fun e_12 => ?_) (fun e_12 => ?_)
  · refine lv_goto (tgt := 1351) hx hb d_law_652 (by decide) ?_
    exact next _ _ _ _ _ _ _ ls (by rw [hL_st]; exact sim_step rel (xs (i + 1).toNatClampNeg) (xs (i + 2).toNatClampNeg)) hPL hPM hD hS (lv_sub hl [2, 3, 4, 5, 6] rfl)
  · refine lv_aload_n hx hb d_law_640 rfl (lv_at hl 5 rfl) ?_
    refine lv_iconst (v := 0) hx hb d_law_641 (by decide) ?_
    refine va_lald hx hb hKL hPL 0 0 rfl rfl in01 d_law_642 ?_
    refine lv_iload hx hb d_law_643 (lv_at hl 0 rfl) ?_
    refine lv_i2l (v := ((f_Mo_step G B (xs (i + 1).toNatClampNeg) (xs (i + 2).toNatClampNeg)).1).toInt64) hx hb d_law_645 rfl ?_
    refine W.lcmp hx hb d_law_646 ?_
    refine lv_if_eq (tgt := 652) hx hb d_law_647 (by decide) (fun _ => ?_) (fun h9 => absurd (lgc_self ((ans_step rel (xs (i + 1).toNatClampNeg) (xs (i + 2).toNatClampNeg) f).2 e_12)) h9)
    refine lv_goto (tgt := 1351) hx hb d_law_652 (by decide) ?_
    exact next _ _ _ _ _ _ _ ls (by rw [hL_st]; exact sim_step rel (xs (i + 1).toNatClampNeg) (xs (i + 2).toNatClampNeg)) hPL hPM hD hS (lv_sub hl [2, 3, 4, 5, 6] rfl)
set_option maxHeartbeats 4000000 in
set_option maxRecDepth 100000 in
theorem case_7 {p : Program} {l : Launch} {e : Env} {s : State} {m : MethodId} {below : List Frame} {meth : Method} {c : Code} {dC : Nat → ClassId} {dI : Nat → Nat → Nat} {b L : Nat} {xs : Nat → Int32} {r : Nat → Nat} {k : Nat → ClassId} {o : Nat} {kO : ClassId} {r2 : Nat → Nat} {k2 : Nat → ClassId} (hl9 : l.stackTraces = false) (C0 : lw_At p s m meth c b L xs) (hXS : XS (fun q => s.heap.size ≤ q) s s.heap) (hKL : va_K (dC, dI) classes (tL k kO) s) (hKM : va_K (dC, dI) classes (tM k2) s) {F : Nat → Int32} {A : Nat → Nat → Int32} {f : Nat → Int64} {G : Nat → Int32} {B : Nat → Nat → Int32} {H : Heap} {locs : List Loc} {ls : Array Slot} {i : Int32} {cells slots : Nat} {Q : State → Prop} (hcl : cells + 1 ≤ 56) (hsl : slots + 6 ≤ 1290) (h1 : vp_in (i + 1) L) (h2 : vp_in (i + 2) L) (h3 : vp_in (i + 3) L) (h4 : vp_in (i + 4) L) (h5 : vp_in (i + 5) L) (rel : LR F A G B) (hPL : va_P (dC, dI) classes (wL r k F A o kO f) H) (hPM : va_P (dC, dI) classes (wM r2 k2 G B) H) (hD : va_D (fun q => s.heap.size ≤ q) (wM r2 k2 G B ++ wL r k F A o kO f)) (hS : va_S (fun q => s.heap.size ≤ q) s.heap H locs) (hl : lv_has ls 7 [(0, .ref b), (1, .ref (r 0)), (2, .ref (r2 0)), (3, .ref o), (4, .int i)])
    (next : ∀ (F : Nat → Int32) (A : Nat → Nat → Int32) (f : Nat → Int64) (G : Nat → Int32) (B : Nat → Nat → Int32) (H : Heap) (locs : List Loc) (ls : Array Slot), LR F A G B → va_P (dC, dI) classes (wL r k F A o kO f) H → va_P (dC, dI) classes (wM r2 k2 G B) H → va_D (fun q => s.heap.size ≤ q) (wM r2 k2 G B ++ wL r k F A o kO f) → va_S (fun q => s.heap.size ≤ q) s.heap H locs → lv_has ls 7 [(0, .ref b), (1, .ref (r 0)), (2, .ref (r2 0)), (3, .ref o), (4, .int i)] → W p l e room_1 s m #[Value.ref b] below meth c H locs (cells + 1) (slots + 6) Q (F0 m 1351 ls [])) : W p l e room_1 s m #[Value.ref b] below meth c H locs cells slots Q (F0 m 655 ls []) := by
  obtain ⟨hx, hb, hr, hml, hown, hts, hX, hbl, hlocks, hgv⟩ := C0
  have hW : ∀ w ∈ WALL, w.before #[Value.ref b] s = true := fun w h => hts w (WALL_good w h).1
  have hA : ∀ q : Nat, s.heap.size ≤ q → (fun q : Nat => s.heap.size ≤ q) q := fun _ h => h
  have hbA : ¬ (fun q : Nat => s.heap.size ≤ q) b := Nat.not_le.mpr hbl
  have hI := rel.ci
  have hJ := rel.si
  have h_at := rel.at
  refine lv_aload_n hx hb d_law_655 rfl (lv_at hl 1 rfl) ?_
  refine lv_aload_n hx hb d_law_656 rfl (lv_at hl 0 rfl) ?_
  refine lv_iload hx hb d_law_657 (lv_at hl 4 rfl) ?_
  refine lv_iconst (v := 1) hx hb d_law_659 (by decide) ?_
  refine lv_iadd hx hb d_law_660 ?_
  refine va_sld hx hb hX hbl hbA hS h1 d_law_661 ?_
  refine lv_aload_n hx hb d_law_662 rfl (lv_at hl 3 rfl) ?_
  refine scS (rest := []) (hh := [(0, 9, 12, 19), (0, 9, 15, 27)]) (wr := wM r2 k2 G B) (wf := fun u : SL => wL r k u.2.1 u.2.2 o kO u.1) ⟨hx, hb, hml, hown, hW⟩ (c_Lw_pull l hl9 dC dI r k F A o kO f _ (xs (i + 1).toNatClampNeg) hI) (vx_cwSW 3 hW (gInS k_397 k_398 k_345 k_399) rfl rfl rfl (by decide +kernel) ⟨Nat.le_of_ble_eq_true rfl, Nat.le_of_ble_eq_true rfl⟩) hKL hPM hPL hD hS hA hXS rfl hl.1 rfl (Nat.le_of_ble_eq_true rfl) d_law_663 ⟨hcl, hsl⟩ (fun H locs hPM hPL hD hS => ?_)
  refine lv_istore (lv' := [(5, .int ((hL cm_Lw_pull f (f_RS_pull F A (xs (i + 1).toNatClampNeg))).1)), (0, .ref b), (1, .ref (r 0)), (2, .ref (r2 0)), (3, .ref o), (4, .int i)]) hx hb d_law_666 hl (by decide) rfl (fun ls hl => ?_)
  refine lv_aload_n hx hb d_law_668 rfl (lv_at hl 3 rfl) ?_
  refine lv_aload_n hx hb d_law_669 rfl (lv_at hl 1 rfl) ?_
  refine lv_iload hx hb d_law_670 (lv_at hl 5 rfl) ?_
  refine lv_iconst (v := 1) hx hb d_law_672 (by decide) ?_
  refine lv_iadd hx hb d_law_673 ?_
  refine va_sld hx hb hX hbl hbA hS h1 d_law_674 ?_
  refine mcV (rest := []) (wr := wL r k ((hL cm_Lw_pull f (f_RS_pull F A (xs (i + 1).toNatClampNeg))).2.2.1) ((hL cm_Lw_pull f (f_RS_pull F A (xs (i + 1).toNatClampNeg))).2.2.2) o kO ((hL cm_Lw_pull f (f_RS_pull F A (xs (i + 1).toNatClampNeg))).2.1)) (wf := fun u : SC => wM r2 k2 u.1 u.2) ⟨hx, hb, hml, hown, hW⟩ (c_Mo_pull l dC dI r2 k2 G B _ (xs (i + 1).toNatClampNeg) hJ) (cwV 1 hW (gIn k_400 k_401 k_402 k_193 k_403) rfl rfl rfl (by decide +kernel) ⟨Nat.le_of_ble_eq_true rfl, Nat.le_of_ble_eq_true rfl⟩) hKM hPL hPM (dSwap hD) hS hA (va_recv hKM hPM (ci := 3) (q0 := 0) rfl rfl) rfl hl.1 rfl (Nat.le_of_ble_eq_true rfl) d_law_675 ⟨hcl, hsl⟩ (fun H locs hPL hPM hD hS => ?_)
  have hD := dSwap hD
  refine lv_istore (lv' := [(6, .int ((f_Mo_pull G B (xs (i + 1).toNatClampNeg)).1)), (5, .int ((hL cm_Lw_pull f (f_RS_pull F A (xs (i + 1).toNatClampNeg))).1)), (0, .ref b), (1, .ref (r 0)), (2, .ref (r2 0)), (3, .ref o), (4, .int i)]) hx hb d_law_678 hl (by decide) rfl (fun ls hl => ?_)
  refine lv_aload_n hx hb d_law_680 rfl (lv_at hl 4 rfl) ?_
  refine rdV (rest := []) ⟨hx, hb, hml, hown, hW⟩ (c_Mo_thrown l dC dI r2 k2 ((f_Mo_pull G B (xs (i + 1).toNatClampNeg)).2.1) ((f_Mo_pull G B (xs (i + 1).toNatClampNeg)).2.2)) (cwV 0 hW (gIn k_351 k_352 k_353 k_193 k_354) rfl rfl rfl (by decide +kernel) ⟨Nat.le_of_ble_eq_true rfl, Nat.le_of_ble_eq_true rfl⟩) hKM hPM (va_recv hKM hPM (ci := 3) (q0 := 0) rfl rfl) rfl hl.1 rfl (Nat.le_of_ble_eq_true rfl) d_law_681 ⟨hcl, hsl⟩ ?_
  refine lv_iload hx hb d_law_684 (lv_at hl 1 rfl) ?_
  refine lv_icmp_eq (tgt := 691) hx hb d_law_686 (by decide) (fun _ => ?_) (fun h9 => absurd (ans_pull rel (xs (i + 1).toNatClampNeg) f).1 h9)
  refine lv_iload hx hb d_law_691 (lv_at hl 1 rfl) ?_
  refine lv_if_ne (tgt := 708) hx hb d_law_693 (by decide) (fun e_13 => ?_) (fun e_13 => ?_)
  · refine lv_goto (tgt := 1351) hx hb d_law_708 (by decide) ?_
    exact next _ _ _ _ _ _ _ ls (by rw [hL_st]; exact sim_pull rel (xs (i + 1).toNatClampNeg)) hPL hPM hD hS (lv_sub hl [2, 3, 4, 5, 6] rfl)
  · refine lv_aload_n hx hb d_law_696 rfl (lv_at hl 5 rfl) ?_
    refine lv_iconst (v := 0) hx hb d_law_697 (by decide) ?_
    refine va_lald hx hb hKL hPL 0 0 rfl rfl in01 d_law_698 ?_
    refine lv_iload hx hb d_law_699 (lv_at hl 0 rfl) ?_
    refine lv_i2l (v := ((f_Mo_pull G B (xs (i + 1).toNatClampNeg)).1).toInt64) hx hb d_law_701 rfl ?_
    refine W.lcmp hx hb d_law_702 ?_
    refine lv_if_eq (tgt := 708) hx hb d_law_703 (by decide) (fun _ => ?_) (fun h9 => absurd (lgc_self ((ans_pull rel (xs (i + 1).toNatClampNeg) f).2 e_13)) h9)
    refine lv_goto (tgt := 1351) hx hb d_law_708 (by decide) ?_
    exact next _ _ _ _ _ _ _ ls (by rw [hL_st]; exact sim_pull rel (xs (i + 1).toNatClampNeg)) hPL hPM hD hS (lv_sub hl [2, 3, 4, 5, 6] rfl)
set_option maxHeartbeats 4000000 in
set_option maxRecDepth 100000 in
theorem case_8 {p : Program} {l : Launch} {e : Env} {s : State} {m : MethodId} {below : List Frame} {meth : Method} {c : Code} {dC : Nat → ClassId} {dI : Nat → Nat → Nat} {b L : Nat} {xs : Nat → Int32} {r : Nat → Nat} {k : Nat → ClassId} {o : Nat} {kO : ClassId} {r2 : Nat → Nat} {k2 : Nat → ClassId} (hl9 : l.stackTraces = false) (C0 : lw_At p s m meth c b L xs) (hXS : XS (fun q => s.heap.size ≤ q) s s.heap) (hKL : va_K (dC, dI) classes (tL k kO) s) (hKM : va_K (dC, dI) classes (tM k2) s) {F : Nat → Int32} {A : Nat → Nat → Int32} {f : Nat → Int64} {G : Nat → Int32} {B : Nat → Nat → Int32} {H : Heap} {locs : List Loc} {ls : Array Slot} {i : Int32} {cells slots : Nat} {Q : State → Prop} (hcl : cells + 1 ≤ 56) (hsl : slots + 6 ≤ 1290) (h1 : vp_in (i + 1) L) (h2 : vp_in (i + 2) L) (h3 : vp_in (i + 3) L) (h4 : vp_in (i + 4) L) (h5 : vp_in (i + 5) L) (rel : LR F A G B) (hPL : va_P (dC, dI) classes (wL r k F A o kO f) H) (hPM : va_P (dC, dI) classes (wM r2 k2 G B) H) (hD : va_D (fun q => s.heap.size ≤ q) (wM r2 k2 G B ++ wL r k F A o kO f)) (hS : va_S (fun q => s.heap.size ≤ q) s.heap H locs) (hl : lv_has ls 7 [(0, .ref b), (1, .ref (r 0)), (2, .ref (r2 0)), (3, .ref o), (4, .int i)])
    (next : ∀ (F : Nat → Int32) (A : Nat → Nat → Int32) (f : Nat → Int64) (G : Nat → Int32) (B : Nat → Nat → Int32) (H : Heap) (locs : List Loc) (ls : Array Slot), LR F A G B → va_P (dC, dI) classes (wL r k F A o kO f) H → va_P (dC, dI) classes (wM r2 k2 G B) H → va_D (fun q => s.heap.size ≤ q) (wM r2 k2 G B ++ wL r k F A o kO f) → va_S (fun q => s.heap.size ≤ q) s.heap H locs → lv_has ls 7 [(0, .ref b), (1, .ref (r 0)), (2, .ref (r2 0)), (3, .ref o), (4, .int i)] → W p l e room_1 s m #[Value.ref b] below meth c H locs (cells + 1) (slots + 6) Q (F0 m 1351 ls [])) : W p l e room_1 s m #[Value.ref b] below meth c H locs cells slots Q (F0 m 711 ls []) := by
  obtain ⟨hx, hb, hr, hml, hown, hts, hX, hbl, hlocks, hgv⟩ := C0
  have hW : ∀ w ∈ WALL, w.before #[Value.ref b] s = true := fun w h => hts w (WALL_good w h).1
  have hA : ∀ q : Nat, s.heap.size ≤ q → (fun q : Nat => s.heap.size ≤ q) q := fun _ h => h
  have hbA : ¬ (fun q : Nat => s.heap.size ≤ q) b := Nat.not_le.mpr hbl
  have hI := rel.ci
  have hJ := rel.si
  have h_at := rel.at
  refine lv_aload_n hx hb d_law_711 rfl (lv_at hl 1 rfl) ?_
  refine lv_aload_n hx hb d_law_712 rfl (lv_at hl 0 rfl) ?_
  refine lv_iload hx hb d_law_713 (lv_at hl 4 rfl) ?_
  refine lv_iconst (v := 1) hx hb d_law_715 (by decide) ?_
  refine lv_iadd hx hb d_law_716 ?_
  refine va_sld hx hb hX hbl hbA hS h1 d_law_717 ?_
  refine lv_aload_n hx hb d_law_718 rfl (lv_at hl 0 rfl) ?_
  refine lv_iload hx hb d_law_719 (lv_at hl 4 rfl) ?_
  refine lv_iconst (v := 2) hx hb d_law_721 (by decide) ?_
  refine lv_iadd hx hb d_law_722 ?_
  refine va_sld hx hb hX hbl hbA hS h2 d_law_723 ?_
  refine lv_aload_n hx hb d_law_724 rfl (lv_at hl 3 rfl) ?_
  refine scS (rest := []) (hh := [(0, 10, 13, 19), (0, 10, 17, 27)]) (wr := wM r2 k2 G B) (wf := fun u : SL => wL r k u.2.1 u.2.2 o kO u.1) ⟨hx, hb, hml, hown, hW⟩ (c_Lw_await l hl9 dC dI r k F A o kO f _ (xs (i + 1).toNatClampNeg) (xs (i + 2).toNatClampNeg) hI) (vx_cwSW 4 hW (gInS k_404 k_405 k_345 k_406) rfl rfl rfl (by decide +kernel) ⟨Nat.le_of_ble_eq_true rfl, Nat.le_of_ble_eq_true rfl⟩) hKL hPM hPL hD hS hA hXS rfl hl.1 rfl (Nat.le_of_ble_eq_true rfl) d_law_725 ⟨hcl, hsl⟩ (fun H locs hPM hPL hD hS => ?_)
  refine lv_istore (lv' := [(5, .int ((hL cm_Lw_await f (f_RS_await F A (xs (i + 1).toNatClampNeg) (xs (i + 2).toNatClampNeg))).1)), (0, .ref b), (1, .ref (r 0)), (2, .ref (r2 0)), (3, .ref o), (4, .int i)]) hx hb d_law_728 hl (by decide) rfl (fun ls hl => ?_)
  refine lv_aload_n hx hb d_law_730 rfl (lv_at hl 3 rfl) ?_
  refine lv_aload_n hx hb d_law_731 rfl (lv_at hl 1 rfl) ?_
  refine lv_iload hx hb d_law_732 (lv_at hl 5 rfl) ?_
  refine lv_iconst (v := 1) hx hb d_law_734 (by decide) ?_
  refine lv_iadd hx hb d_law_735 ?_
  refine va_sld hx hb hX hbl hbA hS h1 d_law_736 ?_
  refine lv_aload_n hx hb d_law_737 rfl (lv_at hl 1 rfl) ?_
  refine lv_iload hx hb d_law_738 (lv_at hl 5 rfl) ?_
  refine lv_iconst (v := 2) hx hb d_law_740 (by decide) ?_
  refine lv_iadd hx hb d_law_741 ?_
  refine va_sld hx hb hX hbl hbA hS h2 d_law_742 ?_
  refine mcV (rest := []) (wr := wL r k ((hL cm_Lw_await f (f_RS_await F A (xs (i + 1).toNatClampNeg) (xs (i + 2).toNatClampNeg))).2.2.1) ((hL cm_Lw_await f (f_RS_await F A (xs (i + 1).toNatClampNeg) (xs (i + 2).toNatClampNeg))).2.2.2) o kO ((hL cm_Lw_await f (f_RS_await F A (xs (i + 1).toNatClampNeg) (xs (i + 2).toNatClampNeg))).2.1)) (wf := fun u : SC => wM r2 k2 u.1 u.2) ⟨hx, hb, hml, hown, hW⟩ (c_Mo_await l dC dI r2 k2 G B _ (xs (i + 1).toNatClampNeg) (xs (i + 2).toNatClampNeg) hJ) (cwV 2 hW (gIn k_407 k_408 k_409 k_193 k_410) rfl rfl rfl (by decide +kernel) ⟨Nat.le_of_ble_eq_true rfl, Nat.le_of_ble_eq_true rfl⟩) hKM hPL hPM (dSwap hD) hS hA (va_recv hKM hPM (ci := 3) (q0 := 0) rfl rfl) rfl hl.1 rfl (Nat.le_of_ble_eq_true rfl) d_law_743 ⟨hcl, hsl⟩ (fun H locs hPL hPM hD hS => ?_)
  have hD := dSwap hD
  refine lv_istore (lv' := [(6, .int ((f_Mo_await G B (xs (i + 1).toNatClampNeg) (xs (i + 2).toNatClampNeg)).1)), (5, .int ((hL cm_Lw_await f (f_RS_await F A (xs (i + 1).toNatClampNeg) (xs (i + 2).toNatClampNeg))).1)), (0, .ref b), (1, .ref (r 0)), (2, .ref (r2 0)), (3, .ref o), (4, .int i)]) hx hb d_law_746 hl (by decide) rfl (fun ls hl => ?_)
  refine lv_aload_n hx hb d_law_748 rfl (lv_at hl 4 rfl) ?_
  refine rdV (rest := []) ⟨hx, hb, hml, hown, hW⟩ (c_Mo_thrown l dC dI r2 k2 ((f_Mo_await G B (xs (i + 1).toNatClampNeg) (xs (i + 2).toNatClampNeg)).2.1) ((f_Mo_await G B (xs (i + 1).toNatClampNeg) (xs (i + 2).toNatClampNeg)).2.2)) (cwV 0 hW (gIn k_351 k_352 k_353 k_193 k_354) rfl rfl rfl (by decide +kernel) ⟨Nat.le_of_ble_eq_true rfl, Nat.le_of_ble_eq_true rfl⟩) hKM hPM (va_recv hKM hPM (ci := 3) (q0 := 0) rfl rfl) rfl hl.1 rfl (Nat.le_of_ble_eq_true rfl) d_law_749 ⟨hcl, hsl⟩ ?_
  refine lv_iload hx hb d_law_752 (lv_at hl 1 rfl) ?_
  refine lv_icmp_eq (tgt := 759) hx hb d_law_754 (by decide) (fun _ => ?_) (fun h9 => absurd (ans_await rel (xs (i + 1).toNatClampNeg) (xs (i + 2).toNatClampNeg) f).1 h9)
  refine lv_iload hx hb d_law_759 (lv_at hl 1 rfl) ?_
  refine lv_if_ne (tgt := 776) hx hb d_law_761 (by decide) (fun e_14 => ?_) (fun e_14 => ?_)
  · refine lv_goto (tgt := 1351) hx hb d_law_776 (by decide) ?_
    exact next _ _ _ _ _ _ _ ls (by rw [hL_st]; exact sim_await rel (xs (i + 1).toNatClampNeg) (xs (i + 2).toNatClampNeg)) hPL hPM hD hS (lv_sub hl [2, 3, 4, 5, 6] rfl)
  · refine lv_aload_n hx hb d_law_764 rfl (lv_at hl 5 rfl) ?_
    refine lv_iconst (v := 0) hx hb d_law_765 (by decide) ?_
    refine va_lald hx hb hKL hPL 0 0 rfl rfl in01 d_law_766 ?_
    refine lv_iload hx hb d_law_767 (lv_at hl 0 rfl) ?_
    refine lv_i2l (v := ((f_Mo_await G B (xs (i + 1).toNatClampNeg) (xs (i + 2).toNatClampNeg)).1).toInt64) hx hb d_law_769 rfl ?_
    refine W.lcmp hx hb d_law_770 ?_
    refine lv_if_eq (tgt := 776) hx hb d_law_771 (by decide) (fun _ => ?_) (fun h9 => absurd (lgc_self ((ans_await rel (xs (i + 1).toNatClampNeg) (xs (i + 2).toNatClampNeg) f).2 e_14)) h9)
    refine lv_goto (tgt := 1351) hx hb d_law_776 (by decide) ?_
    exact next _ _ _ _ _ _ _ ls (by rw [hL_st]; exact sim_await rel (xs (i + 1).toNatClampNeg) (xs (i + 2).toNatClampNeg)) hPL hPM hD hS (lv_sub hl [2, 3, 4, 5, 6] rfl)
set_option maxHeartbeats 4000000 in
set_option maxRecDepth 100000 in
theorem case_9 {p : Program} {l : Launch} {e : Env} {s : State} {m : MethodId} {below : List Frame} {meth : Method} {c : Code} {dC : Nat → ClassId} {dI : Nat → Nat → Nat} {b L : Nat} {xs : Nat → Int32} {r : Nat → Nat} {k : Nat → ClassId} {o : Nat} {kO : ClassId} {r2 : Nat → Nat} {k2 : Nat → ClassId} (hl9 : l.stackTraces = false) (C0 : lw_At p s m meth c b L xs) (hXS : XS (fun q => s.heap.size ≤ q) s s.heap) (hKL : va_K (dC, dI) classes (tL k kO) s) (hKM : va_K (dC, dI) classes (tM k2) s) {F : Nat → Int32} {A : Nat → Nat → Int32} {f : Nat → Int64} {G : Nat → Int32} {B : Nat → Nat → Int32} {H : Heap} {locs : List Loc} {ls : Array Slot} {i : Int32} {cells slots : Nat} {Q : State → Prop} (hcl : cells + 1 ≤ 56) (hsl : slots + 6 ≤ 1290) (h1 : vp_in (i + 1) L) (h2 : vp_in (i + 2) L) (h3 : vp_in (i + 3) L) (h4 : vp_in (i + 4) L) (h5 : vp_in (i + 5) L) (rel : LR F A G B) (hPL : va_P (dC, dI) classes (wL r k F A o kO f) H) (hPM : va_P (dC, dI) classes (wM r2 k2 G B) H) (hD : va_D (fun q => s.heap.size ≤ q) (wM r2 k2 G B ++ wL r k F A o kO f)) (hS : va_S (fun q => s.heap.size ≤ q) s.heap H locs) (hl : lv_has ls 7 [(0, .ref b), (1, .ref (r 0)), (2, .ref (r2 0)), (3, .ref o), (4, .int i)])
    (next : ∀ (F : Nat → Int32) (A : Nat → Nat → Int32) (f : Nat → Int64) (G : Nat → Int32) (B : Nat → Nat → Int32) (H : Heap) (locs : List Loc) (ls : Array Slot), LR F A G B → va_P (dC, dI) classes (wL r k F A o kO f) H → va_P (dC, dI) classes (wM r2 k2 G B) H → va_D (fun q => s.heap.size ≤ q) (wM r2 k2 G B ++ wL r k F A o kO f) → va_S (fun q => s.heap.size ≤ q) s.heap H locs → lv_has ls 7 [(0, .ref b), (1, .ref (r 0)), (2, .ref (r2 0)), (3, .ref o), (4, .int i)] → W p l e room_1 s m #[Value.ref b] below meth c H locs (cells + 1) (slots + 6) Q (F0 m 1351 ls [])) : W p l e room_1 s m #[Value.ref b] below meth c H locs cells slots Q (F0 m 779 ls []) := by
  obtain ⟨hx, hb, hr, hml, hown, hts, hX, hbl, hlocks, hgv⟩ := C0
  have hW : ∀ w ∈ WALL, w.before #[Value.ref b] s = true := fun w h => hts w (WALL_good w h).1
  have hA : ∀ q : Nat, s.heap.size ≤ q → (fun q : Nat => s.heap.size ≤ q) q := fun _ h => h
  have hbA : ¬ (fun q : Nat => s.heap.size ≤ q) b := Nat.not_le.mpr hbl
  have hI := rel.ci
  have hJ := rel.si
  have h_at := rel.at
  refine lv_aload_n hx hb d_law_779 rfl (lv_at hl 1 rfl) ?_
  refine lv_aload_n hx hb d_law_780 rfl (lv_at hl 0 rfl) ?_
  refine lv_iload hx hb d_law_781 (lv_at hl 4 rfl) ?_
  refine lv_iconst (v := 1) hx hb d_law_783 (by decide) ?_
  refine lv_iadd hx hb d_law_784 ?_
  refine va_sld hx hb hX hbl hbA hS h1 d_law_785 ?_
  refine lv_aload_n hx hb d_law_786 rfl (lv_at hl 3 rfl) ?_
  refine scS (rest := []) (hh := [(0, 9, 12, 19)]) (wr := wM r2 k2 G B) (wf := fun u : SL => wL r k u.2.1 u.2.2 o kO u.1) ⟨hx, hb, hml, hown, hW⟩ (c_Lw_next l hl9 dC dI r k F A o kO f _ (xs (i + 1).toNatClampNeg) hI) (vx_cwSW 3 hW (gInS k_411 k_412 k_345 k_413) rfl rfl rfl (by decide +kernel) ⟨Nat.le_of_ble_eq_true rfl, Nat.le_of_ble_eq_true rfl⟩) hKL hPM hPL hD hS hA hXS rfl hl.1 rfl (Nat.le_of_ble_eq_true rfl) d_law_787 ⟨hcl, hsl⟩ (fun H locs hPM hPL hD hS => ?_)
  refine lv_istore (lv' := [(5, .int ((hL cm_Lw_next f (f_RS_next F A (xs (i + 1).toNatClampNeg))).1)), (0, .ref b), (1, .ref (r 0)), (2, .ref (r2 0)), (3, .ref o), (4, .int i)]) hx hb d_law_790 hl (by decide) rfl (fun ls hl => ?_)
  refine lv_aload_n hx hb d_law_792 rfl (lv_at hl 3 rfl) ?_
  refine lv_aload_n hx hb d_law_793 rfl (lv_at hl 1 rfl) ?_
  refine lv_iload hx hb d_law_794 (lv_at hl 5 rfl) ?_
  refine lv_iconst (v := 1) hx hb d_law_796 (by decide) ?_
  refine lv_iadd hx hb d_law_797 ?_
  refine va_sld hx hb hX hbl hbA hS h1 d_law_798 ?_
  refine mcV (rest := []) (wr := wL r k ((hL cm_Lw_next f (f_RS_next F A (xs (i + 1).toNatClampNeg))).2.2.1) ((hL cm_Lw_next f (f_RS_next F A (xs (i + 1).toNatClampNeg))).2.2.2) o kO ((hL cm_Lw_next f (f_RS_next F A (xs (i + 1).toNatClampNeg))).2.1)) (wf := fun u : SC => wM r2 k2 u.1 u.2) ⟨hx, hb, hml, hown, hW⟩ (c_Mo_next l dC dI r2 k2 G B _ (xs (i + 1).toNatClampNeg) hJ) (cwV 1 hW (gIn k_414 k_415 k_416 k_193 k_417) rfl rfl rfl (by decide +kernel) ⟨Nat.le_of_ble_eq_true rfl, Nat.le_of_ble_eq_true rfl⟩) hKM hPL hPM (dSwap hD) hS hA (va_recv hKM hPM (ci := 3) (q0 := 0) rfl rfl) rfl hl.1 rfl (Nat.le_of_ble_eq_true rfl) d_law_799 ⟨hcl, hsl⟩ (fun H locs hPL hPM hD hS => ?_)
  have hD := dSwap hD
  refine lv_istore (lv' := [(6, .int ((f_Mo_next G B (xs (i + 1).toNatClampNeg)).1)), (5, .int ((hL cm_Lw_next f (f_RS_next F A (xs (i + 1).toNatClampNeg))).1)), (0, .ref b), (1, .ref (r 0)), (2, .ref (r2 0)), (3, .ref o), (4, .int i)]) hx hb d_law_802 hl (by decide) rfl (fun ls hl => ?_)
  refine lv_aload_n hx hb d_law_804 rfl (lv_at hl 4 rfl) ?_
  refine rdV (rest := []) ⟨hx, hb, hml, hown, hW⟩ (c_Mo_thrown l dC dI r2 k2 ((f_Mo_next G B (xs (i + 1).toNatClampNeg)).2.1) ((f_Mo_next G B (xs (i + 1).toNatClampNeg)).2.2)) (cwV 0 hW (gIn k_351 k_352 k_353 k_193 k_354) rfl rfl rfl (by decide +kernel) ⟨Nat.le_of_ble_eq_true rfl, Nat.le_of_ble_eq_true rfl⟩) hKM hPM (va_recv hKM hPM (ci := 3) (q0 := 0) rfl rfl) rfl hl.1 rfl (Nat.le_of_ble_eq_true rfl) d_law_805 ⟨hcl, hsl⟩ ?_
  refine lv_iload hx hb d_law_808 (lv_at hl 1 rfl) ?_
  refine lv_icmp_eq (tgt := 815) hx hb d_law_810 (by decide) (fun _ => ?_) (fun h9 => absurd (ans_next rel (xs (i + 1).toNatClampNeg) f).1 h9)
  refine lv_iload hx hb d_law_815 (lv_at hl 1 rfl) ?_
  refine lv_if_ne (tgt := 832) hx hb d_law_817 (by decide) (fun e_15 => ?_) (fun e_15 => ?_)
  · refine lv_goto (tgt := 1351) hx hb d_law_832 (by decide) ?_
    exact next _ _ _ _ _ _ _ ls (by rw [hL_st]; exact sim_next rel (xs (i + 1).toNatClampNeg)) hPL hPM hD hS (lv_sub hl [2, 3, 4, 5, 6] rfl)
  · refine lv_aload_n hx hb d_law_820 rfl (lv_at hl 5 rfl) ?_
    refine lv_iconst (v := 0) hx hb d_law_821 (by decide) ?_
    refine va_lald hx hb hKL hPL 0 0 rfl rfl in01 d_law_822 ?_
    refine lv_iload hx hb d_law_823 (lv_at hl 0 rfl) ?_
    refine lv_i2l (v := ((f_Mo_next G B (xs (i + 1).toNatClampNeg)).1).toInt64) hx hb d_law_825 rfl ?_
    refine W.lcmp hx hb d_law_826 ?_
    refine lv_if_eq (tgt := 832) hx hb d_law_827 (by decide) (fun _ => ?_) (fun h9 => absurd (lgc_self ((ans_next rel (xs (i + 1).toNatClampNeg) f).2 e_15)) h9)
    refine lv_goto (tgt := 1351) hx hb d_law_832 (by decide) ?_
    exact next _ _ _ _ _ _ _ ls (by rw [hL_st]; exact sim_next rel (xs (i + 1).toNatClampNeg)) hPL hPM hD hS (lv_sub hl [2, 3, 4, 5, 6] rfl)
set_option maxHeartbeats 4000000 in
set_option maxRecDepth 100000 in
theorem case_10 {p : Program} {l : Launch} {e : Env} {s : State} {m : MethodId} {below : List Frame} {meth : Method} {c : Code} {dC : Nat → ClassId} {dI : Nat → Nat → Nat} {b L : Nat} {xs : Nat → Int32} {r : Nat → Nat} {k : Nat → ClassId} {o : Nat} {kO : ClassId} {r2 : Nat → Nat} {k2 : Nat → ClassId} (hl9 : l.stackTraces = false) (C0 : lw_At p s m meth c b L xs) (hXS : XS (fun q => s.heap.size ≤ q) s s.heap) (hKL : va_K (dC, dI) classes (tL k kO) s) (hKM : va_K (dC, dI) classes (tM k2) s) {F : Nat → Int32} {A : Nat → Nat → Int32} {f : Nat → Int64} {G : Nat → Int32} {B : Nat → Nat → Int32} {H : Heap} {locs : List Loc} {ls : Array Slot} {i : Int32} {cells slots : Nat} {Q : State → Prop} (hcl : cells + 1 ≤ 56) (hsl : slots + 6 ≤ 1290) (h1 : vp_in (i + 1) L) (h2 : vp_in (i + 2) L) (h3 : vp_in (i + 3) L) (h4 : vp_in (i + 4) L) (h5 : vp_in (i + 5) L) (rel : LR F A G B) (hPL : va_P (dC, dI) classes (wL r k F A o kO f) H) (hPM : va_P (dC, dI) classes (wM r2 k2 G B) H) (hD : va_D (fun q => s.heap.size ≤ q) (wM r2 k2 G B ++ wL r k F A o kO f)) (hS : va_S (fun q => s.heap.size ≤ q) s.heap H locs) (hl : lv_has ls 7 [(0, .ref b), (1, .ref (r 0)), (2, .ref (r2 0)), (3, .ref o), (4, .int i)])
    (next : ∀ (F : Nat → Int32) (A : Nat → Nat → Int32) (f : Nat → Int64) (G : Nat → Int32) (B : Nat → Nat → Int32) (H : Heap) (locs : List Loc) (ls : Array Slot), LR F A G B → va_P (dC, dI) classes (wL r k F A o kO f) H → va_P (dC, dI) classes (wM r2 k2 G B) H → va_D (fun q => s.heap.size ≤ q) (wM r2 k2 G B ++ wL r k F A o kO f) → va_S (fun q => s.heap.size ≤ q) s.heap H locs → lv_has ls 7 [(0, .ref b), (1, .ref (r 0)), (2, .ref (r2 0)), (3, .ref o), (4, .int i)] → W p l e room_1 s m #[Value.ref b] below meth c H locs (cells + 1) (slots + 6) Q (F0 m 1351 ls [])) : W p l e room_1 s m #[Value.ref b] below meth c H locs cells slots Q (F0 m 835 ls []) := by
  obtain ⟨hx, hb, hr, hml, hown, hts, hX, hbl, hlocks, hgv⟩ := C0
  have hW : ∀ w ∈ WALL, w.before #[Value.ref b] s = true := fun w h => hts w (WALL_good w h).1
  have hA : ∀ q : Nat, s.heap.size ≤ q → (fun q : Nat => s.heap.size ≤ q) q := fun _ h => h
  have hbA : ¬ (fun q : Nat => s.heap.size ≤ q) b := Nat.not_le.mpr hbl
  have hI := rel.ci
  have hJ := rel.si
  have h_at := rel.at
  refine lv_aload_n hx hb d_law_835 rfl (lv_at hl 1 rfl) ?_
  refine lv_aload_n hx hb d_law_836 rfl (lv_at hl 0 rfl) ?_
  refine lv_iload hx hb d_law_837 (lv_at hl 4 rfl) ?_
  refine lv_iconst (v := 1) hx hb d_law_839 (by decide) ?_
  refine lv_iadd hx hb d_law_840 ?_
  refine va_sld hx hb hX hbl hbA hS h1 d_law_841 ?_
  refine lv_aload_n hx hb d_law_842 rfl (lv_at hl 0 rfl) ?_
  refine lv_iload hx hb d_law_843 (lv_at hl 4 rfl) ?_
  refine lv_iconst (v := 2) hx hb d_law_845 (by decide) ?_
  refine lv_iadd hx hb d_law_846 ?_
  refine va_sld hx hb hX hbl hbA hS h2 d_law_847 ?_
  refine lv_if_eq (tgt := 855) hx hb d_law_848 (by decide) (fun e_16 => ?_) (fun e_16 => ?_)
  · refine lv_iconst (v := 0) hx hb d_law_855 (by decide) ?_
    refine lv_aload_n hx hb d_law_856 rfl (lv_at hl 3 rfl) ?_
    refine scS (rest := []) (hh := [(0, 10, 13, 19), (0, 10, 17, 27)]) (wr := wM r2 k2 G B) (wf := fun u : SL => wL r k u.2.1 u.2.2 o kO u.1) ⟨hx, hb, hml, hown, hW⟩ (c_Lw_zone l hl9 dC dI r k F A o kO f _ (xs (i + 1).toNatClampNeg) 0 hI) (vx_cwSW 4 hW (gInS k_418 k_419 k_345 k_420) rfl rfl rfl (by decide +kernel) ⟨Nat.le_of_ble_eq_true rfl, Nat.le_of_ble_eq_true rfl⟩) hKL hPM hPL hD hS hA hXS rfl hl.1 rfl (Nat.le_of_ble_eq_true rfl) d_law_857 ⟨hcl, hsl⟩ (fun H locs hPM hPL hD hS => ?_)
    refine lv_istore (lv' := [(5, .int ((hL cm_Lw_zone f (f_RS_zone F A (xs (i + 1).toNatClampNeg) 0)).1)), (0, .ref b), (1, .ref (r 0)), (2, .ref (r2 0)), (3, .ref o), (4, .int i)]) hx hb d_law_860 hl (by decide) rfl (fun ls hl => ?_)
    refine lv_aload_n hx hb d_law_862 rfl (lv_at hl 3 rfl) ?_
    refine lv_aload_n hx hb d_law_863 rfl (lv_at hl 1 rfl) ?_
    refine lv_iload hx hb d_law_864 (lv_at hl 5 rfl) ?_
    refine lv_iconst (v := 1) hx hb d_law_866 (by decide) ?_
    refine lv_iadd hx hb d_law_867 ?_
    refine va_sld hx hb hX hbl hbA hS h1 d_law_868 ?_
    refine lv_aload_n hx hb d_law_869 rfl (lv_at hl 1 rfl) ?_
    refine lv_iload hx hb d_law_870 (lv_at hl 5 rfl) ?_
    refine lv_iconst (v := 2) hx hb d_law_872 (by decide) ?_
    refine lv_iadd hx hb d_law_873 ?_
    refine va_sld hx hb hX hbl hbA hS h2 d_law_874 ?_
    refine lv_if_eq (tgt := 882) hx hb d_law_875 (by decide) (fun _ => ?_) (fun h9 => absurd e_16 h9)
    refine lv_iconst (v := 0) hx hb d_law_882 (by decide) ?_
    refine mcV (rest := []) (wr := wL r k ((hL cm_Lw_zone f (f_RS_zone F A (xs (i + 1).toNatClampNeg) 0)).2.2.1) ((hL cm_Lw_zone f (f_RS_zone F A (xs (i + 1).toNatClampNeg) 0)).2.2.2) o kO ((hL cm_Lw_zone f (f_RS_zone F A (xs (i + 1).toNatClampNeg) 0)).2.1)) (wf := fun u : SC => wM r2 k2 u.1 u.2) ⟨hx, hb, hml, hown, hW⟩ (c_Mo_zone l dC dI r2 k2 G B _ (xs (i + 1).toNatClampNeg) 0 hJ) (cwV 2 hW (gIn k_421 k_422 k_423 k_193 k_424) rfl rfl rfl (by decide +kernel) ⟨Nat.le_of_ble_eq_true rfl, Nat.le_of_ble_eq_true rfl⟩) hKM hPL hPM (dSwap hD) hS hA (va_recv hKM hPM (ci := 3) (q0 := 0) rfl rfl) rfl hl.1 rfl (Nat.le_of_ble_eq_true rfl) d_law_883 ⟨hcl, hsl⟩ (fun H locs hPL hPM hD hS => ?_)
    have hD := dSwap hD
    refine lv_istore (lv' := [(6, .int ((f_Mo_zone G B (xs (i + 1).toNatClampNeg) 0).1)), (5, .int ((hL cm_Lw_zone f (f_RS_zone F A (xs (i + 1).toNatClampNeg) 0)).1)), (0, .ref b), (1, .ref (r 0)), (2, .ref (r2 0)), (3, .ref o), (4, .int i)]) hx hb d_law_886 hl (by decide) rfl (fun ls hl => ?_)
    refine lv_aload_n hx hb d_law_888 rfl (lv_at hl 4 rfl) ?_
    refine rdV (rest := []) ⟨hx, hb, hml, hown, hW⟩ (c_Mo_thrown l dC dI r2 k2 ((f_Mo_zone G B (xs (i + 1).toNatClampNeg) 0).2.1) ((f_Mo_zone G B (xs (i + 1).toNatClampNeg) 0).2.2)) (cwV 0 hW (gIn k_351 k_352 k_353 k_193 k_354) rfl rfl rfl (by decide +kernel) ⟨Nat.le_of_ble_eq_true rfl, Nat.le_of_ble_eq_true rfl⟩) hKM hPM (va_recv hKM hPM (ci := 3) (q0 := 0) rfl rfl) rfl hl.1 rfl (Nat.le_of_ble_eq_true rfl) d_law_889 ⟨hcl, hsl⟩ ?_
    refine lv_iload hx hb d_law_892 (lv_at hl 1 rfl) ?_
    refine lv_icmp_eq (tgt := 899) hx hb d_law_894 (by decide) (fun _ => ?_) (fun h9 => absurd (ans_zone rel (xs (i + 1).toNatClampNeg) 0 f).1 h9)
    refine lv_iload hx hb d_law_899 (lv_at hl 1 rfl) ?_
    refine lv_if_ne (tgt := 916) hx hb d_law_901 (by decide) (fun e_17 => ?_) (fun e_17 => ?_)
    · refine lv_goto (tgt := 1351) hx hb d_law_916 (by decide) ?_
      exact next _ _ _ _ _ _ _ ls (by rw [hL_st]; exact sim_zone rel (xs (i + 1).toNatClampNeg) 0) hPL hPM hD hS (lv_sub hl [2, 3, 4, 5, 6] rfl)
    · refine lv_aload_n hx hb d_law_904 rfl (lv_at hl 5 rfl) ?_
      refine lv_iconst (v := 0) hx hb d_law_905 (by decide) ?_
      refine va_lald hx hb hKL hPL 0 0 rfl rfl in01 d_law_906 ?_
      refine lv_iload hx hb d_law_907 (lv_at hl 0 rfl) ?_
      refine lv_i2l (v := ((f_Mo_zone G B (xs (i + 1).toNatClampNeg) 0).1).toInt64) hx hb d_law_909 rfl ?_
      refine W.lcmp hx hb d_law_910 ?_
      refine lv_if_eq (tgt := 916) hx hb d_law_911 (by decide) (fun _ => ?_) (fun h9 => absurd (lgc_self ((ans_zone rel (xs (i + 1).toNatClampNeg) 0 f).2 e_17)) h9)
      refine lv_goto (tgt := 1351) hx hb d_law_916 (by decide) ?_
      exact next _ _ _ _ _ _ _ ls (by rw [hL_st]; exact sim_zone rel (xs (i + 1).toNatClampNeg) 0) hPL hPM hD hS (lv_sub hl [2, 3, 4, 5, 6] rfl)
  · refine lv_iconst (v := 1) hx hb d_law_851 (by decide) ?_
    refine lv_goto (tgt := 856) hx hb d_law_852 (by decide) ?_
    refine lv_aload_n hx hb d_law_856 rfl (lv_at hl 3 rfl) ?_
    refine scS (rest := []) (hh := [(0, 10, 13, 19), (0, 10, 17, 27)]) (wr := wM r2 k2 G B) (wf := fun u : SL => wL r k u.2.1 u.2.2 o kO u.1) ⟨hx, hb, hml, hown, hW⟩ (c_Lw_zone l hl9 dC dI r k F A o kO f _ (xs (i + 1).toNatClampNeg) 1 hI) (vx_cwSW 4 hW (gInS k_418 k_419 k_345 k_420) rfl rfl rfl (by decide +kernel) ⟨Nat.le_of_ble_eq_true rfl, Nat.le_of_ble_eq_true rfl⟩) hKL hPM hPL hD hS hA hXS rfl hl.1 rfl (Nat.le_of_ble_eq_true rfl) d_law_857 ⟨hcl, hsl⟩ (fun H locs hPM hPL hD hS => ?_)
    refine lv_istore (lv' := [(5, .int ((hL cm_Lw_zone f (f_RS_zone F A (xs (i + 1).toNatClampNeg) 1)).1)), (0, .ref b), (1, .ref (r 0)), (2, .ref (r2 0)), (3, .ref o), (4, .int i)]) hx hb d_law_860 hl (by decide) rfl (fun ls hl => ?_)
    refine lv_aload_n hx hb d_law_862 rfl (lv_at hl 3 rfl) ?_
    refine lv_aload_n hx hb d_law_863 rfl (lv_at hl 1 rfl) ?_
    refine lv_iload hx hb d_law_864 (lv_at hl 5 rfl) ?_
    refine lv_iconst (v := 1) hx hb d_law_866 (by decide) ?_
    refine lv_iadd hx hb d_law_867 ?_
    refine va_sld hx hb hX hbl hbA hS h1 d_law_868 ?_
    refine lv_aload_n hx hb d_law_869 rfl (lv_at hl 1 rfl) ?_
    refine lv_iload hx hb d_law_870 (lv_at hl 5 rfl) ?_
    refine lv_iconst (v := 2) hx hb d_law_872 (by decide) ?_
    refine lv_iadd hx hb d_law_873 ?_
    refine va_sld hx hb hX hbl hbA hS h2 d_law_874 ?_
    refine lv_if_eq (tgt := 882) hx hb d_law_875 (by decide) (fun h9 => absurd h9 e_16) (fun _ => ?_)
    refine lv_iconst (v := 1) hx hb d_law_878 (by decide) ?_
    refine lv_goto (tgt := 883) hx hb d_law_879 (by decide) ?_
    refine mcV (rest := []) (wr := wL r k ((hL cm_Lw_zone f (f_RS_zone F A (xs (i + 1).toNatClampNeg) 1)).2.2.1) ((hL cm_Lw_zone f (f_RS_zone F A (xs (i + 1).toNatClampNeg) 1)).2.2.2) o kO ((hL cm_Lw_zone f (f_RS_zone F A (xs (i + 1).toNatClampNeg) 1)).2.1)) (wf := fun u : SC => wM r2 k2 u.1 u.2) ⟨hx, hb, hml, hown, hW⟩ (c_Mo_zone l dC dI r2 k2 G B _ (xs (i + 1).toNatClampNeg) 1 hJ) (cwV 2 hW (gIn k_421 k_422 k_423 k_193 k_424) rfl rfl rfl (by decide +kernel) ⟨Nat.le_of_ble_eq_true rfl, Nat.le_of_ble_eq_true rfl⟩) hKM hPL hPM (dSwap hD) hS hA (va_recv hKM hPM (ci := 3) (q0 := 0) rfl rfl) rfl hl.1 rfl (Nat.le_of_ble_eq_true rfl) d_law_883 ⟨hcl, hsl⟩ (fun H locs hPL hPM hD hS => ?_)
    have hD := dSwap hD
    refine lv_istore (lv' := [(6, .int ((f_Mo_zone G B (xs (i + 1).toNatClampNeg) 1).1)), (5, .int ((hL cm_Lw_zone f (f_RS_zone F A (xs (i + 1).toNatClampNeg) 1)).1)), (0, .ref b), (1, .ref (r 0)), (2, .ref (r2 0)), (3, .ref o), (4, .int i)]) hx hb d_law_886 hl (by decide) rfl (fun ls hl => ?_)
    refine lv_aload_n hx hb d_law_888 rfl (lv_at hl 4 rfl) ?_
    refine rdV (rest := []) ⟨hx, hb, hml, hown, hW⟩ (c_Mo_thrown l dC dI r2 k2 ((f_Mo_zone G B (xs (i + 1).toNatClampNeg) 1).2.1) ((f_Mo_zone G B (xs (i + 1).toNatClampNeg) 1).2.2)) (cwV 0 hW (gIn k_351 k_352 k_353 k_193 k_354) rfl rfl rfl (by decide +kernel) ⟨Nat.le_of_ble_eq_true rfl, Nat.le_of_ble_eq_true rfl⟩) hKM hPM (va_recv hKM hPM (ci := 3) (q0 := 0) rfl rfl) rfl hl.1 rfl (Nat.le_of_ble_eq_true rfl) d_law_889 ⟨hcl, hsl⟩ ?_
    refine lv_iload hx hb d_law_892 (lv_at hl 1 rfl) ?_
    refine lv_icmp_eq (tgt := 899) hx hb d_law_894 (by decide) (fun _ => ?_) (fun h9 => absurd (ans_zone rel (xs (i + 1).toNatClampNeg) 1 f).1 h9)
    refine lv_iload hx hb d_law_899 (lv_at hl 1 rfl) ?_
    refine lv_if_ne (tgt := 916) hx hb d_law_901 (by decide) (fun e_18 => ?_) (fun e_18 => ?_)
    · refine lv_goto (tgt := 1351) hx hb d_law_916 (by decide) ?_
      exact next _ _ _ _ _ _ _ ls (by rw [hL_st]; exact sim_zone rel (xs (i + 1).toNatClampNeg) 1) hPL hPM hD hS (lv_sub hl [2, 3, 4, 5, 6] rfl)
    · refine lv_aload_n hx hb d_law_904 rfl (lv_at hl 5 rfl) ?_
      refine lv_iconst (v := 0) hx hb d_law_905 (by decide) ?_
      refine va_lald hx hb hKL hPL 0 0 rfl rfl in01 d_law_906 ?_
      refine lv_iload hx hb d_law_907 (lv_at hl 0 rfl) ?_
      refine lv_i2l (v := ((f_Mo_zone G B (xs (i + 1).toNatClampNeg) 1).1).toInt64) hx hb d_law_909 rfl ?_
      refine W.lcmp hx hb d_law_910 ?_
      refine lv_if_eq (tgt := 916) hx hb d_law_911 (by decide) (fun _ => ?_) (fun h9 => absurd (lgc_self ((ans_zone rel (xs (i + 1).toNatClampNeg) 1 f).2 e_18)) h9)
      refine lv_goto (tgt := 1351) hx hb d_law_916 (by decide) ?_
      exact next _ _ _ _ _ _ _ ls (by rw [hL_st]; exact sim_zone rel (xs (i + 1).toNatClampNeg) 1) hPL hPM hD hS (lv_sub hl [2, 3, 4, 5, 6] rfl)
set_option maxHeartbeats 4000000 in
set_option maxRecDepth 100000 in
theorem case_11 {p : Program} {l : Launch} {e : Env} {s : State} {m : MethodId} {below : List Frame} {meth : Method} {c : Code} {dC : Nat → ClassId} {dI : Nat → Nat → Nat} {b L : Nat} {xs : Nat → Int32} {r : Nat → Nat} {k : Nat → ClassId} {o : Nat} {kO : ClassId} {r2 : Nat → Nat} {k2 : Nat → ClassId} (hl9 : l.stackTraces = false) (C0 : lw_At p s m meth c b L xs) (hXS : XS (fun q => s.heap.size ≤ q) s s.heap) (hKL : va_K (dC, dI) classes (tL k kO) s) (hKM : va_K (dC, dI) classes (tM k2) s) {F : Nat → Int32} {A : Nat → Nat → Int32} {f : Nat → Int64} {G : Nat → Int32} {B : Nat → Nat → Int32} {H : Heap} {locs : List Loc} {ls : Array Slot} {i : Int32} {cells slots : Nat} {Q : State → Prop} (hcl : cells + 1 ≤ 56) (hsl : slots + 6 ≤ 1290) (h1 : vp_in (i + 1) L) (h2 : vp_in (i + 2) L) (h3 : vp_in (i + 3) L) (h4 : vp_in (i + 4) L) (h5 : vp_in (i + 5) L) (rel : LR F A G B) (hPL : va_P (dC, dI) classes (wL r k F A o kO f) H) (hPM : va_P (dC, dI) classes (wM r2 k2 G B) H) (hD : va_D (fun q => s.heap.size ≤ q) (wM r2 k2 G B ++ wL r k F A o kO f)) (hS : va_S (fun q => s.heap.size ≤ q) s.heap H locs) (hl : lv_has ls 7 [(0, .ref b), (1, .ref (r 0)), (2, .ref (r2 0)), (3, .ref o), (4, .int i)])
    (next : ∀ (F : Nat → Int32) (A : Nat → Nat → Int32) (f : Nat → Int64) (G : Nat → Int32) (B : Nat → Nat → Int32) (H : Heap) (locs : List Loc) (ls : Array Slot), LR F A G B → va_P (dC, dI) classes (wL r k F A o kO f) H → va_P (dC, dI) classes (wM r2 k2 G B) H → va_D (fun q => s.heap.size ≤ q) (wM r2 k2 G B ++ wL r k F A o kO f) → va_S (fun q => s.heap.size ≤ q) s.heap H locs → lv_has ls 7 [(0, .ref b), (1, .ref (r 0)), (2, .ref (r2 0)), (3, .ref o), (4, .int i)] → W p l e room_1 s m #[Value.ref b] below meth c H locs (cells + 1) (slots + 6) Q (F0 m 1351 ls [])) : W p l e room_1 s m #[Value.ref b] below meth c H locs cells slots Q (F0 m 919 ls []) := by
  obtain ⟨hx, hb, hr, hml, hown, hts, hX, hbl, hlocks, hgv⟩ := C0
  have hW : ∀ w ∈ WALL, w.before #[Value.ref b] s = true := fun w h => hts w (WALL_good w h).1
  have hA : ∀ q : Nat, s.heap.size ≤ q → (fun q : Nat => s.heap.size ≤ q) q := fun _ h => h
  have hbA : ¬ (fun q : Nat => s.heap.size ≤ q) b := Nat.not_le.mpr hbl
  have hI := rel.ci
  have hJ := rel.si
  have h_at := rel.at
  refine lv_aload_n hx hb d_law_919 rfl (lv_at hl 1 rfl) ?_
  refine lv_aload_n hx hb d_law_920 rfl (lv_at hl 0 rfl) ?_
  refine lv_iload hx hb d_law_921 (lv_at hl 4 rfl) ?_
  refine lv_iconst (v := 1) hx hb d_law_923 (by decide) ?_
  refine lv_iadd hx hb d_law_924 ?_
  refine va_sld hx hb hX hbl hbA hS h1 d_law_925 ?_
  refine lv_aload_n hx hb d_law_926 rfl (lv_at hl 0 rfl) ?_
  refine lv_iload hx hb d_law_927 (lv_at hl 4 rfl) ?_
  refine lv_iconst (v := 2) hx hb d_law_929 (by decide) ?_
  refine lv_iadd hx hb d_law_930 ?_
  refine va_sld hx hb hX hbl hbA hS h2 d_law_931 ?_
  refine lv_if_eq (tgt := 939) hx hb d_law_932 (by decide) (fun e_19 => ?_) (fun e_19 => ?_)
  · refine lv_iconst (v := 0) hx hb d_law_939 (by decide) ?_
    refine lv_aload_n hx hb d_law_940 rfl (lv_at hl 3 rfl) ?_
    refine scS (rest := []) (hh := [(0, 10, 13, 19), (0, 10, 17, 27)]) (wr := wM r2 k2 G B) (wf := fun u : SL => wL r k u.2.1 u.2.2 o kO u.1) ⟨hx, hb, hml, hown, hW⟩ (c_Lw_halt l hl9 dC dI r k F A o kO f _ (xs (i + 1).toNatClampNeg) 0 hI) (vx_cwSW 4 hW (gInS k_425 k_426 k_345 k_427) rfl rfl rfl (by decide +kernel) ⟨Nat.le_of_ble_eq_true rfl, Nat.le_of_ble_eq_true rfl⟩) hKL hPM hPL hD hS hA hXS rfl hl.1 rfl (Nat.le_of_ble_eq_true rfl) d_law_941 ⟨hcl, hsl⟩ (fun H locs hPM hPL hD hS => ?_)
    refine lv_istore (lv' := [(5, .int ((hL cm_Lw_halt f (f_RS_halt F A (xs (i + 1).toNatClampNeg) 0)).1)), (0, .ref b), (1, .ref (r 0)), (2, .ref (r2 0)), (3, .ref o), (4, .int i)]) hx hb d_law_944 hl (by decide) rfl (fun ls hl => ?_)
    refine lv_aload_n hx hb d_law_946 rfl (lv_at hl 3 rfl) ?_
    refine lv_aload_n hx hb d_law_947 rfl (lv_at hl 1 rfl) ?_
    refine lv_iload hx hb d_law_948 (lv_at hl 5 rfl) ?_
    refine lv_iconst (v := 1) hx hb d_law_950 (by decide) ?_
    refine lv_iadd hx hb d_law_951 ?_
    refine va_sld hx hb hX hbl hbA hS h1 d_law_952 ?_
    refine lv_aload_n hx hb d_law_953 rfl (lv_at hl 1 rfl) ?_
    refine lv_iload hx hb d_law_954 (lv_at hl 5 rfl) ?_
    refine lv_iconst (v := 2) hx hb d_law_956 (by decide) ?_
    refine lv_iadd hx hb d_law_957 ?_
    refine va_sld hx hb hX hbl hbA hS h2 d_law_958 ?_
    refine lv_if_eq (tgt := 966) hx hb d_law_959 (by decide) (fun _ => ?_) (fun h9 => absurd e_19 h9)
    refine lv_iconst (v := 0) hx hb d_law_966 (by decide) ?_
    refine mcV (rest := []) (wr := wL r k ((hL cm_Lw_halt f (f_RS_halt F A (xs (i + 1).toNatClampNeg) 0)).2.2.1) ((hL cm_Lw_halt f (f_RS_halt F A (xs (i + 1).toNatClampNeg) 0)).2.2.2) o kO ((hL cm_Lw_halt f (f_RS_halt F A (xs (i + 1).toNatClampNeg) 0)).2.1)) (wf := fun u : SC => wM r2 k2 u.1 u.2) ⟨hx, hb, hml, hown, hW⟩ (c_Mo_halt l dC dI r2 k2 G B _ (xs (i + 1).toNatClampNeg) 0 hJ) (cwV 2 hW (gIn k_428 k_429 k_430 k_193 k_431) rfl rfl rfl (by decide +kernel) ⟨Nat.le_of_ble_eq_true rfl, Nat.le_of_ble_eq_true rfl⟩) hKM hPL hPM (dSwap hD) hS hA (va_recv hKM hPM (ci := 3) (q0 := 0) rfl rfl) rfl hl.1 rfl (Nat.le_of_ble_eq_true rfl) d_law_967 ⟨hcl, hsl⟩ (fun H locs hPL hPM hD hS => ?_)
    have hD := dSwap hD
    refine lv_istore (lv' := [(6, .int ((f_Mo_halt G B (xs (i + 1).toNatClampNeg) 0).1)), (5, .int ((hL cm_Lw_halt f (f_RS_halt F A (xs (i + 1).toNatClampNeg) 0)).1)), (0, .ref b), (1, .ref (r 0)), (2, .ref (r2 0)), (3, .ref o), (4, .int i)]) hx hb d_law_970 hl (by decide) rfl (fun ls hl => ?_)
    refine lv_aload_n hx hb d_law_972 rfl (lv_at hl 4 rfl) ?_
    refine rdV (rest := []) ⟨hx, hb, hml, hown, hW⟩ (c_Mo_thrown l dC dI r2 k2 ((f_Mo_halt G B (xs (i + 1).toNatClampNeg) 0).2.1) ((f_Mo_halt G B (xs (i + 1).toNatClampNeg) 0).2.2)) (cwV 0 hW (gIn k_351 k_352 k_353 k_193 k_354) rfl rfl rfl (by decide +kernel) ⟨Nat.le_of_ble_eq_true rfl, Nat.le_of_ble_eq_true rfl⟩) hKM hPM (va_recv hKM hPM (ci := 3) (q0 := 0) rfl rfl) rfl hl.1 rfl (Nat.le_of_ble_eq_true rfl) d_law_973 ⟨hcl, hsl⟩ ?_
    refine lv_iload hx hb d_law_976 (lv_at hl 1 rfl) ?_
    refine lv_icmp_eq (tgt := 983) hx hb d_law_978 (by decide) (fun _ => ?_) (fun h9 => absurd (ans_halt rel (xs (i + 1).toNatClampNeg) 0 f).1 h9)
    refine lv_iload hx hb d_law_983 (lv_at hl 1 rfl) ?_
    refine lv_if_ne (tgt := 1000) hx hb d_law_985 (by decide) (fun e_20 => ?_) (fun e_20 => ?_)
    · refine lv_goto (tgt := 1351) hx hb d_law_1000 (by decide) ?_
      exact next _ _ _ _ _ _ _ ls (by rw [hL_st]; exact sim_halt rel (xs (i + 1).toNatClampNeg) 0) hPL hPM hD hS (lv_sub hl [2, 3, 4, 5, 6] rfl)
    · refine lv_aload_n hx hb d_law_988 rfl (lv_at hl 5 rfl) ?_
      refine lv_iconst (v := 0) hx hb d_law_989 (by decide) ?_
      refine va_lald hx hb hKL hPL 0 0 rfl rfl in01 d_law_990 ?_
      refine lv_iload hx hb d_law_991 (lv_at hl 0 rfl) ?_
      refine lv_i2l (v := ((f_Mo_halt G B (xs (i + 1).toNatClampNeg) 0).1).toInt64) hx hb d_law_993 rfl ?_
      refine W.lcmp hx hb d_law_994 ?_
      refine lv_if_eq (tgt := 1000) hx hb d_law_995 (by decide) (fun _ => ?_) (fun h9 => absurd (lgc_self ((ans_halt rel (xs (i + 1).toNatClampNeg) 0 f).2 e_20)) h9)
      refine lv_goto (tgt := 1351) hx hb d_law_1000 (by decide) ?_
      exact next _ _ _ _ _ _ _ ls (by rw [hL_st]; exact sim_halt rel (xs (i + 1).toNatClampNeg) 0) hPL hPM hD hS (lv_sub hl [2, 3, 4, 5, 6] rfl)
  · refine lv_iconst (v := 1) hx hb d_law_935 (by decide) ?_
    refine lv_goto (tgt := 940) hx hb d_law_936 (by decide) ?_
    refine lv_aload_n hx hb d_law_940 rfl (lv_at hl 3 rfl) ?_
    refine scS (rest := []) (hh := [(0, 10, 13, 19), (0, 10, 17, 27)]) (wr := wM r2 k2 G B) (wf := fun u : SL => wL r k u.2.1 u.2.2 o kO u.1) ⟨hx, hb, hml, hown, hW⟩ (c_Lw_halt l hl9 dC dI r k F A o kO f _ (xs (i + 1).toNatClampNeg) 1 hI) (vx_cwSW 4 hW (gInS k_425 k_426 k_345 k_427) rfl rfl rfl (by decide +kernel) ⟨Nat.le_of_ble_eq_true rfl, Nat.le_of_ble_eq_true rfl⟩) hKL hPM hPL hD hS hA hXS rfl hl.1 rfl (Nat.le_of_ble_eq_true rfl) d_law_941 ⟨hcl, hsl⟩ (fun H locs hPM hPL hD hS => ?_)
    refine lv_istore (lv' := [(5, .int ((hL cm_Lw_halt f (f_RS_halt F A (xs (i + 1).toNatClampNeg) 1)).1)), (0, .ref b), (1, .ref (r 0)), (2, .ref (r2 0)), (3, .ref o), (4, .int i)]) hx hb d_law_944 hl (by decide) rfl (fun ls hl => ?_)
    refine lv_aload_n hx hb d_law_946 rfl (lv_at hl 3 rfl) ?_
    refine lv_aload_n hx hb d_law_947 rfl (lv_at hl 1 rfl) ?_
    refine lv_iload hx hb d_law_948 (lv_at hl 5 rfl) ?_
    refine lv_iconst (v := 1) hx hb d_law_950 (by decide) ?_
    refine lv_iadd hx hb d_law_951 ?_
    refine va_sld hx hb hX hbl hbA hS h1 d_law_952 ?_
    refine lv_aload_n hx hb d_law_953 rfl (lv_at hl 1 rfl) ?_
    refine lv_iload hx hb d_law_954 (lv_at hl 5 rfl) ?_
    refine lv_iconst (v := 2) hx hb d_law_956 (by decide) ?_
    refine lv_iadd hx hb d_law_957 ?_
    refine va_sld hx hb hX hbl hbA hS h2 d_law_958 ?_
    refine lv_if_eq (tgt := 966) hx hb d_law_959 (by decide) (fun h9 => absurd h9 e_19) (fun _ => ?_)
    refine lv_iconst (v := 1) hx hb d_law_962 (by decide) ?_
    refine lv_goto (tgt := 967) hx hb d_law_963 (by decide) ?_
    refine mcV (rest := []) (wr := wL r k ((hL cm_Lw_halt f (f_RS_halt F A (xs (i + 1).toNatClampNeg) 1)).2.2.1) ((hL cm_Lw_halt f (f_RS_halt F A (xs (i + 1).toNatClampNeg) 1)).2.2.2) o kO ((hL cm_Lw_halt f (f_RS_halt F A (xs (i + 1).toNatClampNeg) 1)).2.1)) (wf := fun u : SC => wM r2 k2 u.1 u.2) ⟨hx, hb, hml, hown, hW⟩ (c_Mo_halt l dC dI r2 k2 G B _ (xs (i + 1).toNatClampNeg) 1 hJ) (cwV 2 hW (gIn k_428 k_429 k_430 k_193 k_431) rfl rfl rfl (by decide +kernel) ⟨Nat.le_of_ble_eq_true rfl, Nat.le_of_ble_eq_true rfl⟩) hKM hPL hPM (dSwap hD) hS hA (va_recv hKM hPM (ci := 3) (q0 := 0) rfl rfl) rfl hl.1 rfl (Nat.le_of_ble_eq_true rfl) d_law_967 ⟨hcl, hsl⟩ (fun H locs hPL hPM hD hS => ?_)
    have hD := dSwap hD
    refine lv_istore (lv' := [(6, .int ((f_Mo_halt G B (xs (i + 1).toNatClampNeg) 1).1)), (5, .int ((hL cm_Lw_halt f (f_RS_halt F A (xs (i + 1).toNatClampNeg) 1)).1)), (0, .ref b), (1, .ref (r 0)), (2, .ref (r2 0)), (3, .ref o), (4, .int i)]) hx hb d_law_970 hl (by decide) rfl (fun ls hl => ?_)
    refine lv_aload_n hx hb d_law_972 rfl (lv_at hl 4 rfl) ?_
    refine rdV (rest := []) ⟨hx, hb, hml, hown, hW⟩ (c_Mo_thrown l dC dI r2 k2 ((f_Mo_halt G B (xs (i + 1).toNatClampNeg) 1).2.1) ((f_Mo_halt G B (xs (i + 1).toNatClampNeg) 1).2.2)) (cwV 0 hW (gIn k_351 k_352 k_353 k_193 k_354) rfl rfl rfl (by decide +kernel) ⟨Nat.le_of_ble_eq_true rfl, Nat.le_of_ble_eq_true rfl⟩) hKM hPM (va_recv hKM hPM (ci := 3) (q0 := 0) rfl rfl) rfl hl.1 rfl (Nat.le_of_ble_eq_true rfl) d_law_973 ⟨hcl, hsl⟩ ?_
    refine lv_iload hx hb d_law_976 (lv_at hl 1 rfl) ?_
    refine lv_icmp_eq (tgt := 983) hx hb d_law_978 (by decide) (fun _ => ?_) (fun h9 => absurd (ans_halt rel (xs (i + 1).toNatClampNeg) 1 f).1 h9)
    refine lv_iload hx hb d_law_983 (lv_at hl 1 rfl) ?_
    refine lv_if_ne (tgt := 1000) hx hb d_law_985 (by decide) (fun e_21 => ?_) (fun e_21 => ?_)
    · refine lv_goto (tgt := 1351) hx hb d_law_1000 (by decide) ?_
      exact next _ _ _ _ _ _ _ ls (by rw [hL_st]; exact sim_halt rel (xs (i + 1).toNatClampNeg) 1) hPL hPM hD hS (lv_sub hl [2, 3, 4, 5, 6] rfl)
    · refine lv_aload_n hx hb d_law_988 rfl (lv_at hl 5 rfl) ?_
      refine lv_iconst (v := 0) hx hb d_law_989 (by decide) ?_
      refine va_lald hx hb hKL hPL 0 0 rfl rfl in01 d_law_990 ?_
      refine lv_iload hx hb d_law_991 (lv_at hl 0 rfl) ?_
      refine lv_i2l (v := ((f_Mo_halt G B (xs (i + 1).toNatClampNeg) 1).1).toInt64) hx hb d_law_993 rfl ?_
      refine W.lcmp hx hb d_law_994 ?_
      refine lv_if_eq (tgt := 1000) hx hb d_law_995 (by decide) (fun _ => ?_) (fun h9 => absurd (lgc_self ((ans_halt rel (xs (i + 1).toNatClampNeg) 1 f).2 e_21)) h9)
      refine lv_goto (tgt := 1351) hx hb d_law_1000 (by decide) ?_
      exact next _ _ _ _ _ _ _ ls (by rw [hL_st]; exact sim_halt rel (xs (i + 1).toNatClampNeg) 1) hPL hPM hD hS (lv_sub hl [2, 3, 4, 5, 6] rfl)
