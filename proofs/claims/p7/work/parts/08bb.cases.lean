set_option maxHeartbeats 4000000 in
set_option maxRecDepth 100000 in
theorem case_6 {p : Program} {l : Launch} {e : Env} {s : State} {m : MethodId} {below : List Frame} {meth : Method} {c : Code} {dC : Nat → ClassId} {dI : Nat → Nat → Nat} {b L : Nat} {xs : Nat → Int32} {r : Nat → Nat} {k : Nat → ClassId} {o : Nat} {kO : ClassId} {r2 : Nat → Nat} {k2 : Nat → ClassId} (hl9 : l.stackTraces = false) (C0 : lw_At p s m meth c b L xs) (hXS : XS (fun q => s.heap.size ≤ q) s s.heap) (hKL : va_K (dC, dI) classes (tL k kO) s) (hKM : va_K (dC, dI) classes (tM k2) s) {F : Nat → Int32} {A : Nat → Nat → Int32} {f : Nat → Int64} {G : Nat → Int32} {B : Nat → Nat → Int32} {H : Heap} {locs : List Loc} {ls : Array Slot} {i : Int32} {cells slots : Nat} {Q : State → Prop} (hcl : cells + 1 ≤ 1078) (hsl : slots + 6 ≤ 9466) (h1 : vp_in (i + 1) L) (h2 : vp_in (i + 2) L) (h3 : vp_in (i + 3) L) (h4 : vp_in (i + 4) L) (h5 : vp_in (i + 5) L) (rel : LR F A G B) (hPL : va_P (dC, dI) classes (wL r k F A o kO f) H) (hPM : va_P (dC, dI) classes (wM r2 k2 G B) H) (hD : va_D (fun q => s.heap.size ≤ q) (wM r2 k2 G B ++ wL r k F A o kO f)) (hS : va_S (fun q => s.heap.size ≤ q) s.heap H locs) (hl : lv_has ls 7 [(0, .ref b), (1, .ref (r 0)), (2, .ref (r2 0)), (3, .ref o), (4, .int i)])
    (next : ∀ (F : Nat → Int32) (A : Nat → Nat → Int32) (f : Nat → Int64) (G : Nat → Int32) (B : Nat → Nat → Int32) (H : Heap) (locs : List Loc) (ls : Array Slot), LR F A G B → va_P (dC, dI) classes (wL r k F A o kO f) H → va_P (dC, dI) classes (wM r2 k2 G B) H → va_D (fun q => s.heap.size ≤ q) (wM r2 k2 G B ++ wL r k F A o kO f) → va_S (fun q => s.heap.size ≤ q) s.heap H locs → lv_has ls 7 [(0, .ref b), (1, .ref (r 0)), (2, .ref (r2 0)), (3, .ref o), (4, .int i)] → W p l e room_1 s m #[Value.ref b] below meth c H locs (cells + 1) (slots + 6) Q (F0 m 896 ls [])) : W p l e room_1 s m #[Value.ref b] below meth c H locs cells slots Q (F0 m 447 ls []) := by
  obtain ⟨hx, hb, hr, hml, hown, hts, hX, hbl, hlocks, hgv⟩ := C0
  have hW : ∀ w ∈ WALL, w.before #[Value.ref b] s = true := fun w h => hts w (WALL_good w h).1
  have hA : ∀ q : Nat, s.heap.size ≤ q → (fun q : Nat => s.heap.size ≤ q) q := fun _ h => h
  have hbA : ¬ (fun q : Nat => s.heap.size ≤ q) b := Nat.not_le.mpr hbl
  have hI := rel.ci
  have hJ := rel.si
  have h_at := rel.at
  refine lv_aload_n hx hb d_law_447 rfl (lv_at hl 1 rfl) ?_
  refine lv_aload_n hx hb d_law_448 rfl (lv_at hl 0 rfl) ?_
  refine lv_iload hx hb d_law_449 (lv_at hl 4 rfl) ?_
  refine lv_iconst (v := 1) hx hb d_law_451 (by decide) ?_
  refine lv_iadd hx hb d_law_452 ?_
  refine va_sld hx hb hX hbl hbA hS h1 d_law_453 ?_
  refine lv_aload_n hx hb d_law_454 rfl (lv_at hl 0 rfl) ?_
  refine lv_iload hx hb d_law_455 (lv_at hl 4 rfl) ?_
  refine lv_iconst (v := 2) hx hb d_law_457 (by decide) ?_
  refine lv_iadd hx hb d_law_458 ?_
  refine va_sld hx hb hX hbl hbA hS h2 d_law_459 ?_
  refine lv_aload_n hx hb d_law_460 rfl (lv_at hl 3 rfl) ?_
  refine scS (rest := []) (hh := [(0, 10, 13, 19), (0, 10, 17, 21), (0, 10, 21, 27)]) (wr := wM r2 k2 G B) (wf := fun u : SL => wL r k u.2.1 u.2.2 o kO u.1) ⟨hx, hb, hml, hown, hW⟩ (c_Lw_step l hl9 dC dI r k F A o kO f _ (xs (i + 1).toNatClampNeg) (xs (i + 2).toNatClampNeg) hI) (vx_cwSW 4 hW (gInS k_390 k_391 k_345 k_392) rfl rfl rfl (by decide +kernel) ⟨Nat.le_of_ble_eq_true rfl, Nat.le_of_ble_eq_true rfl⟩) hKL hPM hPL hD hS hA hXS rfl hl.1 rfl (Nat.le_of_ble_eq_true rfl) d_law_461 ⟨hcl, hsl⟩ (fun H locs hPM hPL hD hS => ?_)
  refine lv_istore (lv' := [(5, .int ((hL cm_Lw_step f (f_RS_step F A (xs (i + 1).toNatClampNeg) (xs (i + 2).toNatClampNeg))).1)), (0, .ref b), (1, .ref (r 0)), (2, .ref (r2 0)), (3, .ref o), (4, .int i)]) hx hb d_law_464 hl (by decide) rfl (fun ls hl => ?_)
  refine lv_aload_n hx hb d_law_466 rfl (lv_at hl 3 rfl) ?_
  refine lv_aload_n hx hb d_law_467 rfl (lv_at hl 1 rfl) ?_
  refine lv_iload hx hb d_law_468 (lv_at hl 5 rfl) ?_
  refine lv_iconst (v := 1) hx hb d_law_470 (by decide) ?_
  refine lv_iadd hx hb d_law_471 ?_
  refine va_sld hx hb hX hbl hbA hS h1 d_law_472 ?_
  refine lv_aload_n hx hb d_law_473 rfl (lv_at hl 1 rfl) ?_
  refine lv_iload hx hb d_law_474 (lv_at hl 5 rfl) ?_
  refine lv_iconst (v := 2) hx hb d_law_476 (by decide) ?_
  refine lv_iadd hx hb d_law_477 ?_
  refine va_sld hx hb hX hbl hbA hS h2 d_law_478 ?_
  refine mcV (rest := []) (wr := wL r k ((hL cm_Lw_step f (f_RS_step F A (xs (i + 1).toNatClampNeg) (xs (i + 2).toNatClampNeg))).2.2.1) ((hL cm_Lw_step f (f_RS_step F A (xs (i + 1).toNatClampNeg) (xs (i + 2).toNatClampNeg))).2.2.2) o kO ((hL cm_Lw_step f (f_RS_step F A (xs (i + 1).toNatClampNeg) (xs (i + 2).toNatClampNeg))).2.1)) (wf := fun u : SC => wM r2 k2 u.1 u.2) ⟨hx, hb, hml, hown, hW⟩ (c_Mo_step l dC dI r2 k2 G B _ (xs (i + 1).toNatClampNeg) (xs (i + 2).toNatClampNeg) hJ h_at) (cwV 2 hW (gIn k_393 k_394 k_395 k_193 k_396) rfl rfl rfl (by decide +kernel) ⟨Nat.le_of_ble_eq_true rfl, Nat.le_of_ble_eq_true rfl⟩) hKM hPL hPM (dSwap hD) hS hA (va_recv hKM hPM (ci := 3) (q0 := 0) rfl rfl) rfl hl.1 rfl (Nat.le_of_ble_eq_true rfl) d_law_479 ⟨hcl, hsl⟩ (fun H locs hPL hPM hD hS => ?_)
  have hD := dSwap hD
  refine lv_istore (lv' := [(6, .int ((f_Mo_step G B (xs (i + 1).toNatClampNeg) (xs (i + 2).toNatClampNeg)).1)), (5, .int ((hL cm_Lw_step f (f_RS_step F A (xs (i + 1).toNatClampNeg) (xs (i + 2).toNatClampNeg))).1)), (0, .ref b), (1, .ref (r 0)), (2, .ref (r2 0)), (3, .ref o), (4, .int i)]) hx hb d_law_482 hl (by decide) rfl (fun ls hl => ?_)
  refine lv_goto (tgt := 896) hx hb d_law_484 (by decide) ?_
  exact next _ _ _ _ _ _ _ ls (by rw [hL_st]; exact sim_step rel (xs (i + 1).toNatClampNeg) (xs (i + 2).toNatClampNeg)) hPL hPM hD hS (lv_sub hl [2, 3, 4, 5, 6] rfl)
set_option maxHeartbeats 4000000 in
set_option maxRecDepth 100000 in
theorem case_7 {p : Program} {l : Launch} {e : Env} {s : State} {m : MethodId} {below : List Frame} {meth : Method} {c : Code} {dC : Nat → ClassId} {dI : Nat → Nat → Nat} {b L : Nat} {xs : Nat → Int32} {r : Nat → Nat} {k : Nat → ClassId} {o : Nat} {kO : ClassId} {r2 : Nat → Nat} {k2 : Nat → ClassId} (hl9 : l.stackTraces = false) (C0 : lw_At p s m meth c b L xs) (hXS : XS (fun q => s.heap.size ≤ q) s s.heap) (hKL : va_K (dC, dI) classes (tL k kO) s) (hKM : va_K (dC, dI) classes (tM k2) s) {F : Nat → Int32} {A : Nat → Nat → Int32} {f : Nat → Int64} {G : Nat → Int32} {B : Nat → Nat → Int32} {H : Heap} {locs : List Loc} {ls : Array Slot} {i : Int32} {cells slots : Nat} {Q : State → Prop} (hcl : cells + 1 ≤ 1078) (hsl : slots + 6 ≤ 9466) (h1 : vp_in (i + 1) L) (h2 : vp_in (i + 2) L) (h3 : vp_in (i + 3) L) (h4 : vp_in (i + 4) L) (h5 : vp_in (i + 5) L) (rel : LR F A G B) (hPL : va_P (dC, dI) classes (wL r k F A o kO f) H) (hPM : va_P (dC, dI) classes (wM r2 k2 G B) H) (hD : va_D (fun q => s.heap.size ≤ q) (wM r2 k2 G B ++ wL r k F A o kO f)) (hS : va_S (fun q => s.heap.size ≤ q) s.heap H locs) (hl : lv_has ls 7 [(0, .ref b), (1, .ref (r 0)), (2, .ref (r2 0)), (3, .ref o), (4, .int i)])
    (next : ∀ (F : Nat → Int32) (A : Nat → Nat → Int32) (f : Nat → Int64) (G : Nat → Int32) (B : Nat → Nat → Int32) (H : Heap) (locs : List Loc) (ls : Array Slot), LR F A G B → va_P (dC, dI) classes (wL r k F A o kO f) H → va_P (dC, dI) classes (wM r2 k2 G B) H → va_D (fun q => s.heap.size ≤ q) (wM r2 k2 G B ++ wL r k F A o kO f) → va_S (fun q => s.heap.size ≤ q) s.heap H locs → lv_has ls 7 [(0, .ref b), (1, .ref (r 0)), (2, .ref (r2 0)), (3, .ref o), (4, .int i)] → W p l e room_1 s m #[Value.ref b] below meth c H locs (cells + 1) (slots + 6) Q (F0 m 896 ls [])) : W p l e room_1 s m #[Value.ref b] below meth c H locs cells slots Q (F0 m 487 ls []) := by
  obtain ⟨hx, hb, hr, hml, hown, hts, hX, hbl, hlocks, hgv⟩ := C0
  have hW : ∀ w ∈ WALL, w.before #[Value.ref b] s = true := fun w h => hts w (WALL_good w h).1
  have hA : ∀ q : Nat, s.heap.size ≤ q → (fun q : Nat => s.heap.size ≤ q) q := fun _ h => h
  have hbA : ¬ (fun q : Nat => s.heap.size ≤ q) b := Nat.not_le.mpr hbl
  have hI := rel.ci
  have hJ := rel.si
  have h_at := rel.at
  refine lv_aload_n hx hb d_law_487 rfl (lv_at hl 1 rfl) ?_
  refine lv_aload_n hx hb d_law_488 rfl (lv_at hl 0 rfl) ?_
  refine lv_iload hx hb d_law_489 (lv_at hl 4 rfl) ?_
  refine lv_iconst (v := 1) hx hb d_law_491 (by decide) ?_
  refine lv_iadd hx hb d_law_492 ?_
  refine va_sld hx hb hX hbl hbA hS h1 d_law_493 ?_
  refine lv_aload_n hx hb d_law_494 rfl (lv_at hl 3 rfl) ?_
  refine scS (rest := []) (hh := [(0, 9, 12, 19), (0, 9, 15, 27)]) (wr := wM r2 k2 G B) (wf := fun u : SL => wL r k u.2.1 u.2.2 o kO u.1) ⟨hx, hb, hml, hown, hW⟩ (c_Lw_pull l hl9 dC dI r k F A o kO f _ (xs (i + 1).toNatClampNeg) hI) (vx_cwSW 3 hW (gInS k_397 k_398 k_345 k_399) rfl rfl rfl (by decide +kernel) ⟨Nat.le_of_ble_eq_true rfl, Nat.le_of_ble_eq_true rfl⟩) hKL hPM hPL hD hS hA hXS rfl hl.1 rfl (Nat.le_of_ble_eq_true rfl) d_law_495 ⟨hcl, hsl⟩ (fun H locs hPM hPL hD hS => ?_)
  refine lv_istore (lv' := [(5, .int ((hL cm_Lw_pull f (f_RS_pull F A (xs (i + 1).toNatClampNeg))).1)), (0, .ref b), (1, .ref (r 0)), (2, .ref (r2 0)), (3, .ref o), (4, .int i)]) hx hb d_law_498 hl (by decide) rfl (fun ls hl => ?_)
  refine lv_aload_n hx hb d_law_500 rfl (lv_at hl 3 rfl) ?_
  refine lv_aload_n hx hb d_law_501 rfl (lv_at hl 1 rfl) ?_
  refine lv_iload hx hb d_law_502 (lv_at hl 5 rfl) ?_
  refine lv_iconst (v := 1) hx hb d_law_504 (by decide) ?_
  refine lv_iadd hx hb d_law_505 ?_
  refine va_sld hx hb hX hbl hbA hS h1 d_law_506 ?_
  refine mcV (rest := []) (wr := wL r k ((hL cm_Lw_pull f (f_RS_pull F A (xs (i + 1).toNatClampNeg))).2.2.1) ((hL cm_Lw_pull f (f_RS_pull F A (xs (i + 1).toNatClampNeg))).2.2.2) o kO ((hL cm_Lw_pull f (f_RS_pull F A (xs (i + 1).toNatClampNeg))).2.1)) (wf := fun u : SC => wM r2 k2 u.1 u.2) ⟨hx, hb, hml, hown, hW⟩ (c_Mo_pull l dC dI r2 k2 G B _ (xs (i + 1).toNatClampNeg) hJ) (cwV 1 hW (gIn k_400 k_401 k_402 k_193 k_403) rfl rfl rfl (by decide +kernel) ⟨Nat.le_of_ble_eq_true rfl, Nat.le_of_ble_eq_true rfl⟩) hKM hPL hPM (dSwap hD) hS hA (va_recv hKM hPM (ci := 3) (q0 := 0) rfl rfl) rfl hl.1 rfl (Nat.le_of_ble_eq_true rfl) d_law_507 ⟨hcl, hsl⟩ (fun H locs hPL hPM hD hS => ?_)
  have hD := dSwap hD
  refine lv_istore (lv' := [(6, .int ((f_Mo_pull G B (xs (i + 1).toNatClampNeg)).1)), (5, .int ((hL cm_Lw_pull f (f_RS_pull F A (xs (i + 1).toNatClampNeg))).1)), (0, .ref b), (1, .ref (r 0)), (2, .ref (r2 0)), (3, .ref o), (4, .int i)]) hx hb d_law_510 hl (by decide) rfl (fun ls hl => ?_)
  refine lv_goto (tgt := 896) hx hb d_law_512 (by decide) ?_
  exact next _ _ _ _ _ _ _ ls (by rw [hL_st]; exact sim_pull rel (xs (i + 1).toNatClampNeg)) hPL hPM hD hS (lv_sub hl [2, 3, 4, 5, 6] rfl)
set_option maxHeartbeats 4000000 in
set_option maxRecDepth 100000 in
theorem case_8 {p : Program} {l : Launch} {e : Env} {s : State} {m : MethodId} {below : List Frame} {meth : Method} {c : Code} {dC : Nat → ClassId} {dI : Nat → Nat → Nat} {b L : Nat} {xs : Nat → Int32} {r : Nat → Nat} {k : Nat → ClassId} {o : Nat} {kO : ClassId} {r2 : Nat → Nat} {k2 : Nat → ClassId} (hl9 : l.stackTraces = false) (C0 : lw_At p s m meth c b L xs) (hXS : XS (fun q => s.heap.size ≤ q) s s.heap) (hKL : va_K (dC, dI) classes (tL k kO) s) (hKM : va_K (dC, dI) classes (tM k2) s) {F : Nat → Int32} {A : Nat → Nat → Int32} {f : Nat → Int64} {G : Nat → Int32} {B : Nat → Nat → Int32} {H : Heap} {locs : List Loc} {ls : Array Slot} {i : Int32} {cells slots : Nat} {Q : State → Prop} (hcl : cells + 1 ≤ 1078) (hsl : slots + 6 ≤ 9466) (h1 : vp_in (i + 1) L) (h2 : vp_in (i + 2) L) (h3 : vp_in (i + 3) L) (h4 : vp_in (i + 4) L) (h5 : vp_in (i + 5) L) (rel : LR F A G B) (hPL : va_P (dC, dI) classes (wL r k F A o kO f) H) (hPM : va_P (dC, dI) classes (wM r2 k2 G B) H) (hD : va_D (fun q => s.heap.size ≤ q) (wM r2 k2 G B ++ wL r k F A o kO f)) (hS : va_S (fun q => s.heap.size ≤ q) s.heap H locs) (hl : lv_has ls 7 [(0, .ref b), (1, .ref (r 0)), (2, .ref (r2 0)), (3, .ref o), (4, .int i)])
    (next : ∀ (F : Nat → Int32) (A : Nat → Nat → Int32) (f : Nat → Int64) (G : Nat → Int32) (B : Nat → Nat → Int32) (H : Heap) (locs : List Loc) (ls : Array Slot), LR F A G B → va_P (dC, dI) classes (wL r k F A o kO f) H → va_P (dC, dI) classes (wM r2 k2 G B) H → va_D (fun q => s.heap.size ≤ q) (wM r2 k2 G B ++ wL r k F A o kO f) → va_S (fun q => s.heap.size ≤ q) s.heap H locs → lv_has ls 7 [(0, .ref b), (1, .ref (r 0)), (2, .ref (r2 0)), (3, .ref o), (4, .int i)] → W p l e room_1 s m #[Value.ref b] below meth c H locs (cells + 1) (slots + 6) Q (F0 m 896 ls [])) : W p l e room_1 s m #[Value.ref b] below meth c H locs cells slots Q (F0 m 515 ls []) := by
  obtain ⟨hx, hb, hr, hml, hown, hts, hX, hbl, hlocks, hgv⟩ := C0
  have hW : ∀ w ∈ WALL, w.before #[Value.ref b] s = true := fun w h => hts w (WALL_good w h).1
  have hA : ∀ q : Nat, s.heap.size ≤ q → (fun q : Nat => s.heap.size ≤ q) q := fun _ h => h
  have hbA : ¬ (fun q : Nat => s.heap.size ≤ q) b := Nat.not_le.mpr hbl
  have hI := rel.ci
  have hJ := rel.si
  have h_at := rel.at
  refine lv_aload_n hx hb d_law_515 rfl (lv_at hl 1 rfl) ?_
  refine lv_aload_n hx hb d_law_516 rfl (lv_at hl 0 rfl) ?_
  refine lv_iload hx hb d_law_517 (lv_at hl 4 rfl) ?_
  refine lv_iconst (v := 1) hx hb d_law_519 (by decide) ?_
  refine lv_iadd hx hb d_law_520 ?_
  refine va_sld hx hb hX hbl hbA hS h1 d_law_521 ?_
  refine lv_aload_n hx hb d_law_522 rfl (lv_at hl 0 rfl) ?_
  refine lv_iload hx hb d_law_523 (lv_at hl 4 rfl) ?_
  refine lv_iconst (v := 2) hx hb d_law_525 (by decide) ?_
  refine lv_iadd hx hb d_law_526 ?_
  refine va_sld hx hb hX hbl hbA hS h2 d_law_527 ?_
  refine lv_aload_n hx hb d_law_528 rfl (lv_at hl 3 rfl) ?_
  refine scS (rest := []) (hh := [(0, 10, 13, 19), (0, 10, 17, 27)]) (wr := wM r2 k2 G B) (wf := fun u : SL => wL r k u.2.1 u.2.2 o kO u.1) ⟨hx, hb, hml, hown, hW⟩ (c_Lw_await l hl9 dC dI r k F A o kO f _ (xs (i + 1).toNatClampNeg) (xs (i + 2).toNatClampNeg) hI) (vx_cwSW 4 hW (gInS k_404 k_405 k_345 k_406) rfl rfl rfl (by decide +kernel) ⟨Nat.le_of_ble_eq_true rfl, Nat.le_of_ble_eq_true rfl⟩) hKL hPM hPL hD hS hA hXS rfl hl.1 rfl (Nat.le_of_ble_eq_true rfl) d_law_529 ⟨hcl, hsl⟩ (fun H locs hPM hPL hD hS => ?_)
  refine lv_istore (lv' := [(5, .int ((hL cm_Lw_await f (f_RS_await F A (xs (i + 1).toNatClampNeg) (xs (i + 2).toNatClampNeg))).1)), (0, .ref b), (1, .ref (r 0)), (2, .ref (r2 0)), (3, .ref o), (4, .int i)]) hx hb d_law_532 hl (by decide) rfl (fun ls hl => ?_)
  refine lv_aload_n hx hb d_law_534 rfl (lv_at hl 3 rfl) ?_
  refine lv_aload_n hx hb d_law_535 rfl (lv_at hl 1 rfl) ?_
  refine lv_iload hx hb d_law_536 (lv_at hl 5 rfl) ?_
  refine lv_iconst (v := 1) hx hb d_law_538 (by decide) ?_
  refine lv_iadd hx hb d_law_539 ?_
  refine va_sld hx hb hX hbl hbA hS h1 d_law_540 ?_
  refine lv_aload_n hx hb d_law_541 rfl (lv_at hl 1 rfl) ?_
  refine lv_iload hx hb d_law_542 (lv_at hl 5 rfl) ?_
  refine lv_iconst (v := 2) hx hb d_law_544 (by decide) ?_
  refine lv_iadd hx hb d_law_545 ?_
  refine va_sld hx hb hX hbl hbA hS h2 d_law_546 ?_
  refine mcV (rest := []) (wr := wL r k ((hL cm_Lw_await f (f_RS_await F A (xs (i + 1).toNatClampNeg) (xs (i + 2).toNatClampNeg))).2.2.1) ((hL cm_Lw_await f (f_RS_await F A (xs (i + 1).toNatClampNeg) (xs (i + 2).toNatClampNeg))).2.2.2) o kO ((hL cm_Lw_await f (f_RS_await F A (xs (i + 1).toNatClampNeg) (xs (i + 2).toNatClampNeg))).2.1)) (wf := fun u : SC => wM r2 k2 u.1 u.2) ⟨hx, hb, hml, hown, hW⟩ (c_Mo_await l dC dI r2 k2 G B _ (xs (i + 1).toNatClampNeg) (xs (i + 2).toNatClampNeg) hJ) (cwV 2 hW (gIn k_407 k_408 k_409 k_193 k_410) rfl rfl rfl (by decide +kernel) ⟨Nat.le_of_ble_eq_true rfl, Nat.le_of_ble_eq_true rfl⟩) hKM hPL hPM (dSwap hD) hS hA (va_recv hKM hPM (ci := 3) (q0 := 0) rfl rfl) rfl hl.1 rfl (Nat.le_of_ble_eq_true rfl) d_law_547 ⟨hcl, hsl⟩ (fun H locs hPL hPM hD hS => ?_)
  have hD := dSwap hD
  refine lv_istore (lv' := [(6, .int ((f_Mo_await G B (xs (i + 1).toNatClampNeg) (xs (i + 2).toNatClampNeg)).1)), (5, .int ((hL cm_Lw_await f (f_RS_await F A (xs (i + 1).toNatClampNeg) (xs (i + 2).toNatClampNeg))).1)), (0, .ref b), (1, .ref (r 0)), (2, .ref (r2 0)), (3, .ref o), (4, .int i)]) hx hb d_law_550 hl (by decide) rfl (fun ls hl => ?_)
  refine lv_goto (tgt := 896) hx hb d_law_552 (by decide) ?_
  exact next _ _ _ _ _ _ _ ls (by rw [hL_st]; exact sim_await rel (xs (i + 1).toNatClampNeg) (xs (i + 2).toNatClampNeg)) hPL hPM hD hS (lv_sub hl [2, 3, 4, 5, 6] rfl)
set_option maxHeartbeats 4000000 in
set_option maxRecDepth 100000 in
theorem case_9 {p : Program} {l : Launch} {e : Env} {s : State} {m : MethodId} {below : List Frame} {meth : Method} {c : Code} {dC : Nat → ClassId} {dI : Nat → Nat → Nat} {b L : Nat} {xs : Nat → Int32} {r : Nat → Nat} {k : Nat → ClassId} {o : Nat} {kO : ClassId} {r2 : Nat → Nat} {k2 : Nat → ClassId} (hl9 : l.stackTraces = false) (C0 : lw_At p s m meth c b L xs) (hXS : XS (fun q => s.heap.size ≤ q) s s.heap) (hKL : va_K (dC, dI) classes (tL k kO) s) (hKM : va_K (dC, dI) classes (tM k2) s) {F : Nat → Int32} {A : Nat → Nat → Int32} {f : Nat → Int64} {G : Nat → Int32} {B : Nat → Nat → Int32} {H : Heap} {locs : List Loc} {ls : Array Slot} {i : Int32} {cells slots : Nat} {Q : State → Prop} (hcl : cells + 1 ≤ 1078) (hsl : slots + 6 ≤ 9466) (h1 : vp_in (i + 1) L) (h2 : vp_in (i + 2) L) (h3 : vp_in (i + 3) L) (h4 : vp_in (i + 4) L) (h5 : vp_in (i + 5) L) (rel : LR F A G B) (hPL : va_P (dC, dI) classes (wL r k F A o kO f) H) (hPM : va_P (dC, dI) classes (wM r2 k2 G B) H) (hD : va_D (fun q => s.heap.size ≤ q) (wM r2 k2 G B ++ wL r k F A o kO f)) (hS : va_S (fun q => s.heap.size ≤ q) s.heap H locs) (hl : lv_has ls 7 [(0, .ref b), (1, .ref (r 0)), (2, .ref (r2 0)), (3, .ref o), (4, .int i)])
    (next : ∀ (F : Nat → Int32) (A : Nat → Nat → Int32) (f : Nat → Int64) (G : Nat → Int32) (B : Nat → Nat → Int32) (H : Heap) (locs : List Loc) (ls : Array Slot), LR F A G B → va_P (dC, dI) classes (wL r k F A o kO f) H → va_P (dC, dI) classes (wM r2 k2 G B) H → va_D (fun q => s.heap.size ≤ q) (wM r2 k2 G B ++ wL r k F A o kO f) → va_S (fun q => s.heap.size ≤ q) s.heap H locs → lv_has ls 7 [(0, .ref b), (1, .ref (r 0)), (2, .ref (r2 0)), (3, .ref o), (4, .int i)] → W p l e room_1 s m #[Value.ref b] below meth c H locs (cells + 1) (slots + 6) Q (F0 m 896 ls [])) : W p l e room_1 s m #[Value.ref b] below meth c H locs cells slots Q (F0 m 555 ls []) := by
  obtain ⟨hx, hb, hr, hml, hown, hts, hX, hbl, hlocks, hgv⟩ := C0
  have hW : ∀ w ∈ WALL, w.before #[Value.ref b] s = true := fun w h => hts w (WALL_good w h).1
  have hA : ∀ q : Nat, s.heap.size ≤ q → (fun q : Nat => s.heap.size ≤ q) q := fun _ h => h
  have hbA : ¬ (fun q : Nat => s.heap.size ≤ q) b := Nat.not_le.mpr hbl
  have hI := rel.ci
  have hJ := rel.si
  have h_at := rel.at
  refine lv_aload_n hx hb d_law_555 rfl (lv_at hl 1 rfl) ?_
  refine lv_aload_n hx hb d_law_556 rfl (lv_at hl 0 rfl) ?_
  refine lv_iload hx hb d_law_557 (lv_at hl 4 rfl) ?_
  refine lv_iconst (v := 1) hx hb d_law_559 (by decide) ?_
  refine lv_iadd hx hb d_law_560 ?_
  refine va_sld hx hb hX hbl hbA hS h1 d_law_561 ?_
  refine lv_aload_n hx hb d_law_562 rfl (lv_at hl 3 rfl) ?_
  refine scS (rest := []) (hh := [(0, 9, 12, 19)]) (wr := wM r2 k2 G B) (wf := fun u : SL => wL r k u.2.1 u.2.2 o kO u.1) ⟨hx, hb, hml, hown, hW⟩ (c_Lw_next l hl9 dC dI r k F A o kO f _ (xs (i + 1).toNatClampNeg) hI) (vx_cwSW 3 hW (gInS k_411 k_412 k_345 k_413) rfl rfl rfl (by decide +kernel) ⟨Nat.le_of_ble_eq_true rfl, Nat.le_of_ble_eq_true rfl⟩) hKL hPM hPL hD hS hA hXS rfl hl.1 rfl (Nat.le_of_ble_eq_true rfl) d_law_563 ⟨hcl, hsl⟩ (fun H locs hPM hPL hD hS => ?_)
  refine lv_istore (lv' := [(5, .int ((hL cm_Lw_next f (f_RS_next F A (xs (i + 1).toNatClampNeg))).1)), (0, .ref b), (1, .ref (r 0)), (2, .ref (r2 0)), (3, .ref o), (4, .int i)]) hx hb d_law_566 hl (by decide) rfl (fun ls hl => ?_)
  refine lv_aload_n hx hb d_law_568 rfl (lv_at hl 3 rfl) ?_
  refine lv_aload_n hx hb d_law_569 rfl (lv_at hl 1 rfl) ?_
  refine lv_iload hx hb d_law_570 (lv_at hl 5 rfl) ?_
  refine lv_iconst (v := 1) hx hb d_law_572 (by decide) ?_
  refine lv_iadd hx hb d_law_573 ?_
  refine va_sld hx hb hX hbl hbA hS h1 d_law_574 ?_
  refine mcV (rest := []) (wr := wL r k ((hL cm_Lw_next f (f_RS_next F A (xs (i + 1).toNatClampNeg))).2.2.1) ((hL cm_Lw_next f (f_RS_next F A (xs (i + 1).toNatClampNeg))).2.2.2) o kO ((hL cm_Lw_next f (f_RS_next F A (xs (i + 1).toNatClampNeg))).2.1)) (wf := fun u : SC => wM r2 k2 u.1 u.2) ⟨hx, hb, hml, hown, hW⟩ (c_Mo_next l dC dI r2 k2 G B _ (xs (i + 1).toNatClampNeg) hJ) (cwV 1 hW (gIn k_414 k_415 k_416 k_193 k_417) rfl rfl rfl (by decide +kernel) ⟨Nat.le_of_ble_eq_true rfl, Nat.le_of_ble_eq_true rfl⟩) hKM hPL hPM (dSwap hD) hS hA (va_recv hKM hPM (ci := 3) (q0 := 0) rfl rfl) rfl hl.1 rfl (Nat.le_of_ble_eq_true rfl) d_law_575 ⟨hcl, hsl⟩ (fun H locs hPL hPM hD hS => ?_)
  have hD := dSwap hD
  refine lv_istore (lv' := [(6, .int ((f_Mo_next G B (xs (i + 1).toNatClampNeg)).1)), (5, .int ((hL cm_Lw_next f (f_RS_next F A (xs (i + 1).toNatClampNeg))).1)), (0, .ref b), (1, .ref (r 0)), (2, .ref (r2 0)), (3, .ref o), (4, .int i)]) hx hb d_law_578 hl (by decide) rfl (fun ls hl => ?_)
  refine lv_goto (tgt := 896) hx hb d_law_580 (by decide) ?_
  exact next _ _ _ _ _ _ _ ls (by rw [hL_st]; exact sim_next rel (xs (i + 1).toNatClampNeg)) hPL hPM hD hS (lv_sub hl [2, 3, 4, 5, 6] rfl)
set_option maxHeartbeats 4000000 in
set_option maxRecDepth 100000 in
theorem case_10 {p : Program} {l : Launch} {e : Env} {s : State} {m : MethodId} {below : List Frame} {meth : Method} {c : Code} {dC : Nat → ClassId} {dI : Nat → Nat → Nat} {b L : Nat} {xs : Nat → Int32} {r : Nat → Nat} {k : Nat → ClassId} {o : Nat} {kO : ClassId} {r2 : Nat → Nat} {k2 : Nat → ClassId} (hl9 : l.stackTraces = false) (C0 : lw_At p s m meth c b L xs) (hXS : XS (fun q => s.heap.size ≤ q) s s.heap) (hKL : va_K (dC, dI) classes (tL k kO) s) (hKM : va_K (dC, dI) classes (tM k2) s) {F : Nat → Int32} {A : Nat → Nat → Int32} {f : Nat → Int64} {G : Nat → Int32} {B : Nat → Nat → Int32} {H : Heap} {locs : List Loc} {ls : Array Slot} {i : Int32} {cells slots : Nat} {Q : State → Prop} (hcl : cells + 1 ≤ 1078) (hsl : slots + 6 ≤ 9466) (h1 : vp_in (i + 1) L) (h2 : vp_in (i + 2) L) (h3 : vp_in (i + 3) L) (h4 : vp_in (i + 4) L) (h5 : vp_in (i + 5) L) (rel : LR F A G B) (hPL : va_P (dC, dI) classes (wL r k F A o kO f) H) (hPM : va_P (dC, dI) classes (wM r2 k2 G B) H) (hD : va_D (fun q => s.heap.size ≤ q) (wM r2 k2 G B ++ wL r k F A o kO f)) (hS : va_S (fun q => s.heap.size ≤ q) s.heap H locs) (hl : lv_has ls 7 [(0, .ref b), (1, .ref (r 0)), (2, .ref (r2 0)), (3, .ref o), (4, .int i)])
    (next : ∀ (F : Nat → Int32) (A : Nat → Nat → Int32) (f : Nat → Int64) (G : Nat → Int32) (B : Nat → Nat → Int32) (H : Heap) (locs : List Loc) (ls : Array Slot), LR F A G B → va_P (dC, dI) classes (wL r k F A o kO f) H → va_P (dC, dI) classes (wM r2 k2 G B) H → va_D (fun q => s.heap.size ≤ q) (wM r2 k2 G B ++ wL r k F A o kO f) → va_S (fun q => s.heap.size ≤ q) s.heap H locs → lv_has ls 7 [(0, .ref b), (1, .ref (r 0)), (2, .ref (r2 0)), (3, .ref o), (4, .int i)] → W p l e room_1 s m #[Value.ref b] below meth c H locs (cells + 1) (slots + 6) Q (F0 m 896 ls [])) : W p l e room_1 s m #[Value.ref b] below meth c H locs cells slots Q (F0 m 583 ls []) := by
  obtain ⟨hx, hb, hr, hml, hown, hts, hX, hbl, hlocks, hgv⟩ := C0
  have hW : ∀ w ∈ WALL, w.before #[Value.ref b] s = true := fun w h => hts w (WALL_good w h).1
  have hA : ∀ q : Nat, s.heap.size ≤ q → (fun q : Nat => s.heap.size ≤ q) q := fun _ h => h
  have hbA : ¬ (fun q : Nat => s.heap.size ≤ q) b := Nat.not_le.mpr hbl
  have hI := rel.ci
  have hJ := rel.si
  have h_at := rel.at
  refine lv_aload_n hx hb d_law_583 rfl (lv_at hl 1 rfl) ?_
  refine lv_aload_n hx hb d_law_584 rfl (lv_at hl 0 rfl) ?_
  refine lv_iload hx hb d_law_585 (lv_at hl 4 rfl) ?_
  refine lv_iconst (v := 1) hx hb d_law_587 (by decide) ?_
  refine lv_iadd hx hb d_law_588 ?_
  refine va_sld hx hb hX hbl hbA hS h1 d_law_589 ?_
  refine lv_aload_n hx hb d_law_590 rfl (lv_at hl 0 rfl) ?_
  refine lv_iload hx hb d_law_591 (lv_at hl 4 rfl) ?_
  refine lv_iconst (v := 2) hx hb d_law_593 (by decide) ?_
  refine lv_iadd hx hb d_law_594 ?_
  refine va_sld hx hb hX hbl hbA hS h2 d_law_595 ?_
  refine lv_if_eq (tgt := 603) hx hb d_law_596 (by decide) (fun e_5 => ?_) (fun e_5 => ?_)
  · refine lv_iconst (v := 0) hx hb d_law_603 (by decide) ?_
    refine lv_aload_n hx hb d_law_604 rfl (lv_at hl 3 rfl) ?_
    refine scS (rest := []) (hh := [(0, 10, 13, 19), (0, 10, 17, 27)]) (wr := wM r2 k2 G B) (wf := fun u : SL => wL r k u.2.1 u.2.2 o kO u.1) ⟨hx, hb, hml, hown, hW⟩ (c_Lw_zone l hl9 dC dI r k F A o kO f _ (xs (i + 1).toNatClampNeg) 0 hI) (vx_cwSW 4 hW (gInS k_418 k_419 k_345 k_420) rfl rfl rfl (by decide +kernel) ⟨Nat.le_of_ble_eq_true rfl, Nat.le_of_ble_eq_true rfl⟩) hKL hPM hPL hD hS hA hXS rfl hl.1 rfl (Nat.le_of_ble_eq_true rfl) d_law_605 ⟨hcl, hsl⟩ (fun H locs hPM hPL hD hS => ?_)
    refine lv_istore (lv' := [(5, .int ((hL cm_Lw_zone f (f_RS_zone F A (xs (i + 1).toNatClampNeg) 0)).1)), (0, .ref b), (1, .ref (r 0)), (2, .ref (r2 0)), (3, .ref o), (4, .int i)]) hx hb d_law_608 hl (by decide) rfl (fun ls hl => ?_)
    refine lv_aload_n hx hb d_law_610 rfl (lv_at hl 3 rfl) ?_
    refine lv_aload_n hx hb d_law_611 rfl (lv_at hl 1 rfl) ?_
    refine lv_iload hx hb d_law_612 (lv_at hl 5 rfl) ?_
    refine lv_iconst (v := 1) hx hb d_law_614 (by decide) ?_
    refine lv_iadd hx hb d_law_615 ?_
    refine va_sld hx hb hX hbl hbA hS h1 d_law_616 ?_
    refine lv_aload_n hx hb d_law_617 rfl (lv_at hl 1 rfl) ?_
    refine lv_iload hx hb d_law_618 (lv_at hl 5 rfl) ?_
    refine lv_iconst (v := 2) hx hb d_law_620 (by decide) ?_
    refine lv_iadd hx hb d_law_621 ?_
    refine va_sld hx hb hX hbl hbA hS h2 d_law_622 ?_
    refine lv_if_eq (tgt := 630) hx hb d_law_623 (by decide) (fun _ => ?_) (fun h9 => absurd e_5 h9)
    refine lv_iconst (v := 0) hx hb d_law_630 (by decide) ?_
    refine mcV (rest := []) (wr := wL r k ((hL cm_Lw_zone f (f_RS_zone F A (xs (i + 1).toNatClampNeg) 0)).2.2.1) ((hL cm_Lw_zone f (f_RS_zone F A (xs (i + 1).toNatClampNeg) 0)).2.2.2) o kO ((hL cm_Lw_zone f (f_RS_zone F A (xs (i + 1).toNatClampNeg) 0)).2.1)) (wf := fun u : SC => wM r2 k2 u.1 u.2) ⟨hx, hb, hml, hown, hW⟩ (c_Mo_zone l dC dI r2 k2 G B _ (xs (i + 1).toNatClampNeg) 0 hJ) (cwV 2 hW (gIn k_421 k_422 k_423 k_193 k_424) rfl rfl rfl (by decide +kernel) ⟨Nat.le_of_ble_eq_true rfl, Nat.le_of_ble_eq_true rfl⟩) hKM hPL hPM (dSwap hD) hS hA (va_recv hKM hPM (ci := 3) (q0 := 0) rfl rfl) rfl hl.1 rfl (Nat.le_of_ble_eq_true rfl) d_law_631 ⟨hcl, hsl⟩ (fun H locs hPL hPM hD hS => ?_)
    have hD := dSwap hD
    refine lv_istore (lv' := [(6, .int ((f_Mo_zone G B (xs (i + 1).toNatClampNeg) 0).1)), (5, .int ((hL cm_Lw_zone f (f_RS_zone F A (xs (i + 1).toNatClampNeg) 0)).1)), (0, .ref b), (1, .ref (r 0)), (2, .ref (r2 0)), (3, .ref o), (4, .int i)]) hx hb d_law_634 hl (by decide) rfl (fun ls hl => ?_)
    refine lv_goto (tgt := 896) hx hb d_law_636 (by decide) ?_
    exact next _ _ _ _ _ _ _ ls (by rw [hL_st]; exact sim_zone rel (xs (i + 1).toNatClampNeg) 0) hPL hPM hD hS (lv_sub hl [2, 3, 4, 5, 6] rfl)
  · refine lv_iconst (v := 1) hx hb d_law_599 (by decide) ?_
    refine lv_goto (tgt := 604) hx hb d_law_600 (by decide) ?_
    refine lv_aload_n hx hb d_law_604 rfl (lv_at hl 3 rfl) ?_
    refine scS (rest := []) (hh := [(0, 10, 13, 19), (0, 10, 17, 27)]) (wr := wM r2 k2 G B) (wf := fun u : SL => wL r k u.2.1 u.2.2 o kO u.1) ⟨hx, hb, hml, hown, hW⟩ (c_Lw_zone l hl9 dC dI r k F A o kO f _ (xs (i + 1).toNatClampNeg) 1 hI) (vx_cwSW 4 hW (gInS k_418 k_419 k_345 k_420) rfl rfl rfl (by decide +kernel) ⟨Nat.le_of_ble_eq_true rfl, Nat.le_of_ble_eq_true rfl⟩) hKL hPM hPL hD hS hA hXS rfl hl.1 rfl (Nat.le_of_ble_eq_true rfl) d_law_605 ⟨hcl, hsl⟩ (fun H locs hPM hPL hD hS => ?_)
    refine lv_istore (lv' := [(5, .int ((hL cm_Lw_zone f (f_RS_zone F A (xs (i + 1).toNatClampNeg) 1)).1)), (0, .ref b), (1, .ref (r 0)), (2, .ref (r2 0)), (3, .ref o), (4, .int i)]) hx hb d_law_608 hl (by decide) rfl (fun ls hl => ?_)
    refine lv_aload_n hx hb d_law_610 rfl (lv_at hl 3 rfl) ?_
    refine lv_aload_n hx hb d_law_611 rfl (lv_at hl 1 rfl) ?_
    refine lv_iload hx hb d_law_612 (lv_at hl 5 rfl) ?_
    refine lv_iconst (v := 1) hx hb d_law_614 (by decide) ?_
    refine lv_iadd hx hb d_law_615 ?_
    refine va_sld hx hb hX hbl hbA hS h1 d_law_616 ?_
    refine lv_aload_n hx hb d_law_617 rfl (lv_at hl 1 rfl) ?_
    refine lv_iload hx hb d_law_618 (lv_at hl 5 rfl) ?_
    refine lv_iconst (v := 2) hx hb d_law_620 (by decide) ?_
    refine lv_iadd hx hb d_law_621 ?_
    refine va_sld hx hb hX hbl hbA hS h2 d_law_622 ?_
    refine lv_if_eq (tgt := 630) hx hb d_law_623 (by decide) (fun h9 => absurd h9 e_5) (fun _ => ?_)
    refine lv_iconst (v := 1) hx hb d_law_626 (by decide) ?_
    refine lv_goto (tgt := 631) hx hb d_law_627 (by decide) ?_
    refine mcV (rest := []) (wr := wL r k ((hL cm_Lw_zone f (f_RS_zone F A (xs (i + 1).toNatClampNeg) 1)).2.2.1) ((hL cm_Lw_zone f (f_RS_zone F A (xs (i + 1).toNatClampNeg) 1)).2.2.2) o kO ((hL cm_Lw_zone f (f_RS_zone F A (xs (i + 1).toNatClampNeg) 1)).2.1)) (wf := fun u : SC => wM r2 k2 u.1 u.2) ⟨hx, hb, hml, hown, hW⟩ (c_Mo_zone l dC dI r2 k2 G B _ (xs (i + 1).toNatClampNeg) 1 hJ) (cwV 2 hW (gIn k_421 k_422 k_423 k_193 k_424) rfl rfl rfl (by decide +kernel) ⟨Nat.le_of_ble_eq_true rfl, Nat.le_of_ble_eq_true rfl⟩) hKM hPL hPM (dSwap hD) hS hA (va_recv hKM hPM (ci := 3) (q0 := 0) rfl rfl) rfl hl.1 rfl (Nat.le_of_ble_eq_true rfl) d_law_631 ⟨hcl, hsl⟩ (fun H locs hPL hPM hD hS => ?_)
    have hD := dSwap hD
    refine lv_istore (lv' := [(6, .int ((f_Mo_zone G B (xs (i + 1).toNatClampNeg) 1).1)), (5, .int ((hL cm_Lw_zone f (f_RS_zone F A (xs (i + 1).toNatClampNeg) 1)).1)), (0, .ref b), (1, .ref (r 0)), (2, .ref (r2 0)), (3, .ref o), (4, .int i)]) hx hb d_law_634 hl (by decide) rfl (fun ls hl => ?_)
    refine lv_goto (tgt := 896) hx hb d_law_636 (by decide) ?_
    exact next _ _ _ _ _ _ _ ls (by rw [hL_st]; exact sim_zone rel (xs (i + 1).toNatClampNeg) 1) hPL hPM hD hS (lv_sub hl [2, 3, 4, 5, 6] rfl)
set_option maxHeartbeats 4000000 in
set_option maxRecDepth 100000 in
theorem case_11 {p : Program} {l : Launch} {e : Env} {s : State} {m : MethodId} {below : List Frame} {meth : Method} {c : Code} {dC : Nat → ClassId} {dI : Nat → Nat → Nat} {b L : Nat} {xs : Nat → Int32} {r : Nat → Nat} {k : Nat → ClassId} {o : Nat} {kO : ClassId} {r2 : Nat → Nat} {k2 : Nat → ClassId} (hl9 : l.stackTraces = false) (C0 : lw_At p s m meth c b L xs) (hXS : XS (fun q => s.heap.size ≤ q) s s.heap) (hKL : va_K (dC, dI) classes (tL k kO) s) (hKM : va_K (dC, dI) classes (tM k2) s) {F : Nat → Int32} {A : Nat → Nat → Int32} {f : Nat → Int64} {G : Nat → Int32} {B : Nat → Nat → Int32} {H : Heap} {locs : List Loc} {ls : Array Slot} {i : Int32} {cells slots : Nat} {Q : State → Prop} (hcl : cells + 1 ≤ 1078) (hsl : slots + 6 ≤ 9466) (h1 : vp_in (i + 1) L) (h2 : vp_in (i + 2) L) (h3 : vp_in (i + 3) L) (h4 : vp_in (i + 4) L) (h5 : vp_in (i + 5) L) (rel : LR F A G B) (hPL : va_P (dC, dI) classes (wL r k F A o kO f) H) (hPM : va_P (dC, dI) classes (wM r2 k2 G B) H) (hD : va_D (fun q => s.heap.size ≤ q) (wM r2 k2 G B ++ wL r k F A o kO f)) (hS : va_S (fun q => s.heap.size ≤ q) s.heap H locs) (hl : lv_has ls 7 [(0, .ref b), (1, .ref (r 0)), (2, .ref (r2 0)), (3, .ref o), (4, .int i)])
    (next : ∀ (F : Nat → Int32) (A : Nat → Nat → Int32) (f : Nat → Int64) (G : Nat → Int32) (B : Nat → Nat → Int32) (H : Heap) (locs : List Loc) (ls : Array Slot), LR F A G B → va_P (dC, dI) classes (wL r k F A o kO f) H → va_P (dC, dI) classes (wM r2 k2 G B) H → va_D (fun q => s.heap.size ≤ q) (wM r2 k2 G B ++ wL r k F A o kO f) → va_S (fun q => s.heap.size ≤ q) s.heap H locs → lv_has ls 7 [(0, .ref b), (1, .ref (r 0)), (2, .ref (r2 0)), (3, .ref o), (4, .int i)] → W p l e room_1 s m #[Value.ref b] below meth c H locs (cells + 1) (slots + 6) Q (F0 m 896 ls [])) : W p l e room_1 s m #[Value.ref b] below meth c H locs cells slots Q (F0 m 639 ls []) := by
  obtain ⟨hx, hb, hr, hml, hown, hts, hX, hbl, hlocks, hgv⟩ := C0
  have hW : ∀ w ∈ WALL, w.before #[Value.ref b] s = true := fun w h => hts w (WALL_good w h).1
  have hA : ∀ q : Nat, s.heap.size ≤ q → (fun q : Nat => s.heap.size ≤ q) q := fun _ h => h
  have hbA : ¬ (fun q : Nat => s.heap.size ≤ q) b := Nat.not_le.mpr hbl
  have hI := rel.ci
  have hJ := rel.si
  have h_at := rel.at
  refine lv_aload_n hx hb d_law_639 rfl (lv_at hl 1 rfl) ?_
  refine lv_aload_n hx hb d_law_640 rfl (lv_at hl 0 rfl) ?_
  refine lv_iload hx hb d_law_641 (lv_at hl 4 rfl) ?_
  refine lv_iconst (v := 1) hx hb d_law_643 (by decide) ?_
  refine lv_iadd hx hb d_law_644 ?_
  refine va_sld hx hb hX hbl hbA hS h1 d_law_645 ?_
  refine lv_aload_n hx hb d_law_646 rfl (lv_at hl 0 rfl) ?_
  refine lv_iload hx hb d_law_647 (lv_at hl 4 rfl) ?_
  refine lv_iconst (v := 2) hx hb d_law_649 (by decide) ?_
  refine lv_iadd hx hb d_law_650 ?_
  refine va_sld hx hb hX hbl hbA hS h2 d_law_651 ?_
  refine lv_if_eq (tgt := 659) hx hb d_law_652 (by decide) (fun e_6 => ?_) (fun e_6 => ?_)
  · refine lv_iconst (v := 0) hx hb d_law_659 (by decide) ?_
    refine lv_aload_n hx hb d_law_660 rfl (lv_at hl 3 rfl) ?_
    refine scS (rest := []) (hh := [(0, 10, 13, 19), (0, 10, 17, 27)]) (wr := wM r2 k2 G B) (wf := fun u : SL => wL r k u.2.1 u.2.2 o kO u.1) ⟨hx, hb, hml, hown, hW⟩ (c_Lw_halt l hl9 dC dI r k F A o kO f _ (xs (i + 1).toNatClampNeg) 0 hI) (vx_cwSW 4 hW (gInS k_425 k_426 k_345 k_427) rfl rfl rfl (by decide +kernel) ⟨Nat.le_of_ble_eq_true rfl, Nat.le_of_ble_eq_true rfl⟩) hKL hPM hPL hD hS hA hXS rfl hl.1 rfl (Nat.le_of_ble_eq_true rfl) d_law_661 ⟨hcl, hsl⟩ (fun H locs hPM hPL hD hS => ?_)
    refine lv_istore (lv' := [(5, .int ((hL cm_Lw_halt f (f_RS_halt F A (xs (i + 1).toNatClampNeg) 0)).1)), (0, .ref b), (1, .ref (r 0)), (2, .ref (r2 0)), (3, .ref o), (4, .int i)]) hx hb d_law_664 hl (by decide) rfl (fun ls hl => ?_)
    refine lv_aload_n hx hb d_law_666 rfl (lv_at hl 3 rfl) ?_
    refine lv_aload_n hx hb d_law_667 rfl (lv_at hl 1 rfl) ?_
    refine lv_iload hx hb d_law_668 (lv_at hl 5 rfl) ?_
    refine lv_iconst (v := 1) hx hb d_law_670 (by decide) ?_
    refine lv_iadd hx hb d_law_671 ?_
    refine va_sld hx hb hX hbl hbA hS h1 d_law_672 ?_
    refine lv_aload_n hx hb d_law_673 rfl (lv_at hl 1 rfl) ?_
    refine lv_iload hx hb d_law_674 (lv_at hl 5 rfl) ?_
    refine lv_iconst (v := 2) hx hb d_law_676 (by decide) ?_
    refine lv_iadd hx hb d_law_677 ?_
    refine va_sld hx hb hX hbl hbA hS h2 d_law_678 ?_
    refine lv_if_eq (tgt := 686) hx hb d_law_679 (by decide) (fun _ => ?_) (fun h9 => absurd e_6 h9)
    refine lv_iconst (v := 0) hx hb d_law_686 (by decide) ?_
    refine mcV (rest := []) (wr := wL r k ((hL cm_Lw_halt f (f_RS_halt F A (xs (i + 1).toNatClampNeg) 0)).2.2.1) ((hL cm_Lw_halt f (f_RS_halt F A (xs (i + 1).toNatClampNeg) 0)).2.2.2) o kO ((hL cm_Lw_halt f (f_RS_halt F A (xs (i + 1).toNatClampNeg) 0)).2.1)) (wf := fun u : SC => wM r2 k2 u.1 u.2) ⟨hx, hb, hml, hown, hW⟩ (c_Mo_halt l dC dI r2 k2 G B _ (xs (i + 1).toNatClampNeg) 0 hJ) (cwV 2 hW (gIn k_428 k_429 k_430 k_193 k_431) rfl rfl rfl (by decide +kernel) ⟨Nat.le_of_ble_eq_true rfl, Nat.le_of_ble_eq_true rfl⟩) hKM hPL hPM (dSwap hD) hS hA (va_recv hKM hPM (ci := 3) (q0 := 0) rfl rfl) rfl hl.1 rfl (Nat.le_of_ble_eq_true rfl) d_law_687 ⟨hcl, hsl⟩ (fun H locs hPL hPM hD hS => ?_)
    have hD := dSwap hD
    refine lv_istore (lv' := [(6, .int ((f_Mo_halt G B (xs (i + 1).toNatClampNeg) 0).1)), (5, .int ((hL cm_Lw_halt f (f_RS_halt F A (xs (i + 1).toNatClampNeg) 0)).1)), (0, .ref b), (1, .ref (r 0)), (2, .ref (r2 0)), (3, .ref o), (4, .int i)]) hx hb d_law_690 hl (by decide) rfl (fun ls hl => ?_)
    refine lv_goto (tgt := 896) hx hb d_law_692 (by decide) ?_
    exact next _ _ _ _ _ _ _ ls (by rw [hL_st]; exact sim_halt rel (xs (i + 1).toNatClampNeg) 0) hPL hPM hD hS (lv_sub hl [2, 3, 4, 5, 6] rfl)
  · refine lv_iconst (v := 1) hx hb d_law_655 (by decide) ?_
    refine lv_goto (tgt := 660) hx hb d_law_656 (by decide) ?_
    refine lv_aload_n hx hb d_law_660 rfl (lv_at hl 3 rfl) ?_
    refine scS (rest := []) (hh := [(0, 10, 13, 19), (0, 10, 17, 27)]) (wr := wM r2 k2 G B) (wf := fun u : SL => wL r k u.2.1 u.2.2 o kO u.1) ⟨hx, hb, hml, hown, hW⟩ (c_Lw_halt l hl9 dC dI r k F A o kO f _ (xs (i + 1).toNatClampNeg) 1 hI) (vx_cwSW 4 hW (gInS k_425 k_426 k_345 k_427) rfl rfl rfl (by decide +kernel) ⟨Nat.le_of_ble_eq_true rfl, Nat.le_of_ble_eq_true rfl⟩) hKL hPM hPL hD hS hA hXS rfl hl.1 rfl (Nat.le_of_ble_eq_true rfl) d_law_661 ⟨hcl, hsl⟩ (fun H locs hPM hPL hD hS => ?_)
    refine lv_istore (lv' := [(5, .int ((hL cm_Lw_halt f (f_RS_halt F A (xs (i + 1).toNatClampNeg) 1)).1)), (0, .ref b), (1, .ref (r 0)), (2, .ref (r2 0)), (3, .ref o), (4, .int i)]) hx hb d_law_664 hl (by decide) rfl (fun ls hl => ?_)
    refine lv_aload_n hx hb d_law_666 rfl (lv_at hl 3 rfl) ?_
    refine lv_aload_n hx hb d_law_667 rfl (lv_at hl 1 rfl) ?_
    refine lv_iload hx hb d_law_668 (lv_at hl 5 rfl) ?_
    refine lv_iconst (v := 1) hx hb d_law_670 (by decide) ?_
    refine lv_iadd hx hb d_law_671 ?_
    refine va_sld hx hb hX hbl hbA hS h1 d_law_672 ?_
    refine lv_aload_n hx hb d_law_673 rfl (lv_at hl 1 rfl) ?_
    refine lv_iload hx hb d_law_674 (lv_at hl 5 rfl) ?_
    refine lv_iconst (v := 2) hx hb d_law_676 (by decide) ?_
    refine lv_iadd hx hb d_law_677 ?_
    refine va_sld hx hb hX hbl hbA hS h2 d_law_678 ?_
    refine lv_if_eq (tgt := 686) hx hb d_law_679 (by decide) (fun h9 => absurd h9 e_6) (fun _ => ?_)
    refine lv_iconst (v := 1) hx hb d_law_682 (by decide) ?_
    refine lv_goto (tgt := 687) hx hb d_law_683 (by decide) ?_
    refine mcV (rest := []) (wr := wL r k ((hL cm_Lw_halt f (f_RS_halt F A (xs (i + 1).toNatClampNeg) 1)).2.2.1) ((hL cm_Lw_halt f (f_RS_halt F A (xs (i + 1).toNatClampNeg) 1)).2.2.2) o kO ((hL cm_Lw_halt f (f_RS_halt F A (xs (i + 1).toNatClampNeg) 1)).2.1)) (wf := fun u : SC => wM r2 k2 u.1 u.2) ⟨hx, hb, hml, hown, hW⟩ (c_Mo_halt l dC dI r2 k2 G B _ (xs (i + 1).toNatClampNeg) 1 hJ) (cwV 2 hW (gIn k_428 k_429 k_430 k_193 k_431) rfl rfl rfl (by decide +kernel) ⟨Nat.le_of_ble_eq_true rfl, Nat.le_of_ble_eq_true rfl⟩) hKM hPL hPM (dSwap hD) hS hA (va_recv hKM hPM (ci := 3) (q0 := 0) rfl rfl) rfl hl.1 rfl (Nat.le_of_ble_eq_true rfl) d_law_687 ⟨hcl, hsl⟩ (fun H locs hPL hPM hD hS => ?_)
    have hD := dSwap hD
    refine lv_istore (lv' := [(6, .int ((f_Mo_halt G B (xs (i + 1).toNatClampNeg) 1).1)), (5, .int ((hL cm_Lw_halt f (f_RS_halt F A (xs (i + 1).toNatClampNeg) 1)).1)), (0, .ref b), (1, .ref (r 0)), (2, .ref (r2 0)), (3, .ref o), (4, .int i)]) hx hb d_law_690 hl (by decide) rfl (fun ls hl => ?_)
    refine lv_goto (tgt := 896) hx hb d_law_692 (by decide) ?_
    exact next _ _ _ _ _ _ _ ls (by rw [hL_st]; exact sim_halt rel (xs (i + 1).toNatClampNeg) 1) hPL hPM hD hS (lv_sub hl [2, 3, 4, 5, 6] rfl)
