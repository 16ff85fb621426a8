set_option maxHeartbeats 4000000 in
set_option maxRecDepth 100000 in
theorem case_6 {p : Program} {l : Launch} {e : Env} {s : State} {m : MethodId} {below : List Frame} {meth : Method} {c : Code} {dC : Nat → ClassId} {dI : Nat → Nat → Nat} {b L : Nat} {xs : Nat → Int32} {r : Nat → Nat} {k : Nat → ClassId} {o : Nat} {kO : ClassId} {r2 : Nat → Nat} {k2 : Nat → ClassId} (hl9 : l.stackTraces = false) (C0 : lw_At p s m meth c b L xs) (hXS : XS (fun q => s.heap.size ≤ q) s s.heap) (hKL : va_K (dC, dI) classes (tL k kO) s) (hKM : va_K (dC, dI) classes (tM k2) s) {F : Nat → Int32} {A : Nat → Nat → Int32} {f : Nat → Int64} {G : Nat → Int32} {B : Nat → Nat → Int32} {H : Heap} {locs : List Loc} {ls : Array Slot} {i : Int32} {cells slots : Nat} {Q : State → Prop} (hcl : cells + 1 ≤ 1078) (hsl : slots + 6 ≤ 9466) (h1 : vp_in (i + 1) L) (h2 : vp_in (i + 2) L) (h3 : vp_in (i + 3) L) (h4 : vp_in (i + 4) L) (h5 : vp_in (i + 5) L) (rel : LR F A G B) (hPL : va_P (dC, dI) classes (wL r k F A o kO f) H) (hPM : va_P (dC, dI) classes (wM r2 k2 G B) H) (hD : va_D (fun q => s.heap.size ≤ q) (wM r2 k2 G B ++ wL r k F A o kO f)) (hS : va_S (fun q => s.heap.size ≤ q) s.heap H locs) (hl : lv_has ls 7 [(0, .ref b), (1, .ref (r 0)), (2, .ref (r2 0)), (3, .ref o), (4, .int i)])
    (next : ∀ (F : Nat → Int32) (A : Nat → Nat → Int32) (f : Nat → Int64) (G : Nat → Int32) (B : Nat → Nat → Int32) (H : Heap) (locs : List Loc) (ls : Array Slot), LR F A G B → va_P (dC, dI) classes (wL r k F A o kO f) H → va_P (dC, dI) classes (wM r2 k2 G B) H → va_D (fun q => s.heap.size ≤ q) (wM r2 k2 G B ++ wL r k F A o kO f) → va_S (fun q => s.heap.size ≤ q) s.heap H locs → lv_has ls 7 [(0, .ref b), (1, .ref (r 0)), (2, .ref (r2 0)), (3, .ref o), (4, .int i)] → W p l e room_1 s m #[Value.ref b] below meth c H locs (cells + 1) (slots + 6) Q (F0 m 889 ls [])) : W p l e room_1 s m #[Value.ref b] below meth c H locs cells slots Q (F0 m 412 ls []) := by
  obtain ⟨hx, hb, hr, hml, hown, hts, hX, hbl, hlocks, hgv⟩ := C0
  have hW : ∀ w ∈ WALL, w.before #[Value.ref b] s = true := fun w h => hts w (WALL_good w h).1
  have hA : ∀ q : Nat, s.heap.size ≤ q → (fun q : Nat => s.heap.size ≤ q) q := fun _ h => h
  have hbA : ¬ (fun q : Nat => s.heap.size ≤ q) b := Nat.not_le.mpr hbl
  have hI := rel.ci
  have hJ := rel.si
  have h_at := rel.at
  refine lv_aload_n hx hb d_law_412 rfl (lv_at hl 1 rfl) ?_
  refine lv_aload_n hx hb d_law_413 rfl (lv_at hl 0 rfl) ?_
  refine lv_iload hx hb d_law_414 (lv_at hl 4 rfl) ?_
  refine lv_iconst (v := 1) hx hb d_law_416 (by decide) ?_
  refine lv_iadd hx hb d_law_417 ?_
  refine va_sld hx hb hX hbl hbA hS h1 d_law_418 ?_
  refine lv_aload_n hx hb d_law_419 rfl (lv_at hl 0 rfl) ?_
  refine lv_iload hx hb d_law_420 (lv_at hl 4 rfl) ?_
  refine lv_iconst (v := 2) hx hb d_law_422 (by decide) ?_
  refine lv_iadd hx hb d_law_423 ?_
  refine va_sld hx hb hX hbl hbA hS h2 d_law_424 ?_
  refine lv_aload_n hx hb d_law_425 rfl (lv_at hl 3 rfl) ?_
  refine scS (rest := []) (hh := [(0, 10, 13, 19), (0, 10, 17, 21), (0, 10, 21, 27)]) (wr := wM r2 k2 G B) (wf := fun u : SL => wL r k u.2.1 u.2.2 o kO u.1) ⟨hx, hb, hml, hown, hW⟩ (c_Lw_step l hl9 dC dI r k F A o kO f _ (xs (i + 1).toNatClampNeg) (xs (i + 2).toNatClampNeg) hI) (vx_cwSW 4 hW (gInS k_386 k_387 k_345 k_388) rfl rfl rfl (by decide +kernel) ⟨Nat.le_of_ble_eq_true rfl, Nat.le_of_ble_eq_true rfl⟩) hKL hPM hPL hD hS hA hXS rfl hl.1 rfl (Nat.le_of_ble_eq_true rfl) d_law_426 ⟨hcl, hsl⟩ (fun H locs hPM hPL hD hS => ?_)
  refine lv_istore (lv' := [(5, .int ((hL cm_Lw_step f (f_RS_step F A (xs (i + 1).toNatClampNeg) (xs (i + 2).toNatClampNeg))).1)), (0, .ref b), (1, .ref (r 0)), (2, .ref (r2 0)), (3, .ref o), (4, .int i)]) hx hb d_law_429 hl (by decide) rfl (fun ls hl => ?_)
  refine lv_aload_n hx hb d_law_431 rfl (lv_at hl 3 rfl) ?_
  refine lv_aload_n hx hb d_law_432 rfl (lv_at hl 1 rfl) ?_
  refine lv_iload hx hb d_law_433 (lv_at hl 5 rfl) ?_
  refine lv_iconst (v := 1) hx hb d_law_435 (by decide) ?_
  refine lv_iadd hx hb d_law_436 ?_
  refine va_sld hx hb hX hbl hbA hS h1 d_law_437 ?_
  refine lv_aload_n hx hb d_law_438 rfl (lv_at hl 1 rfl) ?_
  refine lv_iload hx hb d_law_439 (lv_at hl 5 rfl) ?_
  refine lv_iconst (v := 2) hx hb d_law_441 (by decide) ?_
  refine lv_iadd hx hb d_law_442 ?_
  refine va_sld hx hb hX hbl hbA hS h2 d_law_443 ?_
  refine mcV (rest := []) (wr := wL r k ((hL cm_Lw_step f (f_RS_step F A (xs (i + 1).toNatClampNeg) (xs (i + 2).toNatClampNeg))).2.2.1) ((hL cm_Lw_step f (f_RS_step F A (xs (i + 1).toNatClampNeg) (xs (i + 2).toNatClampNeg))).2.2.2) o kO ((hL cm_Lw_step f (f_RS_step F A (xs (i + 1).toNatClampNeg) (xs (i + 2).toNatClampNeg))).2.1)) (wf := fun u : SC => wM r2 k2 u.1 u.2) ⟨hx, hb, hml, hown, hW⟩ (c_Mo_step l dC dI r2 k2 G B _ (xs (i + 1).toNatClampNeg) (xs (i + 2).toNatClampNeg) hJ h_at) (cwV 2 hW (gIn k_389 k_390 k_391 k_193 k_392) rfl rfl rfl (by decide +kernel) ⟨Nat.le_of_ble_eq_true rfl, Nat.le_of_ble_eq_true rfl⟩) hKM hPL hPM (dSwap hD) hS hA (va_recv hKM hPM (ci := 3) (q0 := 0) rfl rfl) rfl hl.1 rfl (Nat.le_of_ble_eq_true rfl) d_law_444 ⟨hcl, hsl⟩ (fun H locs hPL hPM hD hS => ?_)
  have hD := dSwap hD
  refine lv_istore (lv' := [(6, .int ((f_Mo_step G B (xs (i + 1).toNatClampNeg) (xs (i + 2).toNatClampNeg)).1)), (5, .int ((hL cm_Lw_step f (f_RS_step F A (xs (i + 1).toNatClampNeg) (xs (i + 2).toNatClampNeg))).1)), (0, .ref b), (1, .ref (r 0)), (2, .ref (r2 0)), (3, .ref o), (4, .int i)]) hx hb d_law_447 hl (by decide) rfl (fun ls hl => ?_)
  refine lv_goto (tgt := 889) hx hb d_law_449 (by decide) ?_
  exact next _ _ _ _ _ _ _ ls (by rw [hL_st]; exact sim_step rel (xs (i + 1).toNatClampNeg) (xs (i + 2).toNatClampNeg)) hPL hPM hD hS (lv_sub hl [2, 3, 4, 5, 6] rfl)
set_option maxHeartbeats 4000000 in
set_option maxRecDepth 100000 in
theorem case_7 {p : Program} {l : Launch} {e : Env} {s : State} {m : MethodId} {below : List Frame} {meth : Method} {c : Code} {dC : Nat → ClassId} {dI : Nat → Nat → Nat} {b L : Nat} {xs : Nat → Int32} {r : Nat → Nat} {k : Nat → ClassId} {o : Nat} {kO : ClassId} {r2 : Nat → Nat} {k2 : Nat → ClassId} (hl9 : l.stackTraces = false) (C0 : lw_At p s m meth c b L xs) (hXS : XS (fun q => s.heap.size ≤ q) s s.heap) (hKL : va_K (dC, dI) classes (tL k kO) s) (hKM : va_K (dC, dI) classes (tM k2) s) {F : Nat → Int32} {A : Nat → Nat → Int32} {f : Nat → Int64} {G : Nat → Int32} {B : Nat → Nat → Int32} {H : Heap} {locs : List Loc} {ls : Array Slot} {i : Int32} {cells slots : Nat} {Q : State → Prop} (hcl : cells + 1 ≤ 1078) (hsl : slots + 6 ≤ 9466) (h1 : vp_in (i + 1) L) (h2 : vp_in (i + 2) L) (h3 : vp_in (i + 3) L) (h4 : vp_in (i + 4) L) (h5 : vp_in (i + 5) L) (rel : LR F A G B) (hPL : va_P (dC, dI) classes (wL r k F A o kO f) H) (hPM : va_P (dC, dI) classes (wM r2 k2 G B) H) (hD : va_D (fun q => s.heap.size ≤ q) (wM r2 k2 G B ++ wL r k F A o kO f)) (hS : va_S (fun q => s.heap.size ≤ q) s.heap H locs) (hl : lv_has ls 7 [(0, .ref b), (1, .ref (r 0)), (2, .ref (r2 0)), (3, .ref o), (4, .int i)])
    (next : ∀ (F : Nat → Int32) (A : Nat → Nat → Int32) (f : Nat → Int64) (G : Nat → Int32) (B : Nat → Nat → Int32) (H : Heap) (locs : List Loc) (ls : Array Slot), LR F A G B → va_P (dC, dI) classes (wL r k F A o kO f) H → va_P (dC, dI) classes (wM r2 k2 G B) H → va_D (fun q => s.heap.size ≤ q) (wM r2 k2 G B ++ wL r k F A o kO f) → va_S (fun q => s.heap.size ≤ q) s.heap H locs → lv_has ls 7 [(0, .ref b), (1, .ref (r 0)), (2, .ref (r2 0)), (3, .ref o), (4, .int i)] → W p l e room_1 s m #[Value.ref b] below meth c H locs (cells + 1) (slots + 6) Q (F0 m 889 ls [])) : W p l e room_1 s m #[Value.ref b] below meth c H locs cells slots Q (F0 m 452 ls []) := by
  obtain ⟨hx, hb, hr, hml, hown, hts, hX, hbl, hlocks, hgv⟩ := C0
  have hW : ∀ w ∈ WALL, w.before #[Value.ref b] s = true := fun w h => hts w (WALL_good w h).1
  have hA : ∀ q : Nat, s.heap.size ≤ q → (fun q : Nat => s.heap.size ≤ q) q := fun _ h => h
  have hbA : ¬ (fun q : Nat => s.heap.size ≤ q) b := Nat.not_le.mpr hbl
  have hI := rel.ci
  have hJ := rel.si
  have h_at := rel.at
  refine lv_aload_n hx hb d_law_452 rfl (lv_at hl 1 rfl) ?_
  refine lv_aload_n hx hb d_law_453 rfl (lv_at hl 0 rfl) ?_
  refine lv_iload hx hb d_law_454 (lv_at hl 4 rfl) ?_
  refine lv_iconst (v := 1) hx hb d_law_456 (by decide) ?_
  refine lv_iadd hx hb d_law_457 ?_
  refine va_sld hx hb hX hbl hbA hS h1 d_law_458 ?_
  refine lv_aload_n hx hb d_law_459 rfl (lv_at hl 3 rfl) ?_
  refine scS (rest := []) (hh := [(0, 9, 12, 19), (0, 9, 15, 27)]) (wr := wM r2 k2 G B) (wf := fun u : SL => wL r k u.2.1 u.2.2 o kO u.1) ⟨hx, hb, hml, hown, hW⟩ (c_Lw_pull l hl9 dC dI r k F A o kO f _ (xs (i + 1).toNatClampNeg) hI) (vx_cwSW 3 hW (gInS k_393 k_394 k_345 k_395) rfl rfl rfl (by decide +kernel) ⟨Nat.le_of_ble_eq_true rfl, Nat.le_of_ble_eq_true rfl⟩) hKL hPM hPL hD hS hA hXS rfl hl.1 rfl (Nat.le_of_ble_eq_true rfl) d_law_460 ⟨hcl, hsl⟩ (fun H locs hPM hPL hD hS => ?_)
  refine lv_istore (lv' := [(5, .int ((hL cm_Lw_pull f (f_RS_pull F A (xs (i + 1).toNatClampNeg))).1)), (0, .ref b), (1, .ref (r 0)), (2, .ref (r2 0)), (3, .ref o), (4, .int i)]) hx hb d_law_463 hl (by decide) rfl (fun ls hl => ?_)
  refine lv_aload_n hx hb d_law_465 rfl (lv_at hl 3 rfl) ?_
  refine lv_aload_n hx hb d_law_466 rfl (lv_at hl 1 rfl) ?_
  refine lv_iload hx hb d_law_467 (lv_at hl 5 rfl) ?_
  refine lv_iconst (v := 1) hx hb d_law_469 (by decide) ?_
  refine lv_iadd hx hb d_law_470 ?_
  refine va_sld hx hb hX hbl hbA hS h1 d_law_471 ?_
  refine mcV (rest := []) (wr := wL r k ((hL cm_Lw_pull f (f_RS_pull F A (xs (i + 1).toNatClampNeg))).2.2.1) ((hL cm_Lw_pull f (f_RS_pull F A (xs (i + 1).toNatClampNeg))).2.2.2) o kO ((hL cm_Lw_pull f (f_RS_pull F A (xs (i + 1).toNatClampNeg))).2.1)) (wf := fun u : SC => wM r2 k2 u.1 u.2) ⟨hx, hb, hml, hown, hW⟩ (c_Mo_pull l dC dI r2 k2 G B _ (xs (i + 1).toNatClampNeg) hJ) (cwV 1 hW (gIn k_396 k_397 k_398 k_193 k_399) rfl rfl rfl (by decide +kernel) ⟨Nat.le_of_ble_eq_true rfl, Nat.le_of_ble_eq_true rfl⟩) hKM hPL hPM (dSwap hD) hS hA (va_recv hKM hPM (ci := 3) (q0 := 0) rfl rfl) rfl hl.1 rfl (Nat.le_of_ble_eq_true rfl) d_law_472 ⟨hcl, hsl⟩ (fun H locs hPL hPM hD hS => ?_)
  have hD := dSwap hD
  refine lv_istore (lv' := [(6, .int ((f_Mo_pull G B (xs (i + 1).toNatClampNeg)).1)), (5, .int ((hL cm_Lw_pull f (f_RS_pull F A (xs (i + 1).toNatClampNeg))).1)), (0, .ref b), (1, .ref (r 0)), (2, .ref (r2 0)), (3, .ref o), (4, .int i)]) hx hb d_law_475 hl (by decide) rfl (fun ls hl => ?_)
  refine lv_goto (tgt := 889) hx hb d_law_477 (by decide) ?_
  exact next _ _ _ _ _ _ _ ls (by rw [hL_st]; exact sim_pull rel (xs (i + 1).toNatClampNeg)) hPL hPM hD hS (lv_sub hl [2, 3, 4, 5, 6] rfl)
set_option maxHeartbeats 4000000 in
set_option maxRecDepth 100000 in
theorem case_8 {p : Program} {l : Launch} {e : Env} {s : State} {m : MethodId} {below : List Frame} {meth : Method} {c : Code} {dC : Nat → ClassId} {dI : Nat → Nat → Nat} {b L : Nat} {xs : Nat → Int32} {r : Nat → Nat} {k : Nat → ClassId} {o : Nat} {kO : ClassId} {r2 : Nat → Nat} {k2 : Nat → ClassId} (hl9 : l.stackTraces = false) (C0 : lw_At p s m meth c b L xs) (hXS : XS (fun q => s.heap.size ≤ q) s s.heap) (hKL : va_K (dC, dI) classes (tL k kO) s) (hKM : va_K (dC, dI) classes (tM k2) s) {F : Nat → Int32} {A : Nat → Nat → Int32} {f : Nat → Int64} {G : Nat → Int32} {B : Nat → Nat → Int32} {H : Heap} {locs : List Loc} {ls : Array Slot} {i : Int32} {cells slots : Nat} {Q : State → Prop} (hcl : cells + 1 ≤ 1078) (hsl : slots + 6 ≤ 9466) (h1 : vp_in (i + 1) L) (h2 : vp_in (i + 2) L) (h3 : vp_in (i + 3) L) (h4 : vp_in (i + 4) L) (h5 : vp_in (i + 5) L) (rel : LR F A G B) (hPL : va_P (dC, dI) classes (wL r k F A o kO f) H) (hPM : va_P (dC, dI) classes (wM r2 k2 G B) H) (hD : va_D (fun q => s.heap.size ≤ q) (wM r2 k2 G B ++ wL r k F A o kO f)) (hS : va_S (fun q => s.heap.size ≤ q) s.heap H locs) (hl : lv_has ls 7 [(0, .ref b), (1, .ref (r 0)), (2, .ref (r2 0)), (3, .ref o), (4, .int i)])
    (next : ∀ (F : Nat → Int32) (A : Nat → Nat → Int32) (f : Nat → Int64) (G : Nat → Int32) (B : Nat → Nat → Int32) (H : Heap) (locs : List Loc) (ls : Array Slot), LR F A G B → va_P (dC, dI) classes (wL r k F A o kO f) H → va_P (dC, dI) classes (wM r2 k2 G B) H → va_D (fun q => s.heap.size ≤ q) (wM r2 k2 G B ++ wL r k F A o kO f) → va_S (fun q => s.heap.size ≤ q) s.heap H locs → lv_has ls 7 [(0, .ref b), (1, .ref (r 0)), (2, .ref (r2 0)), (3, .ref o), (4, .int i)] → W p l e room_1 s m #[Value.ref b] below meth c H locs (cells + 1) (slots + 6) Q (F0 m 889 ls [])) : W p l e room_1 s m #[Value.ref b] below meth c H locs cells slots Q (F0 m 480 ls []) := by
  obtain ⟨hx, hb, hr, hml, hown, hts, hX, hbl, hlocks, hgv⟩ := C0
  have hW : ∀ w ∈ WALL, w.before #[Value.ref b] s = true := fun w h => hts w (WALL_good w h).1
  have hA : ∀ q : Nat, s.heap.size ≤ q → (fun q : Nat => s.heap.size ≤ q) q := fun _ h => h
  have hbA : ¬ (fun q : Nat => s.heap.size ≤ q) b := Nat.not_le.mpr hbl
  have hI := rel.ci
  have hJ := rel.si
  have h_at := rel.at
  refine lv_aload_n hx hb d_law_480 rfl (lv_at hl 1 rfl) ?_
  refine lv_aload_n hx hb d_law_481 rfl (lv_at hl 0 rfl) ?_
  refine lv_iload hx hb d_law_482 (lv_at hl 4 rfl) ?_
  refine lv_iconst (v := 1) hx hb d_law_484 (by decide) ?_
  refine lv_iadd hx hb d_law_485 ?_
  refine va_sld hx hb hX hbl hbA hS h1 d_law_486 ?_
  refine lv_aload_n hx hb d_law_487 rfl (lv_at hl 0 rfl) ?_
  refine lv_iload hx hb d_law_488 (lv_at hl 4 rfl) ?_
  refine lv_iconst (v := 2) hx hb d_law_490 (by decide) ?_
  refine lv_iadd hx hb d_law_491 ?_
  refine va_sld hx hb hX hbl hbA hS h2 d_law_492 ?_
  refine lv_aload_n hx hb d_law_493 rfl (lv_at hl 3 rfl) ?_
  refine scS (rest := []) (hh := [(0, 10, 13, 19), (0, 10, 17, 27)]) (wr := wM r2 k2 G B) (wf := fun u : SL => wL r k u.2.1 u.2.2 o kO u.1) ⟨hx, hb, hml, hown, hW⟩ (c_Lw_await l hl9 dC dI r k F A o kO f _ (xs (i + 1).toNatClampNeg) (xs (i + 2).toNatClampNeg) hI) (vx_cwSW 4 hW (gInS k_400 k_401 k_345 k_402) rfl rfl rfl (by decide +kernel) ⟨Nat.le_of_ble_eq_true rfl, Nat.le_of_ble_eq_true rfl⟩) hKL hPM hPL hD hS hA hXS rfl hl.1 rfl (Nat.le_of_ble_eq_true rfl) d_law_494 ⟨hcl, hsl⟩ (fun H locs hPM hPL hD hS => ?_)
  refine lv_istore (lv' := [(5, .int ((hL cm_Lw_await f (f_RS_await F A (xs (i + 1).toNatClampNeg) (xs (i + 2).toNatClampNeg))).1)), (0, .ref b), (1, .ref (r 0)), (2, .ref (r2 0)), (3, .ref o), (4, .int i)]) hx hb d_law_497 hl (by decide) rfl (fun ls hl => ?_)
  refine lv_aload_n hx hb d_law_499 rfl (lv_at hl 3 rfl) ?_
  refine lv_aload_n hx hb d_law_500 rfl (lv_at hl 1 rfl) ?_
  refine lv_iload hx hb d_law_501 (lv_at hl 5 rfl) ?_
  refine lv_iconst (v := 1) hx hb d_law_503 (by decide) ?_
  refine lv_iadd hx hb d_law_504 ?_
  refine va_sld hx hb hX hbl hbA hS h1 d_law_505 ?_
  refine lv_aload_n hx hb d_law_506 rfl (lv_at hl 1 rfl) ?_
  refine lv_iload hx hb d_law_507 (lv_at hl 5 rfl) ?_
  refine lv_iconst (v := 2) hx hb d_law_509 (by decide) ?_
  refine lv_iadd hx hb d_law_510 ?_
  refine va_sld hx hb hX hbl hbA hS h2 d_law_511 ?_
  refine mcV (rest := []) (wr := wL r k ((hL cm_Lw_await f (f_RS_await F A (xs (i + 1).toNatClampNeg) (xs (i + 2).toNatClampNeg))).2.2.1) ((hL cm_Lw_await f (f_RS_await F A (xs (i + 1).toNatClampNeg) (xs (i + 2).toNatClampNeg))).2.2.2) o kO ((hL cm_Lw_await f (f_RS_await F A (xs (i + 1).toNatClampNeg) (xs (i + 2).toNatClampNeg))).2.1)) (wf := fun u : SC => wM r2 k2 u.1 u.2) ⟨hx, hb, hml, hown, hW⟩ (c_Mo_await l dC dI r2 k2 G B _ (xs (i + 1).toNatClampNeg) (xs (i + 2).toNatClampNeg) hJ) (cwV 2 hW (gIn k_403 k_404 k_405 k_193 k_406) rfl rfl rfl (by decide +kernel) ⟨Nat.le_of_ble_eq_true rfl, Nat.le_of_ble_eq_true rfl⟩) hKM hPL hPM (dSwap hD) hS hA (va_recv hKM hPM (ci := 3) (q0 := 0) rfl rfl) rfl hl.1 rfl (Nat.le_of_ble_eq_true rfl) d_law_512 ⟨hcl, hsl⟩ (fun H locs hPL hPM hD hS => ?_)
  have hD := dSwap hD
  refine lv_istore (lv' := [(6, .int ((f_Mo_await G B (xs (i + 1).toNatClampNeg) (xs (i + 2).toNatClampNeg)).1)), (5, .int ((hL cm_Lw_await f (f_RS_await F A (xs (i + 1).toNatClampNeg) (xs (i + 2).toNatClampNeg))).1)), (0, .ref b), (1, .ref (r 0)), (2, .ref (r2 0)), (3, .ref o), (4, .int i)]) hx hb d_law_515 hl (by decide) rfl (fun ls hl => ?_)
  refine lv_aload_n hx hb d_law_517 rfl (lv_at hl 4 rfl) ?_
  refine rdV (rest := []) ⟨hx, hb, hml, hown, hW⟩ (c_Mo_thrown l dC dI r2 k2 ((f_Mo_await G B (xs (i + 1).toNatClampNeg) (xs (i + 2).toNatClampNeg)).2.1) ((f_Mo_await G B (xs (i + 1).toNatClampNeg) (xs (i + 2).toNatClampNeg)).2.2)) (cwV 0 hW (gIn k_407 k_408 k_409 k_193 k_410) rfl rfl rfl (by decide +kernel) ⟨Nat.le_of_ble_eq_true rfl, Nat.le_of_ble_eq_true rfl⟩) hKM hPM (va_recv hKM hPM (ci := 3) (q0 := 0) rfl rfl) rfl hl.1 rfl (Nat.le_of_ble_eq_true rfl) d_law_518 ⟨hcl, hsl⟩ ?_
  refine lv_iload hx hb d_law_521 (lv_at hl 1 rfl) ?_
  refine lv_icmp_eq (tgt := 528) hx hb d_law_523 (by decide) (fun _ => ?_) (fun h9 => absurd (ans_await rel (xs (i + 1).toNatClampNeg) (xs (i + 2).toNatClampNeg) f).1 h9)
  refine lv_iload hx hb d_law_528 (lv_at hl 1 rfl) ?_
  refine lv_if_ne (tgt := 545) hx hb d_law_530 (by decide) (fun e_3 => ?_) (fun e_3 => ?_)
  · refine lv_goto (tgt := 889) hx hb d_law_545 (by decide) ?_
    exact next _ _ _ _ _ _ _ ls (by rw [hL_st]; exact sim_await rel (xs (i + 1).toNatClampNeg) (xs (i + 2).toNatClampNeg)) hPL hPM hD hS (lv_sub hl [2, 3, 4, 5, 6] rfl)
  · refine lv_aload_n hx hb d_law_533 rfl (lv_at hl 5 rfl) ?_
    refine lv_iconst (v := 0) hx hb d_law_534 (by decide) ?_
    refine va_lald hx hb hKL hPL 0 0 rfl rfl in01 d_law_535 ?_
    refine lv_iload hx hb d_law_536 (lv_at hl 0 rfl) ?_
    refine lv_i2l (v := ((f_Mo_await G B (xs (i + 1).toNatClampNeg) (xs (i + 2).toNatClampNeg)).1).toInt64) hx hb d_law_538 rfl ?_
    refine W.lcmp hx hb d_law_539 ?_
    refine lv_if_eq (tgt := 545) hx hb d_law_540 (by decide) (fun _ => ?_) (fun h9 => absurd (lgc_self ((ans_await rel (xs (i + 1).toNatClampNeg) (xs (i + 2).toNatClampNeg) f).2 e_3)) h9)
    refine lv_goto (tgt := 889) hx hb d_law_545 (by decide) ?_
    exact next _ _ _ _ _ _ _ ls (by rw [hL_st]; exact sim_await rel (xs (i + 1).toNatClampNeg) (xs (i + 2).toNatClampNeg)) hPL hPM hD hS (lv_sub hl [2, 3, 4, 5, 6] rfl)
set_option maxHeartbeats 4000000 in
set_option maxRecDepth 100000 in
theorem case_9 {p : Program} {l : Launch} {e : Env} {s : State} {m : MethodId} {below : List Frame} {meth : Method} {c : Code} {dC : Nat → ClassId} {dI : Nat → Nat → Nat} {b L : Nat} {xs : Nat → Int32} {r : Nat → Nat} {k : Nat → ClassId} {o : Nat} {kO : ClassId} {r2 : Nat → Nat} {k2 : Nat → ClassId} (hl9 : l.stackTraces = false) (C0 : lw_At p s m meth c b L xs) (hXS : XS (fun q => s.heap.size ≤ q) s s.heap) (hKL : va_K (dC, dI) classes (tL k kO) s) (hKM : va_K (dC, dI) classes (tM k2) s) {F : Nat → Int32} {A : Nat → Nat → Int32} {f : Nat → Int64} {G : Nat → Int32} {B : Nat → Nat → Int32} {H : Heap} {locs : List Loc} {ls : Array Slot} {i : Int32} {cells slots : Nat} {Q : State → Prop} (hcl : cells + 1 ≤ 1078) (hsl : slots + 6 ≤ 9466) (h1 : vp_in (i + 1) L) (h2 : vp_in (i + 2) L) (h3 : vp_in (i + 3) L) (h4 : vp_in (i + 4) L) (h5 : vp_in (i + 5) L) (rel : LR F A G B) (hPL : va_P (dC, dI) classes (wL r k F A o kO f) H) (hPM : va_P (dC, dI) classes (wM r2 k2 G B) H) (hD : va_D (fun q => s.heap.size ≤ q) (wM r2 k2 G B ++ wL r k F A o kO f)) (hS : va_S (fun q => s.heap.size ≤ q) s.heap H locs) (hl : lv_has ls 7 [(0, .ref b), (1, .ref (r 0)), (2, .ref (r2 0)), (3, .ref o), (4, .int i)])
    (next : ∀ (F : Nat → Int32) (A : Nat → Nat → Int32) (f : Nat → Int64) (G : Nat → Int32) (B : Nat → Nat → Int32) (H : Heap) (locs : List Loc) (ls : Array Slot), LR F A G B → va_P (dC, dI) classes (wL r k F A o kO f) H → va_P (dC, dI) classes (wM r2 k2 G B) H → va_D (fun q => s.heap.size ≤ q) (wM r2 k2 G B ++ wL r k F A o kO f) → va_S (fun q => s.heap.size ≤ q) s.heap H locs → lv_has ls 7 [(0, .ref b), (1, .ref (r 0)), (2, .ref (r2 0)), (3, .ref o), (4, .int i)] → W p l e room_1 s m #[Value.ref b] below meth c H locs (cells + 1) (slots + 6) Q (F0 m 889 ls [])) : W p l e room_1 s m #[Value.ref b] below meth c H locs cells slots Q (F0 m 548 ls []) := by
  obtain ⟨hx, hb, hr, hml, hown, hts, hX, hbl, hlocks, hgv⟩ := C0
  have hW : ∀ w ∈ WALL, w.before #[Value.ref b] s = true := fun w h => hts w (WALL_good w h).1
  have hA : ∀ q : Nat, s.heap.size ≤ q → (fun q : Nat => s.heap.size ≤ q) q := fun _ h => h
  have hbA : ¬ (fun q : Nat => s.heap.size ≤ q) b := Nat.not_le.mpr hbl
  have hI := rel.ci
  have hJ := rel.si
  have h_at := rel.at
  refine lv_aload_n hx hb d_law_548 rfl (lv_at hl 1 rfl) ?_
  refine lv_aload_n hx hb d_law_549 rfl (lv_at hl 0 rfl) ?_
  refine lv_iload hx hb d_law_550 (lv_at hl 4 rfl) ?_
  refine lv_iconst (v := 1) hx hb d_law_552 (by decide) ?_
  refine lv_iadd hx hb d_law_553 ?_
  refine va_sld hx hb hX hbl hbA hS h1 d_law_554 ?_
  refine lv_aload_n hx hb d_law_555 rfl (lv_at hl 3 rfl) ?_
  refine scS (rest := []) (hh := [(0, 9, 12, 19)]) (wr := wM r2 k2 G B) (wf := fun u : SL => wL r k u.2.1 u.2.2 o kO u.1) ⟨hx, hb, hml, hown, hW⟩ (c_Lw_next l hl9 dC dI r k F A o kO f _ (xs (i + 1).toNatClampNeg) hI) (vx_cwSW 3 hW (gInS k_411 k_412 k_345 k_413) rfl rfl rfl (by decide +kernel) ⟨Nat.le_of_ble_eq_true rfl, Nat.le_of_ble_eq_true rfl⟩) hKL hPM hPL hD hS hA hXS rfl hl.1 rfl (Nat.le_of_ble_eq_true rfl) d_law_556 ⟨hcl, hsl⟩ (fun H locs hPM hPL hD hS => ?_)
  refine lv_istore (lv' := [(5, .int ((hL cm_Lw_next f (f_RS_next F A (xs (i + 1).toNatClampNeg))).1)), (0, .ref b), (1, .ref (r 0)), (2, .ref (r2 0)), (3, .ref o), (4, .int i)]) hx hb d_law_559 hl (by decide) rfl (fun ls hl => ?_)
  refine lv_aload_n hx hb d_law_561 rfl (lv_at hl 3 rfl) ?_
  refine lv_aload_n hx hb d_law_562 rfl (lv_at hl 1 rfl) ?_
  refine lv_iload hx hb d_law_563 (lv_at hl 5 rfl) ?_
  refine lv_iconst (v := 1) hx hb d_law_565 (by decide) ?_
  refine lv_iadd hx hb d_law_566 ?_
  refine va_sld hx hb hX hbl hbA hS h1 d_law_567 ?_
  refine mcV (rest := []) (wr := wL r k ((hL cm_Lw_next f (f_RS_next F A (xs (i + 1).toNatClampNeg))).2.2.1) ((hL cm_Lw_next f (f_RS_next F A (xs (i + 1).toNatClampNeg))).2.2.2) o kO ((hL cm_Lw_next f (f_RS_next F A (xs (i + 1).toNatClampNeg))).2.1)) (wf := fun u : SC => wM r2 k2 u.1 u.2) ⟨hx, hb, hml, hown, hW⟩ (c_Mo_next l dC dI r2 k2 G B _ (xs (i + 1).toNatClampNeg) hJ) (cwV 1 hW (gIn k_414 k_415 k_416 k_193 k_417) rfl rfl rfl (by decide +kernel) ⟨Nat.le_of_ble_eq_true rfl, Nat.le_of_ble_eq_true rfl⟩) hKM hPL hPM (dSwap hD) hS hA (va_recv hKM hPM (ci := 3) (q0 := 0) rfl rfl) rfl hl.1 rfl (Nat.le_of_ble_eq_true rfl) d_law_568 ⟨hcl, hsl⟩ (fun H locs hPL hPM hD hS => ?_)
  have hD := dSwap hD
  refine lv_istore (lv' := [(6, .int ((f_Mo_next G B (xs (i + 1).toNatClampNeg)).1)), (5, .int ((hL cm_Lw_next f (f_RS_next F A (xs (i + 1).toNatClampNeg))).1)), (0, .ref b), (1, .ref (r 0)), (2, .ref (r2 0)), (3, .ref o), (4, .int i)]) hx hb d_law_571 hl (by decide) rfl (fun ls hl => ?_)
  refine lv_goto (tgt := 889) hx hb d_law_573 (by decide) ?_
  exact next _ _ _ _ _ _ _ ls (by rw [hL_st]; exact sim_next rel (xs (i + 1).toNatClampNeg)) hPL hPM hD hS (lv_sub hl [2, 3, 4, 5, 6] rfl)
set_option maxHeartbeats 4000000 in
set_option maxRecDepth 100000 in
theorem case_10 {p : Program} {l : Launch} {e : Env} {s : State} {m : MethodId} {below : List Frame} {meth : Method} {c : Code} {dC : Nat → ClassId} {dI : Nat → Nat → Nat} {b L : Nat} {xs : Nat → Int32} {r : Nat → Nat} {k : Nat → ClassId} {o : Nat} {kO : ClassId} {r2 : Nat → Nat} {k2 : Nat → ClassId} (hl9 : l.stackTraces = false) (C0 : lw_At p s m meth c b L xs) (hXS : XS (fun q => s.heap.size ≤ q) s s.heap) (hKL : va_K (dC, dI) classes (tL k kO) s) (hKM : va_K (dC, dI) classes (tM k2) s) {F : Nat → Int32} {A : Nat → Nat → Int32} {f : Nat → Int64} {G : Nat → Int32} {B : Nat → Nat → Int32} {H : Heap} {locs : List Loc} {ls : Array Slot} {i : Int32} {cells slots : Nat} {Q : State → Prop} (hcl : cells + 1 ≤ 1078) (hsl : slots + 6 ≤ 9466) (h1 : vp_in (i + 1) L) (h2 : vp_in (i + 2) L) (h3 : vp_in (i + 3) L) (h4 : vp_in (i + 4) L) (h5 : vp_in (i + 5) L) (rel : LR F A G B) (hPL : va_P (dC, dI) classes (wL r k F A o kO f) H) (hPM : va_P (dC, dI) classes (wM r2 k2 G B) H) (hD : va_D (fun q => s.heap.size ≤ q) (wM r2 k2 G B ++ wL r k F A o kO f)) (hS : va_S (fun q => s.heap.size ≤ q) s.heap H locs) (hl : lv_has ls 7 [(0, .ref b), (1, .ref (r 0)), (2, .ref (r2 0)), (3, .ref o), (4, .int i)])
    (next : ∀ (F : Nat → Int32) (A : Nat → Nat → Int32) (f : Nat → Int64) (G : Nat → Int32) (B : Nat → Nat → Int32) (H : Heap) (locs : List Loc) (ls : Array Slot), LR F A G B → va_P (dC, dI) classes (wL r k F A o kO f) H → va_P (dC, dI) classes (wM r2 k2 G B) H → va_D (fun q => s.heap.size ≤ q) (wM r2 k2 G B ++ wL r k F A o kO f) → va_S (fun q => s.heap.size ≤ q) s.heap H locs → lv_has ls 7 [(0, .ref b), (1, .ref (r 0)), (2, .ref (r2 0)), (3, .ref o), (4, .int i)] → W p l e room_1 s m #[Value.ref b] below meth c H locs (cells + 1) (slots + 6) Q (F0 m 889 ls [])) : W p l e room_1 s m #[Value.ref b] below meth c H locs cells slots Q (F0 m 576 ls []) := by
  obtain ⟨hx, hb, hr, hml, hown, hts, hX, hbl, hlocks, hgv⟩ := C0
  have hW : ∀ w ∈ WALL, w.before #[Value.ref b] s = true := fun w h => hts w (WALL_good w h).1
  have hA : ∀ q : Nat, s.heap.size ≤ q → (fun q : Nat => s.heap.size ≤ q) q := fun _ h => h
  have hbA : ¬ (fun q : Nat => s.heap.size ≤ q) b := Nat.not_le.mpr hbl
  have hI := rel.ci
  have hJ := rel.si
  have h_at := rel.at
  refine lv_aload_n hx hb d_law_576 rfl (lv_at hl 1 rfl) ?_
  refine lv_aload_n hx hb d_law_577 rfl (lv_at hl 0 rfl) ?_
  refine lv_iload hx hb d_law_578 (lv_at hl 4 rfl) ?_
  refine lv_iconst (v := 1) hx hb d_law_580 (by decide) ?_
  refine lv_iadd hx hb d_law_581 ?_
  refine va_sld hx hb hX hbl hbA hS h1 d_law_582 ?_
  refine lv_aload_n hx hb d_law_583 rfl (lv_at hl 0 rfl) ?_
  refine lv_iload hx hb d_law_584 (lv_at hl 4 rfl) ?_
  refine lv_iconst (v := 2) hx hb d_law_586 (by decide) ?_
  refine lv_iadd hx hb d_law_587 ?_
  refine va_sld hx hb hX hbl hbA hS h2 d_law_588 ?_
  refine lv_if_eq (tgt := 596) hx hb d_law_589 (by decide) (fun e_4 => ?_) (fun e_4 => ?_)
  · refine lv_iconst (v := 0) hx hb d_law_596 (by decide) ?_
    refine lv_aload_n hx hb d_law_597 rfl (lv_at hl 3 rfl) ?_
    refine scS (rest := []) (hh := [(0, 10, 13, 19), (0, 10, 17, 27)]) (wr := wM r2 k2 G B) (wf := fun u : SL => wL r k u.2.1 u.2.2 o kO u.1) ⟨hx, hb, hml, hown, hW⟩ (c_Lw_zone l hl9 dC dI r k F A o kO f _ (xs (i + 1).toNatClampNeg) 0 hI) (vx_cwSW 4 hW (gInS k_418 k_419 k_345 k_420) rfl rfl rfl (by decide +kernel) ⟨Nat.le_of_ble_eq_true rfl, Nat.le_of_ble_eq_true rfl⟩) hKL hPM hPL hD hS hA hXS rfl hl.1 rfl (Nat.le_of_ble_eq_true rfl) d_law_598 ⟨hcl, hsl⟩ (fun H locs hPM hPL hD hS => ?_)
    refine lv_istore (lv' := [(5, .int ((hL cm_Lw_zone f (f_RS_zone F A (xs (i + 1).toNatClampNeg) 0)).1)), (0, .ref b), (1, .ref (r 0)), (2, .ref (r2 0)), (3, .ref o), (4, .int i)]) hx hb d_law_601 hl (by decide) rfl (fun ls hl => ?_)
    refine lv_aload_n hx hb d_law_603 rfl (lv_at hl 3 rfl) ?_
    refine lv_aload_n hx hb d_law_604 rfl (lv_at hl 1 rfl) ?_
    refine lv_iload hx hb d_law_605 (lv_at hl 5 rfl) ?_
    refine lv_iconst (v := 1) hx hb d_law_607 (by decide) ?_
    refine lv_iadd hx hb d_law_608 ?_
    refine va_sld hx hb hX hbl hbA hS h1 d_law_609 ?_
    refine lv_aload_n hx hb d_law_610 rfl (lv_at hl 1 rfl) ?_
    refine lv_iload hx hb d_law_611 (lv_at hl 5 rfl) ?_
    refine lv_iconst (v := 2) hx hb d_law_613 (by decide) ?_
    refine lv_iadd hx hb d_law_614 ?_
    refine va_sld hx hb hX hbl hbA hS h2 d_law_615 ?_
    refine lv_if_eq (tgt := 623) hx hb d_law_616 (by decide) (fun _ => ?_) (fun h9 => absurd e_4 h9)
    refine lv_iconst (v := 0) hx hb d_law_623 (by decide) ?_
    refine mcV (rest := []) (wr := wL r k ((hL cm_Lw_zone f (f_RS_zone F A (xs (i + 1).toNatClampNeg) 0)).2.2.1) ((hL cm_Lw_zone f (f_RS_zone F A (xs (i + 1).toNatClampNeg) 0)).2.2.2) o kO ((hL cm_Lw_zone f (f_RS_zone F A (xs (i + 1).toNatClampNeg) 0)).2.1)) (wf := fun u : SC => wM r2 k2 u.1 u.2) ⟨hx, hb, hml, hown, hW⟩ (c_Mo_zone l dC dI r2 k2 G B _ (xs (i + 1).toNatClampNeg) 0 hJ) (cwV 2 hW (gIn k_421 k_422 k_423 k_193 k_424) rfl rfl rfl (by decide +kernel) ⟨Nat.le_of_ble_eq_true rfl, Nat.le_of_ble_eq_true rfl⟩) hKM hPL hPM (dSwap hD) hS hA (va_recv hKM hPM (ci := 3) (q0 := 0) rfl rfl) rfl hl.1 rfl (Nat.le_of_ble_eq_true rfl) d_law_624 ⟨hcl, hsl⟩ (fun H locs hPL hPM hD hS => ?_)
    have hD := dSwap hD
    refine lv_istore (lv' := [(6, .int ((f_Mo_zone G B (xs (i + 1).toNatClampNeg) 0).1)), (5, .int ((hL cm_Lw_zone f (f_RS_zone F A (xs (i + 1).toNatClampNeg) 0)).1)), (0, .ref b), (1, .ref (r 0)), (2, .ref (r2 0)), (3, .ref o), (4, .int i)]) hx hb d_law_627 hl (by decide) rfl (fun ls hl => ?_)
    refine lv_goto (tgt := 889) hx hb d_law_629 (by decide) ?_
    exact next _ _ _ _ _ _ _ ls (by rw [hL_st]; exact sim_zone rel (xs (i + 1).toNatClampNeg) 0) hPL hPM hD hS (lv_sub hl [2, 3, 4, 5, 6] rfl)
  · refine lv_iconst (v := 1) hx hb d_law_592 (by decide) ?_
    refine lv_goto (tgt := 597) hx hb d_law_593 (by decide) ?_
    refine lv_aload_n hx hb d_law_597 rfl (lv_at hl 3 rfl) ?_
    refine scS (rest := []) (hh := [(0, 10, 13, 19), (0, 10, 17, 27)]) (wr := wM r2 k2 G B) (wf := fun u : SL => wL r k u.2.1 u.2.2 o kO u.1) ⟨hx, hb, hml, hown, hW⟩ (c_Lw_zone l hl9 dC dI r k F A o kO f _ (xs (i + 1).toNatClampNeg) 1 hI) (vx_cwSW 4 hW (gInS k_418 k_419 k_345 k_420) rfl rfl rfl (by decide +kernel) ⟨Nat.le_of_ble_eq_true rfl, Nat.le_of_ble_eq_true rfl⟩) hKL hPM hPL hD hS hA hXS rfl hl.1 rfl (Nat.le_of_ble_eq_true rfl) d_law_598 ⟨hcl, hsl⟩ (fun H locs hPM hPL hD hS => ?_)
    refine lv_istore (lv' := [(5, .int ((hL cm_Lw_zone f (f_RS_zone F A (xs (i + 1).toNatClampNeg) 1)).1)), (0, .ref b), (1, .ref (r 0)), (2, .ref (r2 0)), (3, .ref o), (4, .int i)]) hx hb d_law_601 hl (by decide) rfl (fun ls hl => ?_)
    refine lv_aload_n hx hb d_law_603 rfl (lv_at hl 3 rfl) ?_
    refine lv_aload_n hx hb d_law_604 rfl (lv_at hl 1 rfl) ?_
    refine lv_iload hx hb d_law_605 (lv_at hl 5 rfl) ?_
    refine lv_iconst (v := 1) hx hb d_law_607 (by decide) ?_
    refine lv_iadd hx hb d_law_608 ?_
    refine va_sld hx hb hX hbl hbA hS h1 d_law_609 ?_
    refine lv_aload_n hx hb d_law_610 rfl (lv_at hl 1 rfl) ?_
    refine lv_iload hx hb d_law_611 (lv_at hl 5 rfl) ?_
    refine lv_iconst (v := 2) hx hb d_law_613 (by decide) ?_
    refine lv_iadd hx hb d_law_614 ?_
    refine va_sld hx hb hX hbl hbA hS h2 d_law_615 ?_
    refine lv_if_eq (tgt := 623) hx hb d_law_616 (by decide) (fun h9 => absurd h9 e_4) (fun _ => ?_)
    refine lv_iconst (v := 1) hx hb d_law_619 (by decide) ?_
    refine lv_goto (tgt := 624) hx hb d_law_620 (by decide) ?_
    refine mcV (rest := []) (wr := wL r k ((hL cm_Lw_zone f (f_RS_zone F A (xs (i + 1).toNatClampNeg) 1)).2.2.1) ((hL cm_Lw_zone f (f_RS_zone F A (xs (i + 1).toNatClampNeg) 1)).2.2.2) o kO ((hL cm_Lw_zone f (f_RS_zone F A (xs (i + 1).toNatClampNeg) 1)).2.1)) (wf := fun u : SC => wM r2 k2 u.1 u.2) ⟨hx, hb, hml, hown, hW⟩ (c_Mo_zone l dC dI r2 k2 G B _ (xs (i + 1).toNatClampNeg) 1 hJ) (cwV 2 hW (gIn k_421 k_422 k_423 k_193 k_424) rfl rfl rfl (by decide +kernel) ⟨Nat.le_of_ble_eq_true rfl, Nat.le_of_ble_eq_true rfl⟩) hKM hPL hPM (dSwap hD) hS hA (va_recv hKM hPM (ci := 3) (q0 := 0) rfl rfl) rfl hl.1 rfl (Nat.le_of_ble_eq_true rfl) d_law_624 ⟨hcl, hsl⟩ (fun H locs hPL hPM hD hS => ?_)
    have hD := dSwap hD
    refine lv_istore (lv' := [(6, .int ((f_Mo_zone G B (xs (i + 1).toNatClampNeg) 1).1)), (5, .int ((hL cm_Lw_zone f (f_RS_zone F A (xs (i + 1).toNatClampNeg) 1)).1)), (0, .ref b), (1, .ref (r 0)), (2, .ref (r2 0)), (3, .ref o), (4, .int i)]) hx hb d_law_627 hl (by decide) rfl (fun ls hl => ?_)
    refine lv_goto (tgt := 889) hx hb d_law_629 (by decide) ?_
    exact next _ _ _ _ _ _ _ ls (by rw [hL_st]; exact sim_zone rel (xs (i + 1).toNatClampNeg) 1) hPL hPM hD hS (lv_sub hl [2, 3, 4, 5, 6] rfl)
set_option maxHeartbeats 4000000 in
set_option maxRecDepth 100000 in
theorem case_11 {p : Program} {l : Launch} {e : Env} {s : State} {m : MethodId} {below : List Frame} {meth : Method} {c : Code} {dC : Nat → ClassId} {dI : Nat → Nat → Nat} {b L : Nat} {xs : Nat → Int32} {r : Nat → Nat} {k : Nat → ClassId} {o : Nat} {kO : ClassId} {r2 : Nat → Nat} {k2 : Nat → ClassId} (hl9 : l.stackTraces = false) (C0 : lw_At p s m meth c b L xs) (hXS : XS (fun q => s.heap.size ≤ q) s s.heap) (hKL : va_K (dC, dI) classes (tL k kO) s) (hKM : va_K (dC, dI) classes (tM k2) s) {F : Nat → Int32} {A : Nat → Nat → Int32} {f : Nat → Int64} {G : Nat → Int32} {B : Nat → Nat → Int32} {H : Heap} {locs : List Loc} {ls : Array Slot} {i : Int32} {cells slots : Nat} {Q : State → Prop} (hcl : cells + 1 ≤ 1078) (hsl : slots + 6 ≤ 9466) (h1 : vp_in (i + 1) L) (h2 : vp_in (i + 2) L) (h3 : vp_in (i + 3) L) (h4 : vp_in (i + 4) L) (h5 : vp_in (i + 5) L) (rel : LR F A G B) (hPL : va_P (dC, dI) classes (wL r k F A o kO f) H) (hPM : va_P (dC, dI) classes (wM r2 k2 G B) H) (hD : va_D (fun q => s.heap.size ≤ q) (wM r2 k2 G B ++ wL r k F A o kO f)) (hS : va_S (fun q => s.heap.size ≤ q) s.heap H locs) (hl : lv_has ls 7 [(0, .ref b), (1, .ref (r 0)), (2, .ref (r2 0)), (3, .ref o), (4, .int i)])
    (next : ∀ (F : Nat → Int32) (A : Nat → Nat → Int32) (f : Nat → Int64) (G : Nat → Int32) (B : Nat → Nat → Int32) (H : Heap) (locs : List Loc) (ls : Array Slot), LR F A G B → va_P (dC, dI) classes (wL r k F A o kO f) H → va_P (dC, dI) classes (wM r2 k2 G B) H → va_D (fun q => s.heap.size ≤ q) (wM r2 k2 G B ++ wL r k F A o kO f) → va_S (fun q => s.heap.size ≤ q) s.heap H locs → lv_has ls 7 [(0, .ref b), (1, .ref (r 0)), (2, .ref (r2 0)), (3, .ref o), (4, .int i)] → W p l e room_1 s m #[Value.ref b] below meth c H locs (cells + 1) (slots + 6) Q (F0 m 889 ls [])) : W p l e room_1 s m #[Value.ref b] below meth c H locs cells slots Q (F0 m 632 ls []) := by
  obtain ⟨hx, hb, hr, hml, hown, hts, hX, hbl, hlocks, hgv⟩ := C0
  have hW : ∀ w ∈ WALL, w.before #[Value.ref b] s = true := fun w h => hts w (WALL_good w h).1
  have hA : ∀ q : Nat, s.heap.size ≤ q → (fun q : Nat => s.heap.size ≤ q) q := fun _ h => h
  have hbA : ¬ (fun q : Nat => s.heap.size ≤ q) b := Nat.not_le.mpr hbl
  have hI := rel.ci
  have hJ := rel.si
  have h_at := rel.at
  refine lv_aload_n hx hb d_law_632 rfl (lv_at hl 1 rfl) ?_
  refine lv_aload_n hx hb d_law_633 rfl (lv_at hl 0 rfl) ?_
  refine lv_iload hx hb d_law_634 (lv_at hl 4 rfl) ?_
  refine lv_iconst (v := 1) hx hb d_law_636 (by decide) ?_
  refine lv_iadd hx hb d_law_637 ?_
  refine va_sld hx hb hX hbl hbA hS h1 d_law_638 ?_
  refine lv_aload_n hx hb d_law_639 rfl (lv_at hl 0 rfl) ?_
  refine lv_iload hx hb d_law_640 (lv_at hl 4 rfl) ?_
  refine lv_iconst (v := 2) hx hb d_law_642 (by decide) ?_
  refine lv_iadd hx hb d_law_643 ?_
  refine va_sld hx hb hX hbl hbA hS h2 d_law_644 ?_
  refine lv_if_eq (tgt := 652) hx hb d_law_645 (by decide) (fun e_5 => ?_) (fun e_5 => ?_)
  · refine lv_iconst (v := 0) hx hb d_law_652 (by decide) ?_
    refine lv_aload_n hx hb d_law_653 rfl (lv_at hl 3 rfl) ?_
    refine scS (rest := []) (hh := [(0, 10, 13, 19), (0, 10, 17, 27)]) (wr := wM r2 k2 G B) (wf := fun u : SL => wL r k u.2.1 u.2.2 o kO u.1) ⟨hx, hb, hml, hown, hW⟩ (c_Lw_halt l hl9 dC dI r k F A o kO f _ (xs (i + 1).toNatClampNeg) 0 hI) (vx_cwSW 4 hW (gInS k_425 k_426 k_345 k_427) rfl rfl rfl (by decide +kernel) ⟨Nat.le_of_ble_eq_true rfl, Nat.le_of_ble_eq_true rfl⟩) hKL hPM hPL hD hS hA hXS rfl hl.1 rfl (Nat.le_of_ble_eq_true rfl) d_law_654 ⟨hcl, hsl⟩ (fun H locs hPM hPL hD hS => ?_)
    refine lv_istore (lv' := [(5, .int ((hL cm_Lw_halt f (f_RS_halt F A (xs (i + 1).toNatClampNeg) 0)).1)), (0, .ref b), (1, .ref (r 0)), (2, .ref (r2 0)), (3, .ref o), (4, .int i)]) hx hb d_law_657 hl (by decide) rfl (fun ls hl => ?_)
    refine lv_aload_n hx hb d_law_659 rfl (lv_at hl 3 rfl) ?_
    refine lv_aload_n hx hb d_law_660 rfl (lv_at hl 1 rfl) ?_
    refine lv_iload hx hb d_law_661 (lv_at hl 5 rfl) ?_
    refine lv_iconst (v := 1) hx hb d_law_663 (by decide) ?_
    refine lv_iadd hx hb d_law_664 ?_
    refine va_sld hx hb hX hbl hbA hS h1 d_law_665 ?_
    refine lv_aload_n hx hb d_law_666 rfl (lv_at hl 1 rfl) ?_
    refine lv_iload hx hb d_law_667 (lv_at hl 5 rfl) ?_
    refine lv_iconst (v := 2) hx hb d_law_669 (by decide) ?_
    refine lv_iadd hx hb d_law_670 ?_
    refine va_sld hx hb hX hbl hbA hS h2 d_law_671 ?_
    refine lv_if_eq (tgt := 679) hx hb d_law_672 (by decide) (fun _ => ?_) (fun h9 => absurd e_5 h9)
    refine lv_iconst (v := 0) hx hb d_law_679 (by decide) ?_
    refine mcV (rest := []) (wr := wL r k ((hL cm_Lw_halt f (f_RS_halt F A (xs (i + 1).toNatClampNeg) 0)).2.2.1) ((hL cm_Lw_halt f (f_RS_halt F A (xs (i + 1).toNatClampNeg) 0)).2.2.2) o kO ((hL cm_Lw_halt f (f_RS_halt F A (xs (i + 1).toNatClampNeg) 0)).2.1)) (wf := fun u : SC => wM r2 k2 u.1 u.2) ⟨hx, hb, hml, hown, hW⟩ (c_Mo_halt l dC dI r2 k2 G B _ (xs (i + 1).toNatClampNeg) 0 hJ) (cwV 2 hW (gIn k_428 k_429 k_430 k_193 k_431) rfl rfl rfl (by decide +kernel) ⟨Nat.le_of_ble_eq_true rfl, Nat.le_of_ble_eq_true rfl⟩) hKM hPL hPM (dSwap hD) hS hA (va_recv hKM hPM (ci := 3) (q0 := 0) rfl rfl) rfl hl.1 rfl (Nat.le_of_ble_eq_true rfl) d_law_680 ⟨hcl, hsl⟩ (fun H locs hPL hPM hD hS => ?_)
    have hD := dSwap hD
    refine lv_istore (lv' := [(6, .int ((f_Mo_halt G B (xs (i + 1).toNatClampNeg) 0).1)), (5, .int ((hL cm_Lw_halt f (f_RS_halt F A (xs (i + 1).toNatClampNeg) 0)).1)), (0, .ref b), (1, .ref (r 0)), (2, .ref (r2 0)), (3, .ref o), (4, .int i)]) hx hb d_law_683 hl (by decide) rfl (fun ls hl => ?_)
    refine lv_goto (tgt := 889) hx hb d_law_685 (by decide) ?_
    exact next _ _ _ _ _ _ _ ls (by rw [hL_st]; exact sim_halt rel (xs (i + 1).toNatClampNeg) 0) hPL hPM hD hS (lv_sub hl [2, 3, 4, 5, 6] rfl)
  · refine lv_iconst (v := 1) hx hb d_law_648 (by decide) ?_
    refine lv_goto (tgt := 653) hx hb d_law_649 (by decide) ?_
    refine lv_aload_n hx hb d_law_653 rfl (lv_at hl 3 rfl) ?_
    refine scS (rest := []) (hh := [(0, 10, 13, 19), (0, 10, 17, 27)]) (wr := wM r2 k2 G B) (wf := fun u : SL => wL r k u.2.1 u.2.2 o kO u.1) ⟨hx, hb, hml, hown, hW⟩ (c_Lw_halt l hl9 dC dI r k F A o kO f _ (xs (i + 1).toNatClampNeg) 1 hI) (vx_cwSW 4 hW (gInS k_425 k_426 k_345 k_427) rfl rfl rfl (by decide +kernel) ⟨Nat.le_of_ble_eq_true rfl, Nat.le_of_ble_eq_true rfl⟩) hKL hPM hPL hD hS hA hXS rfl hl.1 rfl (Nat.le_of_ble_eq_true rfl) d_law_654 ⟨hcl, hsl⟩ (fun H locs hPM hPL hD hS => ?_)
    refine lv_istore (lv' := [(5, .int ((hL cm_Lw_halt f (f_RS_halt F A (xs (i + 1).toNatClampNeg) 1)).1)), (0, .ref b), (1, .ref (r 0)), (2, .ref (r2 0)), (3, .ref o), (4, .int i)]) hx hb d_law_657 hl (by decide) rfl (fun ls hl => ?_)
    refine lv_aload_n hx hb d_law_659 rfl (lv_at hl 3 rfl) ?_
    refine lv_aload_n hx hb d_law_660 rfl (lv_at hl 1 rfl) ?_
    refine lv_iload hx hb d_law_661 (lv_at hl 5 rfl) ?_
    refine lv_iconst (v := 1) hx hb d_law_663 (by decide) ?_
    refine lv_iadd hx hb d_law_664 ?_
    refine va_sld hx hb hX hbl hbA hS h1 d_law_665 ?_
    refine lv_aload_n hx hb d_law_666 rfl (lv_at hl 1 rfl) ?_
    refine lv_iload hx hb d_law_667 (lv_at hl 5 rfl) ?_
    refine lv_iconst (v := 2) hx hb d_law_669 (by decide) ?_
    refine lv_iadd hx hb d_law_670 ?_
    refine va_sld hx hb hX hbl hbA hS h2 d_law_671 ?_
    refine lv_if_eq (tgt := 679) hx hb d_law_672 (by decide) (fun h9 => absurd h9 e_5) (fun _ => ?_)
    refine lv_iconst (v := 1) hx hb d_law_675 (by decide) ?_
    refine lv_goto (tgt := 680) hx hb d_law_676 (by decide) ?_
    refine mcV (rest := []) (wr := wL r k ((hL cm_Lw_halt f (f_RS_halt F A (xs (i + 1).toNatClampNeg) 1)).2.2.1) ((hL cm_Lw_halt f (f_RS_halt F A (xs (i + 1).toNatClampNeg) 1)).2.2.2) o kO ((hL cm_Lw_halt f (f_RS_halt F A (xs (i + 1).toNatClampNeg) 1)).2.1)) (wf := fun u : SC => wM r2 k2 u.1 u.2) ⟨hx, hb, hml, hown, hW⟩ (c_Mo_halt l dC dI r2 k2 G B _ (xs (i + 1).toNatClampNeg) 1 hJ) (cwV 2 hW (gIn k_428 k_429 k_430 k_193 k_431) rfl rfl rfl (by decide +kernel) ⟨Nat.le_of_ble_eq_true rfl, Nat.le_of_ble_eq_true rfl⟩) hKM hPL hPM (dSwap hD) hS hA (va_recv hKM hPM (ci := 3) (q0 := 0) rfl rfl) rfl hl.1 rfl (Nat.le_of_ble_eq_true rfl) d_law_680 ⟨hcl, hsl⟩ (fun H locs hPL hPM hD hS => ?_)
    have hD := dSwap hD
    refine lv_istore (lv' := [(6, .int ((f_Mo_halt G B (xs (i + 1).toNatClampNeg) 1).1)), (5, .int ((hL cm_Lw_halt f (f_RS_halt F A (xs (i + 1).toNatClampNeg) 1)).1)), (0, .ref b), (1, .ref (r 0)), (2, .ref (r2 0)), (3, .ref o), (4, .int i)]) hx hb d_law_683 hl (by decide) rfl (fun ls hl => ?_)
    refine lv_goto (tgt := 889) hx hb d_law_685 (by decide) ?_
    exact next _ _ _ _ _ _ _ ls (by rw [hL_st]; exact sim_halt rel (xs (i + 1).toNatClampNeg) 1) hPL hPM hD hS (lv_sub hl [2, 3, 4, 5, 6] rfl)
