set_option maxHeartbeats 4000000 in
set_option maxRecDepth 100000 in
theorem case_12 {p : Program} {l : Launch} {e : Env} {s : State} {m : MethodId} {below : List Frame} {meth : Method} {c : Code} {dC : Nat → ClassId} {dI : Nat → Nat → Nat} {b L : Nat} {xs : Nat → Int32} {r : Nat → Nat} {k : Nat → ClassId} {o : Nat} {kO : ClassId} {r2 : Nat → Nat} {k2 : Nat → ClassId} (hl9 : l.stackTraces = false) (C0 : lw_At p s m meth c b L xs) (hXS : XS (fun q => s.heap.size ≤ q) s s.heap) (hKL : va_K (dC, dI) classes (tL k kO) s) (hKM : va_K (dC, dI) classes (tM k2) s) {F : Nat → Int32} {A : Nat → Nat → Int32} {f : Nat → Int64} {G : Nat → Int32} {B : Nat → Nat → Int32} {H : Heap} {locs : List Loc} {ls : Array Slot} {i : Int32} {cells slots : Nat} {Q : State → Prop} (hcl : cells + 1 ≤ 56) (hsl : slots + 6 ≤ 1290) (h1 : vp_in (i + 1) L) (h2 : vp_in (i + 2) L) (h3 : vp_in (i + 3) L) (h4 : vp_in (i + 4) L) (h5 : vp_in (i + 5) L) (rel : LR F A G B) (hPL : va_P (dC, dI) classes (wL r k F A o kO f) H) (hPM : va_P (dC, dI) classes (wM r2 k2 G B) H) (hD : va_D (fun q => s.heap.size ≤ q) (wM r2 k2 G B ++ wL r k F A o kO f)) (hS : va_S (fun q => s.heap.size ≤ q) s.heap H locs) (hl : lv_has ls 7 [(0, .ref b), (1, .ref (r 0)), (2, .ref (r2 0)), (3, .ref o), (4, .int i)])
    (next : ∀ (F : Nat → Int32) (A : Nat → Nat → Int32) (f : Nat → Int64) (G : Nat → Int32) (B : Nat → Nat → Int32) (H : Heap) (locs : List Loc) (ls : Array Slot), LR F A G B → va_P (dC, dI) classes (wL r k F A o kO f) H → va_P (dC, dI) classes (wM r2 k2 G B) H → va_D (fun q => s.heap.size ≤ q) (wM r2 k2 G B ++ wL r k F A o kO f) → va_S (fun q => s.heap.size ≤ q) s.heap H locs → lv_has ls 7 [(0, .ref b), (1, .ref (r 0)), (2, .ref (r2 0)), (3, .ref o), (4, .int i)] → W p l e room_1 s m #[Value.ref b] below meth c H locs (cells + 1) (slots + 6) Q (F0 m 1351 ls [])) : W p l e room_1 s m #[Value.ref b] below meth c H locs cells slots Q (F0 m 1003 ls []) := by
  obtain ⟨hx, hb, hr, hml, hown, hts, hX, hbl, hlocks, hgv⟩ := C0
  have hW : ∀ w ∈ WALL, w.before #[Value.ref b] s = true := fun w h => hts w (WALL_good w h).1
  have hA : ∀ q : Nat, s.heap.size ≤ q → (fun q : Nat => s.heap.size ≤ q) q := fun _ h => h
  have hbA : ¬ (fun q : Nat => s.heap.size ≤ q) b := Nat.not_le.mpr hbl
  have hI := rel.ci
  have hJ := rel.si
  have h_at := rel.at
  refine lv_aload_n hx hb d_law_1003 rfl (lv_at hl 1 rfl) ?_
  refine lv_aload_n hx hb d_law_1004 rfl (lv_at hl 0 rfl) ?_
  refine lv_iload hx hb d_law_1005 (lv_at hl 4 rfl) ?_
  refine lv_iconst (v := 1) hx hb d_law_1007 (by decide) ?_
  refine lv_iadd hx hb d_law_1008 ?_
  refine va_sld hx hb hX hbl hbA hS h1 d_law_1009 ?_
  refine lv_aload_n hx hb d_law_1010 rfl (lv_at hl 3 rfl) ?_
  refine scS (rest := []) (hh := [(0, 16, 19, 19)]) (wr := wM r2 k2 G B) (wf := fun u : SL => wL r k u.2.1 u.2.2 o kO u.1) ⟨hx, hb, hml, hown, hW⟩ (c_Lw_report l hl9 dC dI r k F A o kO f _ (xs (i + 1).toNatClampNeg) hI) (vx_cwSW 3 hW (gInS k_432 k_433 k_345 k_434) rfl rfl rfl (by decide +kernel) ⟨Nat.le_of_ble_eq_true rfl, Nat.le_of_ble_eq_true rfl⟩) hKL hPM hPL hD hS hA hXS rfl hl.1 rfl (Nat.le_of_ble_eq_true rfl) d_law_1011 ⟨hcl, hsl⟩ (fun H locs hPM hPL hD hS => ?_)
  refine lv_istore (lv' := [(5, .int ((hB cm_Lw_report f (f_RS_report F A (xs (i + 1).toNatClampNeg))).1)), (0, .ref b), (1, .ref (r 0)), (2, .ref (r2 0)), (3, .ref o), (4, .int i)]) hx hb d_law_1014 hl (by decide) rfl (fun ls hl => ?_)
  refine lv_aload_n hx hb d_law_1016 rfl (lv_at hl 3 rfl) ?_
  refine lv_aload_n hx hb d_law_1017 rfl (lv_at hl 1 rfl) ?_
  refine lv_iload hx hb d_law_1018 (lv_at hl 5 rfl) ?_
  refine lv_iconst (v := 1) hx hb d_law_1020 (by decide) ?_
  refine lv_iadd hx hb d_law_1021 ?_
  refine va_sld hx hb hX hbl hbA hS h1 d_law_1022 ?_
  refine mcV (rest := []) (wr := wL r k ((hB cm_Lw_report f (f_RS_report F A (xs (i + 1).toNatClampNeg))).2.2.1) ((hB cm_Lw_report f (f_RS_report F A (xs (i + 1).toNatClampNeg))).2.2.2) o kO ((hB cm_Lw_report f (f_RS_report F A (xs (i + 1).toNatClampNeg))).2.1)) (wf := fun u : SC => wM r2 k2 u.1 u.2) ⟨hx, hb, hml, hown, hW⟩ (c_Mo_report l dC dI r2 k2 G B _ (xs (i + 1).toNatClampNeg) hJ) (cwV 1 hW (gIn k_435 k_436 k_437 k_193 k_438) rfl rfl rfl (by decide +kernel) ⟨Nat.le_of_ble_eq_true rfl, Nat.le_of_ble_eq_true rfl⟩) hKM hPL hPM (dSwap hD) hS hA (va_recv hKM hPM (ci := 3) (q0 := 0) rfl rfl) rfl hl.1 rfl (Nat.le_of_ble_eq_true rfl) d_law_1023 ⟨hcl, hsl⟩ (fun H locs hPL hPM hD hS => ?_)
  have hD := dSwap hD
  refine lv_istore (lv' := [(6, .int ((f_Mo_report G B (xs (i + 1).toNatClampNeg)).1)), (5, .int ((hB cm_Lw_report f (f_RS_report F A (xs (i + 1).toNatClampNeg))).1)), (0, .ref b), (1, .ref (r 0)), (2, .ref (r2 0)), (3, .ref o), (4, .int i)]) hx hb d_law_1026 hl (by decide) rfl (fun ls hl => ?_)
  refine lv_aload_n hx hb d_law_1028 rfl (lv_at hl 4 rfl) ?_
  refine rdV (rest := []) ⟨hx, hb, hml, hown, hW⟩ (c_Mo_thrown l dC dI r2 k2 ((f_Mo_report G B (xs (i + 1).toNatClampNeg)).2.1) ((f_Mo_report G B (xs (i + 1).toNatClampNeg)).2.2)) (cwV 0 hW (gIn k_351 k_352 k_353 k_193 k_354) rfl rfl rfl (by decide +kernel) ⟨Nat.le_of_ble_eq_true rfl, Nat.le_of_ble_eq_true rfl⟩) hKM hPM (va_recv hKM hPM (ci := 3) (q0 := 0) rfl rfl) rfl hl.1 rfl (Nat.le_of_ble_eq_true rfl) d_law_1029 ⟨hcl, hsl⟩ ?_
  refine lv_iload hx hb d_law_1032 (lv_at hl 1 rfl) ?_
  refine lv_icmp_eq (tgt := 1039) hx hb d_law_1034 (by decide) (fun _ => ?_) (fun h9 => absurd (ans_report rel (xs (i + 1).toNatClampNeg) f).1 h9)
  refine lv_iload hx hb d_law_1039 (lv_at hl 1 rfl) ?_
  refine lv_if_ne (tgt := 1063) hx hb d_law_1041 (by decide) (fun e_22 => ?_) (fun e_22 => ?_)
  · refine lv_goto (tgt := 1351) hx hb d_law_1063 (by decide) ?_
    exact next _ _ _ _ _ _ _ ls (by rw [hB_st]; exact sim_report rel (xs (i + 1).toNatClampNeg)) hPL hPM hD hS (lv_sub hl [2, 3, 4, 5, 6] rfl)
  · refine lv_aload_n hx hb d_law_1044 rfl (lv_at hl 5 rfl) ?_
    refine lv_iconst (v := 0) hx hb d_law_1045 (by decide) ?_
    refine va_lald hx hb hKL hPL 0 0 rfl rfl in01 d_law_1046 ?_
    refine lv_iload hx hb d_law_1047 (lv_at hl 0 rfl) ?_
    refine lv_if_eq (tgt := 1056) hx hb d_law_1049 (by decide) (fun e_23 => ?_) (fun e_23 => ?_)
    · refine lv_lconst (v := 0) hx hb d_law_1056 rfl ?_
      refine W.lcmp hx hb d_law_1057 ?_
      refine lv_if_eq (tgt := 1063) hx hb d_law_1058 (by decide) (fun _ => ?_) (fun h9 => absurd (lgc_self (((ans_report rel (xs (i + 1).toNatClampNeg) f).2 e_22).trans (if_pos e_23))) h9)
      refine lv_goto (tgt := 1351) hx hb d_law_1063 (by decide) ?_
      exact next _ _ _ _ _ _ _ ls (by rw [hB_st]; exact sim_report rel (xs (i + 1).toNatClampNeg)) hPL hPM hD hS (lv_sub hl [2, 3, 4, 5, 6] rfl)
    · refine lv_lconst (v := 1) hx hb d_law_1052 rfl ?_
      refine lv_goto (tgt := 1057) hx hb d_law_1053 (by decide) ?_
      refine W.lcmp hx hb d_law_1057 ?_
      refine lv_if_eq (tgt := 1063) hx hb d_law_1058 (by decide) (fun _ => ?_) (fun h9 => absurd (lgc_self (((ans_report rel (xs (i + 1).toNatClampNeg) f).2 e_22).trans (if_neg e_23))) h9)
      refine lv_goto (tgt := 1351) hx hb d_law_1063 (by decide) ?_
      exact next _ _ _ _ _ _ _ ls (by rw [hB_st]; exact sim_report rel (xs (i + 1).toNatClampNeg)) hPL hPM hD hS (lv_sub hl [2, 3, 4, 5, 6] rfl)
set_option maxHeartbeats 4000000 in
set_option maxRecDepth 100000 in
theorem case_13 {p : Program} {l : Launch} {e : Env} {s : State} {m : MethodId} {below : List Frame} {meth : Method} {c : Code} {dC : Nat → ClassId} {dI : Nat → Nat → Nat} {b L : Nat} {xs : Nat → Int32} {r : Nat → Nat} {k : Nat → ClassId} {o : Nat} {kO : ClassId} {r2 : Nat → Nat} {k2 : Nat → ClassId} (hl9 : l.stackTraces = false) (C0 : lw_At p s m meth c b L xs) (hXS : XS (fun q => s.heap.size ≤ q) s s.heap) (hKL : va_K (dC, dI) classes (tL k kO) s) (hKM : va_K (dC, dI) classes (tM k2) s) {F : Nat → Int32} {A : Nat → Nat → Int32} {f : Nat → Int64} {G : Nat → Int32} {B : Nat → Nat → Int32} {H : Heap} {locs : List Loc} {ls : Array Slot} {i : Int32} {cells slots : Nat} {Q : State → Prop} (hcl : cells + 1 ≤ 56) (hsl : slots + 6 ≤ 1290) (h1 : vp_in (i + 1) L) (h2 : vp_in (i + 2) L) (h3 : vp_in (i + 3) L) (h4 : vp_in (i + 4) L) (h5 : vp_in (i + 5) L) (rel : LR F A G B) (hPL : va_P (dC, dI) classes (wL r k F A o kO f) H) (hPM : va_P (dC, dI) classes (wM r2 k2 G B) H) (hD : va_D (fun q => s.heap.size ≤ q) (wM r2 k2 G B ++ wL r k F A o kO f)) (hS : va_S (fun q => s.heap.size ≤ q) s.heap H locs) (hl : lv_has ls 7 [(0, .ref b), (1, .ref (r 0)), (2, .ref (r2 0)), (3, .ref o), (4, .int i)])
    (next : ∀ (F : Nat → Int32) (A : Nat → Nat → Int32) (f : Nat → Int64) (G : Nat → Int32) (B : Nat → Nat → Int32) (H : Heap) (locs : List Loc) (ls : Array Slot), LR F A G B → va_P (dC, dI) classes (wL r k F A o kO f) H → va_P (dC, dI) classes (wM r2 k2 G B) H → va_D (fun q => s.heap.size ≤ q) (wM r2 k2 G B ++ wL r k F A o kO f) → va_S (fun q => s.heap.size ≤ q) s.heap H locs → lv_has ls 7 [(0, .ref b), (1, .ref (r 0)), (2, .ref (r2 0)), (3, .ref o), (4, .int i)] → W p l e room_1 s m #[Value.ref b] below meth c H locs (cells + 1) (slots + 6) Q (F0 m 1351 ls [])) : W p l e room_1 s m #[Value.ref b] below meth c H locs cells slots Q (F0 m 1066 ls []) := by
  obtain ⟨hx, hb, hr, hml, hown, hts, hX, hbl, hlocks, hgv⟩ := C0
  have hW : ∀ w ∈ WALL, w.before #[Value.ref b] s = true := fun w h => hts w (WALL_good w h).1
  have hA : ∀ q : Nat, s.heap.size ≤ q → (fun q : Nat => s.heap.size ≤ q) q := fun _ h => h
  have hbA : ¬ (fun q : Nat => s.heap.size ≤ q) b := Nat.not_le.mpr hbl
  have hI := rel.ci
  have hJ := rel.si
  have h_at := rel.at
  refine lv_aload_n hx hb d_law_1066 rfl (lv_at hl 1 rfl) ?_
  refine lv_aload_n hx hb d_law_1067 rfl (lv_at hl 0 rfl) ?_
  refine lv_iload hx hb d_law_1068 (lv_at hl 4 rfl) ?_
  refine lv_iconst (v := 1) hx hb d_law_1070 (by decide) ?_
  refine lv_iadd hx hb d_law_1071 ?_
  refine va_sld hx hb hX hbl hbA hS h1 d_law_1072 ?_
  refine lv_aload_n hx hb d_law_1073 rfl (lv_at hl 3 rfl) ?_
  refine scS (rest := []) (hh := [(0, 9, 12, 21)]) (wr := wM r2 k2 G B) (wf := fun u : SL => wL r k u.2.1 u.2.2 o kO u.1) ⟨hx, hb, hml, hown, hW⟩ (c_Lw_pass l hl9 dC dI r k F A o kO f _ (xs (i + 1).toNatClampNeg) hI) (vx_cwSW 3 hW (gInS k_439 k_440 k_345 k_441) rfl rfl rfl (by decide +kernel) ⟨Nat.le_of_ble_eq_true rfl, Nat.le_of_ble_eq_true rfl⟩) hKL hPM hPL hD hS hA hXS rfl hl.1 rfl (Nat.le_of_ble_eq_true rfl) d_law_1074 ⟨hcl, hsl⟩ (fun H locs hPM hPL hD hS => ?_)
  refine lv_istore (lv' := [(5, .int ((hL cm_Lw_pass f (f_RS_pass F A (xs (i + 1).toNatClampNeg))).1)), (0, .ref b), (1, .ref (r 0)), (2, .ref (r2 0)), (3, .ref o), (4, .int i)]) hx hb d_law_1077 hl (by decide) rfl (fun ls hl => ?_)
  refine lv_aload_n hx hb d_law_1079 rfl (lv_at hl 3 rfl) ?_
  refine lv_aload_n hx hb d_law_1080 rfl (lv_at hl 1 rfl) ?_
  refine lv_iload hx hb d_law_1081 (lv_at hl 5 rfl) ?_
  refine lv_iconst (v := 1) hx hb d_law_1083 (by decide) ?_
  refine lv_iadd hx hb d_law_1084 ?_
  refine va_sld hx hb hX hbl hbA hS h1 d_law_1085 ?_
  refine mcV (rest := []) (wr := wL r k ((hL cm_Lw_pass f (f_RS_pass F A (xs (i + 1).toNatClampNeg))).2.2.1) ((hL cm_Lw_pass f (f_RS_pass F A (xs (i + 1).toNatClampNeg))).2.2.2) o kO ((hL cm_Lw_pass f (f_RS_pass F A (xs (i + 1).toNatClampNeg))).2.1)) (wf := fun u : SC => wM r2 k2 u.1 u.2) ⟨hx, hb, hml, hown, hW⟩ (c_Mo_pass l dC dI r2 k2 G B _ (xs (i + 1).toNatClampNeg) hJ) (cwV 1 hW (gIn k_442 k_443 k_444 k_193 k_445) rfl rfl rfl (by decide +kernel) ⟨Nat.le_of_ble_eq_true rfl, Nat.le_of_ble_eq_true rfl⟩) hKM hPL hPM (dSwap hD) hS hA (va_recv hKM hPM (ci := 3) (q0 := 0) rfl rfl) rfl hl.1 rfl (Nat.le_of_ble_eq_true rfl) d_law_1086 ⟨hcl, hsl⟩ (fun H locs hPL hPM hD hS => ?_)
  have hD := dSwap hD
  refine lv_istore (lv' := [(6, .int ((f_Mo_pass G B (xs (i + 1).toNatClampNeg)).1)), (5, .int ((hL cm_Lw_pass f (f_RS_pass F A (xs (i + 1).toNatClampNeg))).1)), (0, .ref b), (1, .ref (r 0)), (2, .ref (r2 0)), (3, .ref o), (4, .int i)]) hx hb d_law_1089 hl (by decide) rfl (fun ls hl => ?_)
  refine lv_aload_n hx hb d_law_1091 rfl (lv_at hl 4 rfl) ?_
  refine rdV (rest := []) ⟨hx, hb, hml, hown, hW⟩ (c_Mo_thrown l dC dI r2 k2 ((f_Mo_pass G B (xs (i + 1).toNatClampNeg)).2.1) ((f_Mo_pass G B (xs (i + 1).toNatClampNeg)).2.2)) (cwV 0 hW (gIn k_351 k_352 k_353 k_193 k_354) rfl rfl rfl (by decide +kernel) ⟨Nat.le_of_ble_eq_true rfl, Nat.le_of_ble_eq_true rfl⟩) hKM hPM (va_recv hKM hPM (ci := 3) (q0 := 0) rfl rfl) rfl hl.1 rfl (Nat.le_of_ble_eq_true rfl) d_law_1092 ⟨hcl, hsl⟩ ?_
  refine lv_iload hx hb d_law_1095 (lv_at hl 1 rfl) ?_
  refine lv_icmp_eq (tgt := 1102) hx hb d_law_1097 (by decide) (fun _ => ?_) (fun h9 => absurd (ans_pass rel (xs (i + 1).toNatClampNeg) f).1 h9)
  refine lv_iload hx hb d_law_1102 (lv_at hl 1 rfl) ?_
  refine lv_if_ne (tgt := 1119) hx hb d_law_1104 (by decide) (fun e_24 => ?_) (fun e_24 => ?_)
  · refine lv_goto (tgt := 1351) hx hb d_law_1119 (by decide) ?_
    exact next _ _ _ _ _ _ _ ls (by rw [hL_st]; exact sim_pass rel (xs (i + 1).toNatClampNeg)) hPL hPM hD hS (lv_sub hl [2, 3, 4, 5, 6] rfl)
  · refine lv_aload_n hx hb d_law_1107 rfl (lv_at hl 5 rfl) ?_
    refine lv_iconst (v := 0) hx hb d_law_1108 (by decide) ?_
    refine va_lald hx hb hKL hPL 0 0 rfl rfl in01 d_law_1109 ?_
    refine lv_iload hx hb d_law_1110 (lv_at hl 0 rfl) ?_
    refine lv_i2l (v := ((f_Mo_pass G B (xs (i + 1).toNatClampNeg)).1).toInt64) hx hb d_law_1112 rfl ?_
    refine W.lcmp hx hb d_law_1113 ?_
    refine lv_if_eq (tgt := 1119) hx hb d_law_1114 (by decide) (fun _ => ?_) (fun h9 => absurd (lgc_self ((ans_pass rel (xs (i + 1).toNatClampNeg) f).2 e_24)) h9)
    refine lv_goto (tgt := 1351) hx hb d_law_1119 (by decide) ?_
    exact next _ _ _ _ _ _ _ ls (by rw [hL_st]; exact sim_pass rel (xs (i + 1).toNatClampNeg)) hPL hPM hD hS (lv_sub hl [2, 3, 4, 5, 6] rfl)
set_option maxHeartbeats 4000000 in
set_option maxRecDepth 100000 in
theorem case_14 {p : Program} {l : Launch} {e : Env} {s : State} {m : MethodId} {below : List Frame} {meth : Method} {c : Code} {dC : Nat → ClassId} {dI : Nat → Nat → Nat} {b L : Nat} {xs : Nat → Int32} {r : Nat → Nat} {k : Nat → ClassId} {o : Nat} {kO : ClassId} {r2 : Nat → Nat} {k2 : Nat → ClassId} (hl9 : l.stackTraces = false) (C0 : lw_At p s m meth c b L xs) (hXS : XS (fun q => s.heap.size ≤ q) s s.heap) (hKL : va_K (dC, dI) classes (tL k kO) s) (hKM : va_K (dC, dI) classes (tM k2) s) {F : Nat → Int32} {A : Nat → Nat → Int32} {f : Nat → Int64} {G : Nat → Int32} {B : Nat → Nat → Int32} {H : Heap} {locs : List Loc} {ls : Array Slot} {i : Int32} {cells slots : Nat} {Q : State → Prop} (hcl : cells + 1 ≤ 56) (hsl : slots + 6 ≤ 1290) (h1 : vp_in (i + 1) L) (h2 : vp_in (i + 2) L) (h3 : vp_in (i + 3) L) (h4 : vp_in (i + 4) L) (h5 : vp_in (i + 5) L) (rel : LR F A G B) (h00 : F 1 = 0) (hPL : va_P (dC, dI) classes (wL r k F A o kO f) H) (hPM : va_P (dC, dI) classes (wM r2 k2 G B) H) (hD : va_D (fun q => s.heap.size ≤ q) (wM r2 k2 G B ++ wL r k F A o kO f)) (hS : va_S (fun q => s.heap.size ≤ q) s.heap H locs) (hl : lv_has ls 7 [(0, .ref b), (1, .ref (r 0)), (2, .ref (r2 0)), (3, .ref o), (4, .int i)])
    (next : ∀ (F : Nat → Int32) (A : Nat → Nat → Int32) (f : Nat → Int64) (G : Nat → Int32) (B : Nat → Nat → Int32) (H : Heap) (locs : List Loc) (ls : Array Slot), LR F A G B → va_P (dC, dI) classes (wL r k F A o kO f) H → va_P (dC, dI) classes (wM r2 k2 G B) H → va_D (fun q => s.heap.size ≤ q) (wM r2 k2 G B ++ wL r k F A o kO f) → va_S (fun q => s.heap.size ≤ q) s.heap H locs → lv_has ls 7 [(0, .ref b), (1, .ref (r 0)), (2, .ref (r2 0)), (3, .ref o), (4, .int i)] → W p l e room_1 s m #[Value.ref b] below meth c H locs (cells + 1) (slots + 6) Q (F0 m 1351 ls [])) : W p l e room_1 s m #[Value.ref b] below meth c H locs cells slots Q (F0 m 1122 ls []) := by
  obtain ⟨hx, hb, hr, hml, hown, hts, hX, hbl, hlocks, hgv⟩ := C0
  have hW : ∀ w ∈ WALL, w.before #[Value.ref b] s = true := fun w h => hts w (WALL_good w h).1
  have hA : ∀ q : Nat, s.heap.size ≤ q → (fun q : Nat => s.heap.size ≤ q) q := fun _ h => h
  have hbA : ¬ (fun q : Nat => s.heap.size ≤ q) b := Nat.not_le.mpr hbl
  have hI := rel.ci
  have hJ := rel.si
  have h_at := rel.at
  refine lv_aload_n hx hb d_law_1122 rfl (lv_at hl 1 rfl) ?_
  refine lv_aload_n hx hb d_law_1123 rfl (lv_at hl 0 rfl) ?_
  refine lv_iload hx hb d_law_1124 (lv_at hl 4 rfl) ?_
  refine lv_iconst (v := 1) hx hb d_law_1126 (by decide) ?_
  refine lv_iadd hx hb d_law_1127 ?_
  refine va_sld hx hb hX hbl hbA hS h1 d_law_1128 ?_
  refine lv_aload_n hx hb d_law_1129 rfl (lv_at hl 0 rfl) ?_
  refine lv_iload hx hb d_law_1130 (lv_at hl 4 rfl) ?_
  refine lv_iconst (v := 2) hx hb d_law_1132 (by decide) ?_
  refine lv_iadd hx hb d_law_1133 ?_
  refine va_sld hx hb hX hbl hbA hS h2 d_law_1134 ?_
  refine lv_aload_n hx hb d_law_1135 rfl (lv_at hl 3 rfl) ?_
  refine scS (rest := []) (hh := [(0, 10, 13, 19), (0, 10, 17, 21)]) (wr := wM r2 k2 G B) (wf := fun u : SL => wL r k u.2.1 u.2.2 o kO u.1) ⟨hx, hb, hml, hown, hW⟩ (c_Lw_holder l hl9 dC dI r k F A o kO f _ (xs (i + 1).toNatClampNeg) (xs (i + 2).toNatClampNeg) hI) (vx_cwSW 4 hW (gInS k_446 k_447 k_345 k_448) rfl rfl rfl (by decide +kernel) ⟨Nat.le_of_ble_eq_true rfl, Nat.le_of_ble_eq_true rfl⟩) hKL hPM hPL hD hS hA hXS rfl hl.1 rfl (Nat.le_of_ble_eq_true rfl) d_law_1136 ⟨hcl, hsl⟩ (fun H locs hPM hPL hD hS => ?_)
  refine lv_istore (lv' := [(5, .int ((hL cm_Lw_holder f (f_RS_holder F A (xs (i + 1).toNatClampNeg) (xs (i + 2).toNatClampNeg))).1)), (0, .ref b), (1, .ref (r 0)), (2, .ref (r2 0)), (3, .ref o), (4, .int i)]) hx hb d_law_1139 hl (by decide) rfl (fun ls hl => ?_)
  refine lv_aload_n hx hb d_law_1141 rfl (lv_at hl 3 rfl) ?_
  refine lv_aload_n hx hb d_law_1142 rfl (lv_at hl 1 rfl) ?_
  refine lv_iload hx hb d_law_1143 (lv_at hl 5 rfl) ?_
  refine lv_iconst (v := 1) hx hb d_law_1145 (by decide) ?_
  refine lv_iadd hx hb d_law_1146 ?_
  refine va_sld hx hb hX hbl hbA hS h1 d_law_1147 ?_
  refine lv_aload_n hx hb d_law_1148 rfl (lv_at hl 1 rfl) ?_
  refine lv_iload hx hb d_law_1149 (lv_at hl 5 rfl) ?_
  refine lv_iconst (v := 2) hx hb d_law_1151 (by decide) ?_
  refine lv_iadd hx hb d_law_1152 ?_
  refine va_sld hx hb hX hbl hbA hS h2 d_law_1153 ?_
  refine mcV (rest := []) (wr := wL r k ((hL cm_Lw_holder f (f_RS_holder F A (xs (i + 1).toNatClampNeg) (xs (i + 2).toNatClampNeg))).2.2.1) ((hL cm_Lw_holder f (f_RS_holder F A (xs (i + 1).toNatClampNeg) (xs (i + 2).toNatClampNeg))).2.2.2) o kO ((hL cm_Lw_holder f (f_RS_holder F A (xs (i + 1).toNatClampNeg) (xs (i + 2).toNatClampNeg))).2.1)) (wf := fun u : SC => wM r2 k2 u.1 u.2) ⟨hx, hb, hml, hown, hW⟩ (c_Mo_holder l dC dI r2 k2 G B _ (xs (i + 1).toNatClampNeg) (xs (i + 2).toNatClampNeg) hJ) (cwV 2 hW (gIn k_449 k_450 k_451 k_193 k_452) rfl rfl rfl (by decide +kernel) ⟨Nat.le_of_ble_eq_true rfl, Nat.le_of_ble_eq_true rfl⟩) hKM hPL hPM (dSwap hD) hS hA (va_recv hKM hPM (ci := 3) (q0 := 0) rfl rfl) rfl hl.1 rfl (Nat.le_of_ble_eq_true rfl) d_law_1154 ⟨hcl, hsl⟩ (fun H locs hPL hPM hD hS => ?_)
  have hD := dSwap hD
  refine lv_istore (lv' := [(6, .int ((f_Mo_holder G B (xs (i + 1).toNatClampNeg) (xs (i + 2).toNatClampNeg)).1)), (5, .int ((hL cm_Lw_holder f (f_RS_holder F A (xs (i + 1).toNatClampNeg) (xs (i + 2).toNatClampNeg))).1)), (0, .ref b), (1, .ref (r 0)), (2, .ref (r2 0)), (3, .ref o), (4, .int i)]) hx hb d_law_1157 hl (by decide) rfl (fun ls hl => ?_)
  refine lv_aload_n hx hb d_law_1159 rfl (lv_at hl 4 rfl) ?_
  refine rdV (rest := []) ⟨hx, hb, hml, hown, hW⟩ (c_Mo_thrown l dC dI r2 k2 ((f_Mo_holder G B (xs (i + 1).toNatClampNeg) (xs (i + 2).toNatClampNeg)).2.1) ((f_Mo_holder G B (xs (i + 1).toNatClampNeg) (xs (i + 2).toNatClampNeg)).2.2)) (cwV 0 hW (gIn k_351 k_352 k_353 k_193 k_354) rfl rfl rfl (by decide +kernel) ⟨Nat.le_of_ble_eq_true rfl, Nat.le_of_ble_eq_true rfl⟩) hKM hPM (va_recv hKM hPM (ci := 3) (q0 := 0) rfl rfl) rfl hl.1 rfl (Nat.le_of_ble_eq_true rfl) d_law_1160 ⟨hcl, hsl⟩ ?_
  refine lv_iload hx hb d_law_1163 (lv_at hl 1 rfl) ?_
  refine lv_icmp_eq (tgt := 1170) hx hb d_law_1165 (by decide) (fun _ => ?_) (fun h9 => absurd (ans_holder rel h00 (xs (i + 1).toNatClampNeg) (xs (i + 2).toNatClampNeg) f).1 h9)
  refine lv_iload hx hb d_law_1170 (lv_at hl 1 rfl) ?_
  refine lv_if_ne (tgt := 1187) hx hb d_law_1172 (by decide) (fun e_25 => ?_) (fun e_25 => ?_)
  · refine lv_goto (tgt := 1351) hx hb d_law_1187 (by decide) ?_
    exact next _ _ _ _ _ _ _ ls (by rw [hL_st]; exact sim_holder rel (xs (i + 1).toNatClampNeg) (xs (i + 2).toNatClampNeg)) hPL hPM hD hS (lv_sub hl [2, 3, 4, 5, 6] rfl)
  · refine lv_aload_n hx hb d_law_1175 rfl (lv_at hl 5 rfl) ?_
    refine lv_iconst (v := 0) hx hb d_law_1176 (by decide) ?_
    refine va_lald hx hb hKL hPL 0 0 rfl rfl in01 d_law_1177 ?_
    refine lv_iload hx hb d_law_1178 (lv_at hl 0 rfl) ?_
    refine lv_i2l (v := ((f_Mo_holder G B (xs (i + 1).toNatClampNeg) (xs (i + 2).toNatClampNeg)).1).toInt64) hx hb d_law_1180 rfl ?_
    refine W.lcmp hx hb d_law_1181 ?_
    refine lv_if_eq (tgt := 1187) hx hb d_law_1182 (by decide) (fun _ => ?_) (fun h9 => absurd (lgc_self ((ans_holder rel h00 (xs (i + 1).toNatClampNeg) (xs (i + 2).toNatClampNeg) f).2 e_25)) h9)
    refine lv_goto (tgt := 1351) hx hb d_law_1187 (by decide) ?_
    exact next _ _ _ _ _ _ _ ls (by rw [hL_st]; exact sim_holder rel (xs (i + 1).toNatClampNeg) (xs (i + 2).toNatClampNeg)) hPL hPM hD hS (lv_sub hl [2, 3, 4, 5, 6] rfl)
set_option maxHeartbeats 4000000 in
set_option maxRecDepth 100000 in
theorem case_15 {p : Program} {l : Launch} {e : Env} {s : State} {m : MethodId} {below : List Frame} {meth : Method} {c : Code} {dC : Nat → ClassId} {dI : Nat → Nat → Nat} {b L : Nat} {xs : Nat → Int32} {r : Nat → Nat} {k : Nat → ClassId} {o : Nat} {kO : ClassId} {r2 : Nat → Nat} {k2 : Nat → ClassId} (hl9 : l.stackTraces = false) (C0 : lw_At p s m meth c b L xs) (hXS : XS (fun q => s.heap.size ≤ q) s s.heap) (hKL : va_K (dC, dI) classes (tL k kO) s) (hKM : va_K (dC, dI) classes (tM k2) s) {F : Nat → Int32} {A : Nat → Nat → Int32} {f : Nat → Int64} {G : Nat → Int32} {B : Nat → Nat → Int32} {H : Heap} {locs : List Loc} {ls : Array Slot} {i : Int32} {cells slots : Nat} {Q : State → Prop} (hcl : cells + 1 ≤ 56) (hsl : slots + 6 ≤ 1290) (h1 : vp_in (i + 1) L) (h2 : vp_in (i + 2) L) (h3 : vp_in (i + 3) L) (h4 : vp_in (i + 4) L) (h5 : vp_in (i + 5) L) (rel : LR F A G B) (hPL : va_P (dC, dI) classes (wL r k F A o kO f) H) (hPM : va_P (dC, dI) classes (wM r2 k2 G B) H) (hD : va_D (fun q => s.heap.size ≤ q) (wM r2 k2 G B ++ wL r k F A o kO f)) (hS : va_S (fun q => s.heap.size ≤ q) s.heap H locs) (hl : lv_has ls 7 [(0, .ref b), (1, .ref (r 0)), (2, .ref (r2 0)), (3, .ref o), (4, .int i)])
    (next : ∀ (F : Nat → Int32) (A : Nat → Nat → Int32) (f : Nat → Int64) (G : Nat → Int32) (B : Nat → Nat → Int32) (H : Heap) (locs : List Loc) (ls : Array Slot), LR F A G B → va_P (dC, dI) classes (wL r k F A o kO f) H → va_P (dC, dI) classes (wM r2 k2 G B) H → va_D (fun q => s.heap.size ≤ q) (wM r2 k2 G B ++ wL r k F A o kO f) → va_S (fun q => s.heap.size ≤ q) s.heap H locs → lv_has ls 7 [(0, .ref b), (1, .ref (r 0)), (2, .ref (r2 0)), (3, .ref o), (4, .int i)] → W p l e room_1 s m #[Value.ref b] below meth c H locs (cells + 1) (slots + 6) Q (F0 m 1351 ls [])) : W p l e room_1 s m #[Value.ref b] below meth c H locs cells slots Q (F0 m 1190 ls []) := by
  obtain ⟨hx, hb, hr, hml, hown, hts, hX, hbl, hlocks, hgv⟩ := C0
  have hW : ∀ w ∈ WALL, w.before #[Value.ref b] s = true := fun w h => hts w (WALL_good w h).1
  have hA : ∀ q : Nat, s.heap.size ≤ q → (fun q : Nat => s.heap.size ≤ q) q := fun _ h => h
  have hbA : ¬ (fun q : Nat => s.heap.size ≤ q) b := Nat.not_le.mpr hbl
  have hI := rel.ci
  have hJ := rel.si
  have h_at := rel.at
  refine lv_aload_n hx hb d_law_1190 rfl (lv_at hl 1 rfl) ?_
  refine lv_aload_n hx hb d_law_1191 rfl (lv_at hl 0 rfl) ?_
  refine lv_iload hx hb d_law_1192 (lv_at hl 4 rfl) ?_
  refine lv_iconst (v := 1) hx hb d_law_1194 (by decide) ?_
  refine lv_iadd hx hb d_law_1195 ?_
  refine va_sld hx hb hX hbl hbA hS h1 d_law_1196 ?_
  refine lv_aload_n hx hb d_law_1197 rfl (lv_at hl 0 rfl) ?_
  refine lv_iload hx hb d_law_1198 (lv_at hl 4 rfl) ?_
  refine lv_iconst (v := 2) hx hb d_law_1200 (by decide) ?_
  refine lv_iadd hx hb d_law_1201 ?_
  refine va_sld hx hb hX hbl hbA hS h2 d_law_1202 ?_
  refine lv_aload_n hx hb d_law_1203 rfl (lv_at hl 3 rfl) ?_
  refine scS (rest := []) (hh := [(0, 10, 13, 19), (0, 10, 17, 21)]) (wr := wM r2 k2 G B) (wf := fun u : SL => wL r k u.2.1 u.2.2 o kO u.1) ⟨hx, hb, hml, hown, hW⟩ (c_Lw_told l hl9 dC dI r k F A o kO f _ (xs (i + 1).toNatClampNeg) (xs (i + 2).toNatClampNeg) hI) (vx_cwSW 4 hW (gInS k_453 k_454 k_345 k_455) rfl rfl rfl (by decide +kernel) ⟨Nat.le_of_ble_eq_true rfl, Nat.le_of_ble_eq_true rfl⟩) hKL hPM hPL hD hS hA hXS rfl hl.1 rfl (Nat.le_of_ble_eq_true rfl) d_law_1204 ⟨hcl, hsl⟩ (fun H locs hPM hPL hD hS => ?_)
  refine lv_istore (lv' := [(5, .int ((hL cm_Lw_told f (f_RS_told F A (xs (i + 1).toNatClampNeg) (xs (i + 2).toNatClampNeg))).1)), (0, .ref b), (1, .ref (r 0)), (2, .ref (r2 0)), (3, .ref o), (4, .int i)]) hx hb d_law_1207 hl (by decide) rfl (fun ls hl => ?_)
  refine lv_aload_n hx hb d_law_1209 rfl (lv_at hl 3 rfl) ?_
  refine lv_aload_n hx hb d_law_1210 rfl (lv_at hl 1 rfl) ?_
  refine lv_iload hx hb d_law_1211 (lv_at hl 5 rfl) ?_
  refine lv_iconst (v := 1) hx hb d_law_1213 (by decide) ?_
  refine lv_iadd hx hb d_law_1214 ?_
  refine va_sld hx hb hX hbl hbA hS h1 d_law_1215 ?_
  refine lv_aload_n hx hb d_law_1216 rfl (lv_at hl 1 rfl) ?_
  refine lv_iload hx hb d_law_1217 (lv_at hl 5 rfl) ?_
  refine lv_iconst (v := 2) hx hb d_law_1219 (by decide) ?_
  refine lv_iadd hx hb d_law_1220 ?_
  refine va_sld hx hb hX hbl hbA hS h2 d_law_1221 ?_
  refine mcV (rest := []) (wr := wL r k ((hL cm_Lw_told f (f_RS_told F A (xs (i + 1).toNatClampNeg) (xs (i + 2).toNatClampNeg))).2.2.1) ((hL cm_Lw_told f (f_RS_told F A (xs (i + 1).toNatClampNeg) (xs (i + 2).toNatClampNeg))).2.2.2) o kO ((hL cm_Lw_told f (f_RS_told F A (xs (i + 1).toNatClampNeg) (xs (i + 2).toNatClampNeg))).2.1)) (wf := fun u : SC => wM r2 k2 u.1 u.2) ⟨hx, hb, hml, hown, hW⟩ (c_Mo_told l dC dI r2 k2 G B _ (xs (i + 1).toNatClampNeg) (xs (i + 2).toNatClampNeg) hJ) (cwV 2 hW (gIn k_456 k_457 k_458 k_193 k_459) rfl rfl rfl (by decide +kernel) ⟨Nat.le_of_ble_eq_true rfl, Nat.le_of_ble_eq_true rfl⟩) hKM hPL hPM (dSwap hD) hS hA (va_recv hKM hPM (ci := 3) (q0 := 0) rfl rfl) rfl hl.1 rfl (Nat.le_of_ble_eq_true rfl) d_law_1222 ⟨hcl, hsl⟩ (fun H locs hPL hPM hD hS => ?_)
  have hD := dSwap hD
  refine lv_istore (lv' := [(6, .int ((f_Mo_told G B (xs (i + 1).toNatClampNeg) (xs (i + 2).toNatClampNeg)).1)), (5, .int ((hL cm_Lw_told f (f_RS_told F A (xs (i + 1).toNatClampNeg) (xs (i + 2).toNatClampNeg))).1)), (0, .ref b), (1, .ref (r 0)), (2, .ref (r2 0)), (3, .ref o), (4, .int i)]) hx hb d_law_1225 hl (by decide) rfl (fun ls hl => ?_)
  refine lv_aload_n hx hb d_law_1227 rfl (lv_at hl 4 rfl) ?_
  refine rdV (rest := []) ⟨hx, hb, hml, hown, hW⟩ (c_Mo_thrown l dC dI r2 k2 ((f_Mo_told G B (xs (i + 1).toNatClampNeg) (xs (i + 2).toNatClampNeg)).2.1) ((f_Mo_told G B (xs (i + 1).toNatClampNeg) (xs (i + 2).toNatClampNeg)).2.2)) (cwV 0 hW (gIn k_351 k_352 k_353 k_193 k_354) rfl rfl rfl (by decide +kernel) ⟨Nat.le_of_ble_eq_true rfl, Nat.le_of_ble_eq_true rfl⟩) hKM hPM (va_recv hKM hPM (ci := 3) (q0 := 0) rfl rfl) rfl hl.1 rfl (Nat.le_of_ble_eq_true rfl) d_law_1228 ⟨hcl, hsl⟩ ?_
  refine lv_iload hx hb d_law_1231 (lv_at hl 1 rfl) ?_
  refine lv_icmp_eq (tgt := 1238) hx hb d_law_1233 (by decide) (fun _ => ?_) (fun h9 => absurd (ans_told rel (xs (i + 1).toNatClampNeg) (xs (i + 2).toNatClampNeg) f).1 h9)
  refine lv_iload hx hb d_law_1238 (lv_at hl 1 rfl) ?_
  refine lv_if_ne (tgt := 1255) hx hb d_law_1240 (by decide) (fun e_26 => ?_) (fun e_26 => ?_)
  · refine lv_goto (tgt := 1351) hx hb d_law_1255 (by decide) ?_
    exact next _ _ _ _ _ _ _ ls (by rw [hL_st]; exact sim_told rel (xs (i + 1).toNatClampNeg) (xs (i + 2).toNatClampNeg)) hPL hPM hD hS (lv_sub hl [2, 3, 4, 5, 6] rfl)
  · refine lv_aload_n hx hb d_law_1243 rfl (lv_at hl 5 rfl) ?_
    refine lv_iconst (v := 0) hx hb d_law_1244 (by decide) ?_
    refine va_lald hx hb hKL hPL 0 0 rfl rfl in01 d_law_1245 ?_
    refine lv_iload hx hb d_law_1246 (lv_at hl 0 rfl) ?_
    refine lv_i2l (v := ((f_Mo_told G B (xs (i + 1).toNatClampNeg) (xs (i + 2).toNatClampNeg)).1).toInt64) hx hb d_law_1248 rfl ?_
    refine W.lcmp hx hb d_law_1249 ?_
    refine lv_if_eq (tgt := 1255) hx hb d_law_1250 (by decide) (fun _ => ?_) (fun h9 => absurd (lgc_self ((ans_told rel (xs (i + 1).toNatClampNeg) (xs (i + 2).toNatClampNeg) f).2 e_26)) h9)
    refine lv_goto (tgt := 1351) hx hb d_law_1255 (by decide) ?_
    exact next _ _ _ _ _ _ _ ls (by rw [hL_st]; exact sim_told rel (xs (i + 1).toNatClampNeg) (xs (i + 2).toNatClampNeg)) hPL hPM hD hS (lv_sub hl [2, 3, 4, 5, 6] rfl)
set_option maxHeartbeats 4000000 in
set_option maxRecDepth 100000 in
theorem case_16 {p : Program} {l : Launch} {e : Env} {s : State} {m : MethodId} {below : List Frame} {meth : Method} {c : Code} {dC : Nat → ClassId} {dI : Nat → Nat → Nat} {b L : Nat} {xs : Nat → Int32} {r : Nat → Nat} {k : Nat → ClassId} {o : Nat} {kO : ClassId} {r2 : Nat → Nat} {k2 : Nat → ClassId} (hl9 : l.stackTraces = false) (C0 : lw_At p s m meth c b L xs) (hXS : XS (fun q => s.heap.size ≤ q) s s.heap) (hKL : va_K (dC, dI) classes (tL k kO) s) (hKM : va_K (dC, dI) classes (tM k2) s) {F : Nat → Int32} {A : Nat → Nat → Int32} {f : Nat → Int64} {G : Nat → Int32} {B : Nat → Nat → Int32} {H : Heap} {locs : List Loc} {ls : Array Slot} {i : Int32} {cells slots : Nat} {Q : State → Prop} (hcl : cells + 1 ≤ 56) (hsl : slots + 6 ≤ 1290) (h1 : vp_in (i + 1) L) (h2 : vp_in (i + 2) L) (h3 : vp_in (i + 3) L) (h4 : vp_in (i + 4) L) (h5 : vp_in (i + 5) L) (rel : LR F A G B) (hPL : va_P (dC, dI) classes (wL r k F A o kO f) H) (hPM : va_P (dC, dI) classes (wM r2 k2 G B) H) (hD : va_D (fun q => s.heap.size ≤ q) (wM r2 k2 G B ++ wL r k F A o kO f)) (hS : va_S (fun q => s.heap.size ≤ q) s.heap H locs) (hl : lv_has ls 7 [(0, .ref b), (1, .ref (r 0)), (2, .ref (r2 0)), (3, .ref o), (4, .int i)])
    (next : ∀ (F : Nat → Int32) (A : Nat → Nat → Int32) (f : Nat → Int64) (G : Nat → Int32) (B : Nat → Nat → Int32) (H : Heap) (locs : List Loc) (ls : Array Slot), LR F A G B → va_P (dC, dI) classes (wL r k F A o kO f) H → va_P (dC, dI) classes (wM r2 k2 G B) H → va_D (fun q => s.heap.size ≤ q) (wM r2 k2 G B ++ wL r k F A o kO f) → va_S (fun q => s.heap.size ≤ q) s.heap H locs → lv_has ls 7 [(0, .ref b), (1, .ref (r 0)), (2, .ref (r2 0)), (3, .ref o), (4, .int i)] → W p l e room_1 s m #[Value.ref b] below meth c H locs (cells + 1) (slots + 6) Q (F0 m 1351 ls [])) : W p l e room_1 s m #[Value.ref b] below meth c H locs cells slots Q (F0 m 1258 ls []) := by
  obtain ⟨hx, hb, hr, hml, hown, hts, hX, hbl, hlocks, hgv⟩ := C0
  have hW : ∀ w ∈ WALL, w.before #[Value.ref b] s = true := fun w h => hts w (WALL_good w h).1
  have hA : ∀ q : Nat, s.heap.size ≤ q → (fun q : Nat => s.heap.size ≤ q) q := fun _ h => h
  have hbA : ¬ (fun q : Nat => s.heap.size ≤ q) b := Nat.not_le.mpr hbl
  have hI := rel.ci
  have hJ := rel.si
  have h_at := rel.at
  refine lv_aload_n hx hb d_law_1258 rfl (lv_at hl 1 rfl) ?_
  refine lv_aload_n hx hb d_law_1259 rfl (lv_at hl 0 rfl) ?_
  refine lv_iload hx hb d_law_1260 (lv_at hl 4 rfl) ?_
  refine lv_iconst (v := 1) hx hb d_law_1262 (by decide) ?_
  refine lv_iadd hx hb d_law_1263 ?_
  refine va_sld hx hb hX hbl hbA hS h1 d_law_1264 ?_
  refine lv_aload_n hx hb d_law_1265 rfl (lv_at hl 0 rfl) ?_
  refine lv_iload hx hb d_law_1266 (lv_at hl 4 rfl) ?_
  refine lv_iconst (v := 2) hx hb d_law_1268 (by decide) ?_
  refine lv_iadd hx hb d_law_1269 ?_
  refine va_sld hx hb hX hbl hbA hS h2 d_law_1270 ?_
  refine lv_aload_n hx hb d_law_1271 rfl (lv_at hl 3 rfl) ?_
  refine scS (rest := []) (hh := [(0, 10, 13, 19), (0, 10, 17, 21)]) (wr := wM r2 k2 G B) (wf := fun u : SL => wL r k u.2.1 u.2.2 o kO u.1) ⟨hx, hb, hml, hown, hW⟩ (c_Lw_grant l hl9 dC dI r k F A o kO f _ (xs (i + 1).toNatClampNeg) (xs (i + 2).toNatClampNeg) hI) (vx_cwSW 4 hW (gInS k_460 k_461 k_345 k_462) rfl rfl rfl (by decide +kernel) ⟨Nat.le_of_ble_eq_true rfl, Nat.le_of_ble_eq_true rfl⟩) hKL hPM hPL hD hS hA hXS rfl hl.1 rfl (Nat.le_of_ble_eq_true rfl) d_law_1272 ⟨hcl, hsl⟩ (fun H locs hPM hPL hD hS => ?_)
  refine lv_istore (lv' := [(5, .int ((hL cm_Lw_grant f (f_RS_grant F A (xs (i + 1).toNatClampNeg) (xs (i + 2).toNatClampNeg))).1)), (0, .ref b), (1, .ref (r 0)), (2, .ref (r2 0)), (3, .ref o), (4, .int i)]) hx hb d_law_1275 hl (by decide) rfl (fun ls hl => ?_)
  refine lv_aload_n hx hb d_law_1277 rfl (lv_at hl 3 rfl) ?_
  refine lv_aload_n hx hb d_law_1278 rfl (lv_at hl 1 rfl) ?_
  refine lv_iload hx hb d_law_1279 (lv_at hl 5 rfl) ?_
  refine lv_iconst (v := 1) hx hb d_law_1281 (by decide) ?_
  refine lv_iadd hx hb d_law_1282 ?_
  refine va_sld hx hb hX hbl hbA hS h1 d_law_1283 ?_
  refine lv_aload_n hx hb d_law_1284 rfl (lv_at hl 1 rfl) ?_
  refine lv_iload hx hb d_law_1285 (lv_at hl 5 rfl) ?_
  refine lv_iconst (v := 2) hx hb d_law_1287 (by decide) ?_
  refine lv_iadd hx hb d_law_1288 ?_
  refine va_sld hx hb hX hbl hbA hS h2 d_law_1289 ?_
  refine mcV (rest := []) (wr := wL r k ((hL cm_Lw_grant f (f_RS_grant F A (xs (i + 1).toNatClampNeg) (xs (i + 2).toNatClampNeg))).2.2.1) ((hL cm_Lw_grant f (f_RS_grant F A (xs (i + 1).toNatClampNeg) (xs (i + 2).toNatClampNeg))).2.2.2) o kO ((hL cm_Lw_grant f (f_RS_grant F A (xs (i + 1).toNatClampNeg) (xs (i + 2).toNatClampNeg))).2.1)) (wf := fun u : SC => wM r2 k2 u.1 u.2) ⟨hx, hb, hml, hown, hW⟩ (c_Mo_grant l dC dI r2 k2 G B _ (xs (i + 1).toNatClampNeg) (xs (i + 2).toNatClampNeg) hJ) (cwV 2 hW (gIn k_463 k_464 k_465 k_193 k_466) rfl rfl rfl (by decide +kernel) ⟨Nat.le_of_ble_eq_true rfl, Nat.le_of_ble_eq_true rfl⟩) hKM hPL hPM (dSwap hD) hS hA (va_recv hKM hPM (ci := 3) (q0 := 0) rfl rfl) rfl hl.1 rfl (Nat.le_of_ble_eq_true rfl) d_law_1290 ⟨hcl, hsl⟩ (fun H locs hPL hPM hD hS => ?_)
  have hD := dSwap hD
  refine lv_istore (lv' := [(6, .int ((f_Mo_grant G B (xs (i + 1).toNatClampNeg) (xs (i + 2).toNatClampNeg)).1)), (5, .int ((hL cm_Lw_grant f (f_RS_grant F A (xs (i + 1).toNatClampNeg) (xs (i + 2).toNatClampNeg))).1)), (0, .ref b), (1, .ref (r 0)), (2, .ref (r2 0)), (3, .ref o), (4, .int i)]) hx hb d_law_1293 hl (by decide) rfl (fun ls hl => ?_)
  refine lv_aload_n hx hb d_law_1295 rfl (lv_at hl 4 rfl) ?_
  refine rdV (rest := []) ⟨hx, hb, hml, hown, hW⟩ (c_Mo_thrown l dC dI r2 k2 ((f_Mo_grant G B (xs (i + 1).toNatClampNeg) (xs (i + 2).toNatClampNeg)).2.1) ((f_Mo_grant G B (xs (i + 1).toNatClampNeg) (xs (i + 2).toNatClampNeg)).2.2)) (cwV 0 hW (gIn k_351 k_352 k_353 k_193 k_354) rfl rfl rfl (by decide +kernel) ⟨Nat.le_of_ble_eq_true rfl, Nat.le_of_ble_eq_true rfl⟩) hKM hPM (va_recv hKM hPM (ci := 3) (q0 := 0) rfl rfl) rfl hl.1 rfl (Nat.le_of_ble_eq_true rfl) d_law_1296 ⟨hcl, hsl⟩ ?_
  refine lv_iload hx hb d_law_1299 (lv_at hl 1 rfl) ?_
  refine lv_icmp_eq (tgt := 1306) hx hb d_law_1301 (by decide) (fun _ => ?_) (fun h9 => absurd (ans_grant rel (xs (i + 1).toNatClampNeg) (xs (i + 2).toNatClampNeg) f).1 h9)
  refine lv_iload hx hb d_law_1306 (lv_at hl 1 rfl) ?_
  refine lv_if_ne (tgt := 1323) hx hb d_law_1308 (by decide) (fun e_27 => ?_) (fun e_27 => ?_)
  · refine lv_goto (tgt := 1351) hx hb d_law_1323 (by decide) ?_
    exact next _ _ _ _ _ _ _ ls (by rw [hL_st]; exact sim_grant rel (xs (i + 1).toNatClampNeg) (xs (i + 2).toNatClampNeg)) hPL hPM hD hS (lv_sub hl [2, 3, 4, 5, 6] rfl)
  · refine lv_aload_n hx hb d_law_1311 rfl (lv_at hl 5 rfl) ?_
    refine lv_iconst (v := 0) hx hb d_law_1312 (by decide) ?_
    refine va_lald hx hb hKL hPL 0 0 rfl rfl in01 d_law_1313 ?_
    refine lv_iload hx hb d_law_1314 (lv_at hl 0 rfl) ?_
    refine lv_i2l (v := ((f_Mo_grant G B (xs (i + 1).toNatClampNeg) (xs (i + 2).toNatClampNeg)).1).toInt64) hx hb d_law_1316 rfl ?_
    refine W.lcmp hx hb d_law_1317 ?_
    refine lv_if_eq (tgt := 1323) hx hb d_law_1318 (by decide) (fun _ => ?_) (fun h9 => absurd (lgc_self ((ans_grant rel (xs (i + 1).toNatClampNeg) (xs (i + 2).toNatClampNeg) f).2 e_27)) h9)
    refine lv_goto (tgt := 1351) hx hb d_law_1323 (by decide) ?_
    exact next _ _ _ _ _ _ _ ls (by rw [hL_st]; exact sim_grant rel (xs (i + 1).toNatClampNeg) (xs (i + 2).toNatClampNeg)) hPL hPM hD hS (lv_sub hl [2, 3, 4, 5, 6] rfl)
set_option maxHeartbeats 4000000 in
set_option maxRecDepth 100000 in
theorem case_17 {p : Program} {l : Launch} {e : Env} {s : State} {m : MethodId} {below : List Frame} {meth : Method} {c : Code} {dC : Nat → ClassId} {dI : Nat → Nat → Nat} {b L : Nat} {xs : Nat → Int32} {r : Nat → Nat} {k : Nat → ClassId} {o : Nat} {kO : ClassId} {r2 : Nat → Nat} {k2 : Nat → ClassId} (hl9 : l.stackTraces = false) (C0 : lw_At p s m meth c b L xs) (hXS : XS (fun q => s.heap.size ≤ q) s s.heap) (hKL : va_K (dC, dI) classes (tL k kO) s) (hKM : va_K (dC, dI) classes (tM k2) s) {F : Nat → Int32} {A : Nat → Nat → Int32} {f : Nat → Int64} {G : Nat → Int32} {B : Nat → Nat → Int32} {H : Heap} {locs : List Loc} {ls : Array Slot} {i : Int32} {cells slots : Nat} {Q : State → Prop} (hcl : cells + 1 ≤ 56) (hsl : slots + 6 ≤ 1290) (h1 : vp_in (i + 1) L) (h2 : vp_in (i + 2) L) (h3 : vp_in (i + 3) L) (h4 : vp_in (i + 4) L) (h5 : vp_in (i + 5) L) (rel : LR F A G B) (hPL : va_P (dC, dI) classes (wL r k F A o kO f) H) (hPM : va_P (dC, dI) classes (wM r2 k2 G B) H) (hD : va_D (fun q => s.heap.size ≤ q) (wM r2 k2 G B ++ wL r k F A o kO f)) (hS : va_S (fun q => s.heap.size ≤ q) s.heap H locs) (hl : lv_has ls 7 [(0, .ref b), (1, .ref (r 0)), (2, .ref (r2 0)), (3, .ref o), (4, .int i)])
    (next : ∀ (F : Nat → Int32) (A : Nat → Nat → Int32) (f : Nat → Int64) (G : Nat → Int32) (B : Nat → Nat → Int32) (H : Heap) (locs : List Loc) (ls : Array Slot), LR F A G B → va_P (dC, dI) classes (wL r k F A o kO f) H → va_P (dC, dI) classes (wM r2 k2 G B) H → va_D (fun q => s.heap.size ≤ q) (wM r2 k2 G B ++ wL r k F A o kO f) → va_S (fun q => s.heap.size ≤ q) s.heap H locs → lv_has ls 7 [(0, .ref b), (1, .ref (r 0)), (2, .ref (r2 0)), (3, .ref o), (4, .int i)] → W p l e room_1 s m #[Value.ref b] below meth c H locs (cells + 1) (slots + 6) Q (F0 m 1351 ls [])) : W p l e room_1 s m #[Value.ref b] below meth c H locs cells slots Q (F0 m 1326 ls []) := by
  obtain ⟨hx, hb, hr, hml, hown, hts, hX, hbl, hlocks, hgv⟩ := C0
  have hW : ∀ w ∈ WALL, w.before #[Value.ref b] s = true := fun w h => hts w (WALL_good w h).1
  have hA : ∀ q : Nat, s.heap.size ≤ q → (fun q : Nat => s.heap.size ≤ q) q := fun _ h => h
  have hbA : ¬ (fun q : Nat => s.heap.size ≤ q) b := Nat.not_le.mpr hbl
  have hI := rel.ci
  have hJ := rel.si
  have h_at := rel.at
  refine lv_aload_n hx hb d_law_1326 rfl (lv_at hl 1 rfl) ?_
  refine lv_aload_n hx hb d_law_1327 rfl (lv_at hl 0 rfl) ?_
  refine lv_iload hx hb d_law_1328 (lv_at hl 4 rfl) ?_
  refine lv_iconst (v := 1) hx hb d_law_1330 (by decide) ?_
  refine lv_iadd hx hb d_law_1331 ?_
  refine va_sld hx hb hX hbl hbA hS h1 d_law_1332 ?_
  have hKc : va_K (dC, dI) classes (tC k) s := hKL.sub [1, 2, 3, 4, 5, 6, 7, 8, 9, 10, 11, 12, 13, 14] rfl
  have hPc : va_P (dC, dI) classes (wC r k F A) H := pSuf hPL
  refine rdV (rest := []) ⟨hx, hb, hml, hown, hW⟩ (c_RS_count l dC dI r k F A (xs (i + 1).toNatClampNeg) hI) (cwV 1 hW (gIn k_467 k_468 k_469 k_15 k_470) rfl rfl rfl (by decide +kernel) ⟨Nat.le_of_ble_eq_true rfl, Nat.le_of_ble_eq_true rfl⟩) hKc hPc (va_recv hKc hPc (ci := 0) (q0 := 0) rfl rfl) rfl hl.1 rfl (Nat.le_of_ble_eq_true rfl) d_law_1333 ⟨Nat.le_trans (Nat.le_add_right _ _) hcl, Nat.le_trans (Nat.le_add_right _ _) hsl⟩ ?_
  refine lv_aload_n hx hb d_law_1336 rfl (lv_at hl 2 rfl) ?_
  refine lv_aload_n hx hb d_law_1337 rfl (lv_at hl 0 rfl) ?_
  refine lv_iload hx hb d_law_1338 (lv_at hl 4 rfl) ?_
  refine lv_iconst (v := 1) hx hb d_law_1340 (by decide) ?_
  refine lv_iadd hx hb d_law_1341 ?_
  refine va_sld hx hb hX hbl hbA hS h1 d_law_1342 ?_
  refine mcV (rest := [.int (f_RS_count F A (xs (i + 1).toNatClampNeg))]) (wr := wL r k F A o kO f) (wf := fun u : SC => wM r2 k2 u.1 u.2) ⟨hx, hb, hml, hown, hW⟩ (c_Mo_count l dC dI r2 k2 G B _ (xs (i + 1).toNatClampNeg) hJ) (cwV 1 hW (gIn k_471 k_472 k_473 k_193 k_474) rfl rfl rfl (by decide +kernel) ⟨Nat.le_of_ble_eq_true rfl, Nat.le_of_ble_eq_true rfl⟩) hKM hPL hPM (dSwap hD) hS hA (va_recv hKM hPM (ci := 3) (q0 := 0) rfl rfl) rfl hl.1 rfl (Nat.le_of_ble_eq_true rfl) d_law_1343 ⟨Nat.le_trans (Nat.le_add_right _ _) hcl, Nat.le_trans (Nat.le_add_right _ _) hsl⟩ (fun H locs hPL hPM hD hS => ?_)
  have hD := dSwap hD
  refine lv_icmp_eq (tgt := 1351) hx hb d_law_1346 (by decide) (fun _ => ?_) (fun h9 => absurd (ans_count rel (xs (i + 1).toNatClampNeg)) h9)
  refine W.widen (k := cells + 1) (n := slots + 6) (Nat.le_add_right _ _) (Nat.le_add_right _ _) ?_
  exact next _ _ _ _ _ _ _ ls (sim_count rel (xs (i + 1).toNatClampNeg)) hPL hPM hD hS (lv_sub hl [0, 1, 2, 3, 4] rfl)
