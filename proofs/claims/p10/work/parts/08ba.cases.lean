set_option maxHeartbeats 4000000 in
set_option maxRecDepth 100000 in
theorem case_0 {p : Program} {l : Launch} {e : Env} {s : State} {m : MethodId} {below : List Frame} {meth : Method} {c : Code} {dC : Nat → ClassId} {dI : Nat → Nat → Nat} {b L : Nat} {xs : Nat → Int32} {r : Nat → Nat} {k : Nat → ClassId} {o : Nat} {kO : ClassId} {r2 : Nat → Nat} {k2 : Nat → ClassId} (hl9 : l.stackTraces = false) (C0 : lw_At p s m meth c b L xs) (hXS : XS (fun q => s.heap.size ≤ q) s s.heap) (hKL : va_K (dC, dI) classes (tL k kO) s) (hKM : va_K (dC, dI) classes (tM k2) s) {F : Nat → Int32} {A : Nat → Nat → Int32} {f : Nat → Int64} {G : Nat → Int32} {B : Nat → Nat → Int32} {H : Heap} {locs : List Loc} {ls : Array Slot} {i : Int32} {cells slots : Nat} {Q : State → Prop} (hcl : cells + 1 ≤ 1078) (hsl : slots + 6 ≤ 9466) (h1 : vp_in (i + 1) L) (h2 : vp_in (i + 2) L) (h3 : vp_in (i + 3) L) (h4 : vp_in (i + 4) L) (h5 : vp_in (i + 5) L) (rel : LR F A G B) (hPL : va_P (dC, dI) classes (wL r k F A o kO f) H) (hPM : va_P (dC, dI) classes (wM r2 k2 G B) H) (hD : va_D (fun q => s.heap.size ≤ q) (wM r2 k2 G B ++ wL r k F A o kO f)) (hS : va_S (fun q => s.heap.size ≤ q) s.heap H locs) (hl : lv_has ls 7 [(0, .ref b), (1, .ref (r 0)), (2, .ref (r2 0)), (3, .ref o), (4, .int i)])
    (next : ∀ (F : Nat → Int32) (A : Nat → Nat → Int32) (f : Nat → Int64) (G : Nat → Int32) (B : Nat → Nat → Int32) (H : Heap) (locs : List Loc) (ls : Array Slot), LR F A G B → va_P (dC, dI) classes (wL r k F A o kO f) H → va_P (dC, dI) classes (wM r2 k2 G B) H → va_D (fun q => s.heap.size ≤ q) (wM r2 k2 G B ++ wL r k F A o kO f) → va_S (fun q => s.heap.size ≤ q) s.heap H locs → lv_has ls 7 [(0, .ref b), (1, .ref (r 0)), (2, .ref (r2 0)), (3, .ref o), (4, .int i)] → W p l e room_1 s m #[Value.ref b] below meth c H locs (cells + 1) (slots + 6) Q (F0 m 889 ls [])) : W p l e room_1 s m #[Value.ref b] below meth c H locs cells slots Q (F0 m 128 ls []) := by
  obtain ⟨hx, hb, hr, hml, hown, hts, hX, hbl, hlocks, hgv⟩ := C0
  have hW : ∀ w ∈ WALL, w.before #[Value.ref b] s = true := fun w h => hts w (WALL_good w h).1
  have hA : ∀ q : Nat, s.heap.size ≤ q → (fun q : Nat => s.heap.size ≤ q) q := fun _ h => h
  have hbA : ¬ (fun q : Nat => s.heap.size ≤ q) b := Nat.not_le.mpr hbl
  have hI := rel.ci
  have hJ := rel.si
  have h_at := rel.at
  refine lv_aload_n hx hb d_law_128 rfl (lv_at hl 1 rfl) ?_
  refine lv_aload_n hx hb d_law_129 rfl (lv_at hl 3 rfl) ?_
  refine scS (rest := []) (hh := [(0, 8, 11, 13)]) (wr := wM r2 k2 G B) (wf := fun u : SL => wL r k u.2.1 u.2.2 o kO u.1) ⟨hx, hb, hml, hown, hW⟩ (c_Lw_piece l hl9 dC dI r k F A o kO f _  hI) (vx_cwSW 2 hW (gInS k_343 k_344 k_345 k_346) rfl rfl rfl (by decide +kernel) ⟨Nat.le_of_ble_eq_true rfl, Nat.le_of_ble_eq_true rfl⟩) hKL hPM hPL hD hS hA hXS rfl hl.1 rfl (Nat.le_of_ble_eq_true rfl) d_law_130 ⟨hcl, hsl⟩ (fun H locs hPM hPL hD hS => ?_)
  refine lv_istore (lv' := [(5, .int ((hL cm_Lw_piece f (f_RS_piece F A)).1)), (0, .ref b), (1, .ref (r 0)), (2, .ref (r2 0)), (3, .ref o), (4, .int i)]) hx hb d_law_133 hl (by decide) rfl (fun ls hl => ?_)
  refine lv_aload_n hx hb d_law_135 rfl (lv_at hl 3 rfl) ?_
  refine mcV (rest := []) (wr := wL r k ((hL cm_Lw_piece f (f_RS_piece F A)).2.2.1) ((hL cm_Lw_piece f (f_RS_piece F A)).2.2.2) o kO ((hL cm_Lw_piece f (f_RS_piece F A)).2.1)) (wf := fun u : SC => wM r2 k2 u.1 u.2) ⟨hx, hb, hml, hown, hW⟩ (c_Mo_piece l dC dI r2 k2 G B _  hJ) (cwV 0 hW (gIn k_347 k_348 k_349 k_193 k_350) rfl rfl rfl (by decide +kernel) ⟨Nat.le_of_ble_eq_true rfl, Nat.le_of_ble_eq_true rfl⟩) hKM hPL hPM (dSwap hD) hS hA (va_recv hKM hPM (ci := 3) (q0 := 0) rfl rfl) rfl hl.1 rfl (Nat.le_of_ble_eq_true rfl) d_law_136 ⟨hcl, hsl⟩ (fun H locs hPL hPM hD hS => ?_)
  have hD := dSwap hD
  refine lv_istore (lv' := [(6, .int ((f_Mo_piece G B).1)), (5, .int ((hL cm_Lw_piece f (f_RS_piece F A)).1)), (0, .ref b), (1, .ref (r 0)), (2, .ref (r2 0)), (3, .ref o), (4, .int i)]) hx hb d_law_139 hl (by decide) rfl (fun ls hl => ?_)
  refine lv_goto (tgt := 889) hx hb d_law_141 (by decide) ?_
  exact next _ _ _ _ _ _ _ ls (by rw [hL_st]; exact sim_piece rel ) hPL hPM hD hS (lv_sub hl [2, 3, 4, 5, 6] rfl)
set_option maxHeartbeats 4000000 in
set_option maxRecDepth 100000 in
theorem case_1 {p : Program} {l : Launch} {e : Env} {s : State} {m : MethodId} {below : List Frame} {meth : Method} {c : Code} {dC : Nat → ClassId} {dI : Nat → Nat → Nat} {b L : Nat} {xs : Nat → Int32} {r : Nat → Nat} {k : Nat → ClassId} {o : Nat} {kO : ClassId} {r2 : Nat → Nat} {k2 : Nat → ClassId} (hl9 : l.stackTraces = false) (C0 : lw_At p s m meth c b L xs) (hXS : XS (fun q => s.heap.size ≤ q) s s.heap) (hKL : va_K (dC, dI) classes (tL k kO) s) (hKM : va_K (dC, dI) classes (tM k2) s) {F : Nat → Int32} {A : Nat → Nat → Int32} {f : Nat → Int64} {G : Nat → Int32} {B : Nat → Nat → Int32} {H : Heap} {locs : List Loc} {ls : Array Slot} {i : Int32} {cells slots : Nat} {Q : State → Prop} (hcl : cells + 1 ≤ 1078) (hsl : slots + 6 ≤ 9466) (h1 : vp_in (i + 1) L) (h2 : vp_in (i + 2) L) (h3 : vp_in (i + 3) L) (h4 : vp_in (i + 4) L) (h5 : vp_in (i + 5) L) (rel : LR F A G B) (hPL : va_P (dC, dI) classes (wL r k F A o kO f) H) (hPM : va_P (dC, dI) classes (wM r2 k2 G B) H) (hD : va_D (fun q => s.heap.size ≤ q) (wM r2 k2 G B ++ wL r k F A o kO f)) (hS : va_S (fun q => s.heap.size ≤ q) s.heap H locs) (hl : lv_has ls 7 [(0, .ref b), (1, .ref (r 0)), (2, .ref (r2 0)), (3, .ref o), (4, .int i)])
    (next : ∀ (F : Nat → Int32) (A : Nat → Nat → Int32) (f : Nat → Int64) (G : Nat → Int32) (B : Nat → Nat → Int32) (H : Heap) (locs : List Loc) (ls : Array Slot), LR F A G B → va_P (dC, dI) classes (wL r k F A o kO f) H → va_P (dC, dI) classes (wM r2 k2 G B) H → va_D (fun q => s.heap.size ≤ q) (wM r2 k2 G B ++ wL r k F A o kO f) → va_S (fun q => s.heap.size ≤ q) s.heap H locs → lv_has ls 7 [(0, .ref b), (1, .ref (r 0)), (2, .ref (r2 0)), (3, .ref o), (4, .int i)] → W p l e room_1 s m #[Value.ref b] below meth c H locs (cells + 1) (slots + 6) Q (F0 m 889 ls [])) : W p l e room_1 s m #[Value.ref b] below meth c H locs cells slots Q (F0 m 144 ls []) := by
  obtain ⟨hx, hb, hr, hml, hown, hts, hX, hbl, hlocks, hgv⟩ := C0
  have hW : ∀ w ∈ WALL, w.before #[Value.ref b] s = true := fun w h => hts w (WALL_good w h).1
  have hA : ∀ q : Nat, s.heap.size ≤ q → (fun q : Nat => s.heap.size ≤ q) q := fun _ h => h
  have hbA : ¬ (fun q : Nat => s.heap.size ≤ q) b := Nat.not_le.mpr hbl
  have hI := rel.ci
  have hJ := rel.si
  have h_at := rel.at
  refine lv_aload_n hx hb d_law_144 rfl (lv_at hl 1 rfl) ?_
  refine lv_aload_n hx hb d_law_145 rfl (lv_at hl 0 rfl) ?_
  refine lv_iload hx hb d_law_146 (lv_at hl 4 rfl) ?_
  refine lv_iconst (v := 1) hx hb d_law_148 (by decide) ?_
  refine lv_iadd hx hb d_law_149 ?_
  refine va_sld hx hb hX hbl hbA hS h1 d_law_150 ?_
  refine lv_aload_n hx hb d_law_151 rfl (lv_at hl 0 rfl) ?_
  refine lv_iload hx hb d_law_152 (lv_at hl 4 rfl) ?_
  refine lv_iconst (v := 2) hx hb d_law_154 (by decide) ?_
  refine lv_iadd hx hb d_law_155 ?_
  refine va_sld hx hb hX hbl hbA hS h2 d_law_156 ?_
  refine lv_aload_n hx hb d_law_157 rfl (lv_at hl 0 rfl) ?_
  refine lv_iload hx hb d_law_158 (lv_at hl 4 rfl) ?_
  refine lv_iconst (v := 3) hx hb d_law_160 (by decide) ?_
  refine lv_iadd hx hb d_law_161 ?_
  refine va_sld hx hb hX hbl hbA hS h3 d_law_162 ?_
  refine lv_if_eq (tgt := 170) hx hb d_law_163 (by decide) (fun e_1 => ?_) (fun e_1 => ?_)
  · refine lv_iconst (v := 0) hx hb d_law_170 (by decide) ?_
    refine lv_aload_n hx hb d_law_171 rfl (lv_at hl 3 rfl) ?_
    refine scS (rest := []) (hh := [(0, 12, 15, 19), (0, 12, 19, 21)]) (wr := wM r2 k2 G B) (wf := fun u : SL => wL r k u.2.1 u.2.2 o kO u.1) ⟨hx, hb, hml, hown, hW⟩ (c_Lw_link l hl9 dC dI r k F A o kO f _ (xs (i + 1).toNatClampNeg) (xs (i + 2).toNatClampNeg) 0 hI) (vx_cwSW 5 hW (gInS k_351 k_352 k_345 k_353) rfl rfl rfl (by decide +kernel) ⟨Nat.le_of_ble_eq_true rfl, Nat.le_of_ble_eq_true rfl⟩) hKL hPM hPL hD hS hA hXS rfl hl.1 rfl (Nat.le_of_ble_eq_true rfl) d_law_172 ⟨hcl, hsl⟩ (fun H locs hPM hPL hD hS => ?_)
    refine lv_istore (lv' := [(5, .int ((hL cm_Lw_link f (f_RS_link F A (xs (i + 1).toNatClampNeg) (xs (i + 2).toNatClampNeg) 0)).1)), (0, .ref b), (1, .ref (r 0)), (2, .ref (r2 0)), (3, .ref o), (4, .int i)]) hx hb d_law_175 hl (by decide) rfl (fun ls hl => ?_)
    refine lv_aload_n hx hb d_law_177 rfl (lv_at hl 3 rfl) ?_
    refine lv_aload_n hx hb d_law_178 rfl (lv_at hl 1 rfl) ?_
    refine lv_iload hx hb d_law_179 (lv_at hl 5 rfl) ?_
    refine lv_iconst (v := 1) hx hb d_law_181 (by decide) ?_
    refine lv_iadd hx hb d_law_182 ?_
    refine va_sld hx hb hX hbl hbA hS h1 d_law_183 ?_
    refine lv_aload_n hx hb d_law_184 rfl (lv_at hl 1 rfl) ?_
    refine lv_iload hx hb d_law_185 (lv_at hl 5 rfl) ?_
    refine lv_iconst (v := 2) hx hb d_law_187 (by decide) ?_
    refine lv_iadd hx hb d_law_188 ?_
    refine va_sld hx hb hX hbl hbA hS h2 d_law_189 ?_
    refine lv_aload_n hx hb d_law_190 rfl (lv_at hl 1 rfl) ?_
    refine lv_iload hx hb d_law_191 (lv_at hl 5 rfl) ?_
    refine lv_iconst (v := 3) hx hb d_law_193 (by decide) ?_
    refine lv_iadd hx hb d_law_194 ?_
    refine va_sld hx hb hX hbl hbA hS h3 d_law_195 ?_
    refine lv_if_eq (tgt := 203) hx hb d_law_196 (by decide) (fun _ => ?_) (fun h9 => absurd e_1 h9)
    refine lv_iconst (v := 0) hx hb d_law_203 (by decide) ?_
    refine mcV (rest := []) (wr := wL r k ((hL cm_Lw_link f (f_RS_link F A (xs (i + 1).toNatClampNeg) (xs (i + 2).toNatClampNeg) 0)).2.2.1) ((hL cm_Lw_link f (f_RS_link F A (xs (i + 1).toNatClampNeg) (xs (i + 2).toNatClampNeg) 0)).2.2.2) o kO ((hL cm_Lw_link f (f_RS_link F A (xs (i + 1).toNatClampNeg) (xs (i + 2).toNatClampNeg) 0)).2.1)) (wf := fun u : SC => wM r2 k2 u.1 u.2) ⟨hx, hb, hml, hown, hW⟩ (c_Mo_link l dC dI r2 k2 G B _ (xs (i + 1).toNatClampNeg) (xs (i + 2).toNatClampNeg) 0 hJ) (cwV 3 hW (gIn k_354 k_355 k_356 k_193 k_357) rfl rfl rfl (by decide +kernel) ⟨Nat.le_of_ble_eq_true rfl, Nat.le_of_ble_eq_true rfl⟩) hKM hPL hPM (dSwap hD) hS hA (va_recv hKM hPM (ci := 3) (q0 := 0) rfl rfl) rfl hl.1 rfl (Nat.le_of_ble_eq_true rfl) d_law_204 ⟨hcl, hsl⟩ (fun H locs hPL hPM hD hS => ?_)
    have hD := dSwap hD
    refine lv_istore (lv' := [(6, .int ((f_Mo_link G B (xs (i + 1).toNatClampNeg) (xs (i + 2).toNatClampNeg) 0).1)), (5, .int ((hL cm_Lw_link f (f_RS_link F A (xs (i + 1).toNatClampNeg) (xs (i + 2).toNatClampNeg) 0)).1)), (0, .ref b), (1, .ref (r 0)), (2, .ref (r2 0)), (3, .ref o), (4, .int i)]) hx hb d_law_207 hl (by decide) rfl (fun ls hl => ?_)
    refine lv_goto (tgt := 889) hx hb d_law_209 (by decide) ?_
    exact next _ _ _ _ _ _ _ ls (by rw [hL_st]; exact sim_link rel (xs (i + 1).toNatClampNeg) (xs (i + 2).toNatClampNeg) 0 (by decide)) hPL hPM hD hS (lv_sub hl [2, 3, 4, 5, 6] rfl)
  · refine lv_iconst (v := 1) hx hb d_law_166 (by decide) ?_
    refine lv_goto (tgt := 171) hx hb d_law_167 (by decide) ?_
    refine lv_aload_n hx hb d_law_171 rfl (lv_at hl 3 rfl) ?_
    refine scS (rest := []) (hh := [(0, 12, 15, 19), (0, 12, 19, 21)]) (wr := wM r2 k2 G B) (wf := fun u : SL => wL r k u.2.1 u.2.2 o kO u.1) ⟨hx, hb, hml, hown, hW⟩ (c_Lw_link l hl9 dC dI r k F A o kO f _ (xs (i + 1).toNatClampNeg) (xs (i + 2).toNatClampNeg) 1 hI) (vx_cwSW 5 hW (gInS k_351 k_352 k_345 k_353) rfl rfl rfl (by decide +kernel) ⟨Nat.le_of_ble_eq_true rfl, Nat.le_of_ble_eq_true rfl⟩) hKL hPM hPL hD hS hA hXS rfl hl.1 rfl (Nat.le_of_ble_eq_true rfl) d_law_172 ⟨hcl, hsl⟩ (fun H locs hPM hPL hD hS => ?_)
    refine lv_istore (lv' := [(5, .int ((hL cm_Lw_link f (f_RS_link F A (xs (i + 1).toNatClampNeg) (xs (i + 2).toNatClampNeg) 1)).1)), (0, .ref b), (1, .ref (r 0)), (2, .ref (r2 0)), (3, .ref o), (4, .int i)]) hx hb d_law_175 hl (by decide) rfl (fun ls hl => ?_)
    refine lv_aload_n hx hb d_law_177 rfl (lv_at hl 3 rfl) ?_
    refine lv_aload_n hx hb d_law_178 rfl (lv_at hl 1 rfl) ?_
    refine lv_iload hx hb d_law_179 (lv_at hl 5 rfl) ?_
    refine lv_iconst (v := 1) hx hb d_law_181 (by decide) ?_
    refine lv_iadd hx hb d_law_182 ?_
    refine va_sld hx hb hX hbl hbA hS h1 d_law_183 ?_
    refine lv_aload_n hx hb d_law_184 rfl (lv_at hl 1 rfl) ?_
    refine lv_iload hx hb d_law_185 (lv_at hl 5 rfl) ?_
    refine lv_iconst (v := 2) hx hb d_law_187 (by decide) ?_
    refine lv_iadd hx hb d_law_188 ?_
    refine va_sld hx hb hX hbl hbA hS h2 d_law_189 ?_
    refine lv_aload_n hx hb d_law_190 rfl (lv_at hl 1 rfl) ?_
    refine lv_iload hx hb d_law_191 (lv_at hl 5 rfl) ?_
    refine lv_iconst (v := 3) hx hb d_law_193 (by decide) ?_
    refine lv_iadd hx hb d_law_194 ?_
    refine va_sld hx hb hX hbl hbA hS h3 d_law_195 ?_
    refine lv_if_eq (tgt := 203) hx hb d_law_196 (by decide) (fun h9 => absurd h9 e_1) (fun _ => ?_)
    refine lv_iconst (v := 1) hx hb d_law_199 (by decide) ?_
    refine lv_goto (tgt := 204) hx hb d_law_200 (by decide) ?_
    refine mcV (rest := []) (wr := wL r k ((hL cm_Lw_link f (f_RS_link F A (xs (i + 1).toNatClampNeg) (xs (i + 2).toNatClampNeg) 1)).2.2.1) ((hL cm_Lw_link f (f_RS_link F A (xs (i + 1).toNatClampNeg) (xs (i + 2).toNatClampNeg) 1)).2.2.2) o kO ((hL cm_Lw_link f (f_RS_link F A (xs (i + 1).toNatClampNeg) (xs (i + 2).toNatClampNeg) 1)).2.1)) (wf := fun u : SC => wM r2 k2 u.1 u.2) ⟨hx, hb, hml, hown, hW⟩ (c_Mo_link l dC dI r2 k2 G B _ (xs (i + 1).toNatClampNeg) (xs (i + 2).toNatClampNeg) 1 hJ) (cwV 3 hW (gIn k_354 k_355 k_356 k_193 k_357) rfl rfl rfl (by decide +kernel) ⟨Nat.le_of_ble_eq_true rfl, Nat.le_of_ble_eq_true rfl⟩) hKM hPL hPM (dSwap hD) hS hA (va_recv hKM hPM (ci := 3) (q0 := 0) rfl rfl) rfl hl.1 rfl (Nat.le_of_ble_eq_true rfl) d_law_204 ⟨hcl, hsl⟩ (fun H locs hPL hPM hD hS => ?_)
    have hD := dSwap hD
    refine lv_istore (lv' := [(6, .int ((f_Mo_link G B (xs (i + 1).toNatClampNeg) (xs (i + 2).toNatClampNeg) 1).1)), (5, .int ((hL cm_Lw_link f (f_RS_link F A (xs (i + 1).toNatClampNeg) (xs (i + 2).toNatClampNeg) 1)).1)), (0, .ref b), (1, .ref (r 0)), (2, .ref (r2 0)), (3, .ref o), (4, .int i)]) hx hb d_law_207 hl (by decide) rfl (fun ls hl => ?_)
    refine lv_goto (tgt := 889) hx hb d_law_209 (by decide) ?_
    exact next _ _ _ _ _ _ _ ls (by rw [hL_st]; exact sim_link rel (xs (i + 1).toNatClampNeg) (xs (i + 2).toNatClampNeg) 1 (by decide)) hPL hPM hD hS (lv_sub hl [2, 3, 4, 5, 6] rfl)
set_option maxHeartbeats 4000000 in
set_option maxRecDepth 100000 in
theorem case_2 {p : Program} {l : Launch} {e : Env} {s : State} {m : MethodId} {below : List Frame} {meth : Method} {c : Code} {dC : Nat → ClassId} {dI : Nat → Nat → Nat} {b L : Nat} {xs : Nat → Int32} {r : Nat → Nat} {k : Nat → ClassId} {o : Nat} {kO : ClassId} {r2 : Nat → Nat} {k2 : Nat → ClassId} (hl9 : l.stackTraces = false) (C0 : lw_At p s m meth c b L xs) (hXS : XS (fun q => s.heap.size ≤ q) s s.heap) (hKL : va_K (dC, dI) classes (tL k kO) s) (hKM : va_K (dC, dI) classes (tM k2) s) {F : Nat → Int32} {A : Nat → Nat → Int32} {f : Nat → Int64} {G : Nat → Int32} {B : Nat → Nat → Int32} {H : Heap} {locs : List Loc} {ls : Array Slot} {i : Int32} {cells slots : Nat} {Q : State → Prop} (hcl : cells + 1 ≤ 1078) (hsl : slots + 6 ≤ 9466) (h1 : vp_in (i + 1) L) (h2 : vp_in (i + 2) L) (h3 : vp_in (i + 3) L) (h4 : vp_in (i + 4) L) (h5 : vp_in (i + 5) L) (rel : LR F A G B) (hPL : va_P (dC, dI) classes (wL r k F A o kO f) H) (hPM : va_P (dC, dI) classes (wM r2 k2 G B) H) (hD : va_D (fun q => s.heap.size ≤ q) (wM r2 k2 G B ++ wL r k F A o kO f)) (hS : va_S (fun q => s.heap.size ≤ q) s.heap H locs) (hl : lv_has ls 7 [(0, .ref b), (1, .ref (r 0)), (2, .ref (r2 0)), (3, .ref o), (4, .int i)])
    (next : ∀ (F : Nat → Int32) (A : Nat → Nat → Int32) (f : Nat → Int64) (G : Nat → Int32) (B : Nat → Nat → Int32) (H : Heap) (locs : List Loc) (ls : Array Slot), LR F A G B → va_P (dC, dI) classes (wL r k F A o kO f) H → va_P (dC, dI) classes (wM r2 k2 G B) H → va_D (fun q => s.heap.size ≤ q) (wM r2 k2 G B ++ wL r k F A o kO f) → va_S (fun q => s.heap.size ≤ q) s.heap H locs → lv_has ls 7 [(0, .ref b), (1, .ref (r 0)), (2, .ref (r2 0)), (3, .ref o), (4, .int i)] → W p l e room_1 s m #[Value.ref b] below meth c H locs (cells + 1) (slots + 6) Q (F0 m 889 ls [])) : W p l e room_1 s m #[Value.ref b] below meth c H locs cells slots Q (F0 m 212 ls []) := by
  obtain ⟨hx, hb, hr, hml, hown, hts, hX, hbl, hlocks, hgv⟩ := C0
  have hW : ∀ w ∈ WALL, w.before #[Value.ref b] s = true := fun w h => hts w (WALL_good w h).1
  have hA : ∀ q : Nat, s.heap.size ≤ q → (fun q : Nat => s.heap.size ≤ q) q := fun _ h => h
  have hbA : ¬ (fun q : Nat => s.heap.size ≤ q) b := Nat.not_le.mpr hbl
  have hI := rel.ci
  have hJ := rel.si
  have h_at := rel.at
  refine lv_aload_n hx hb d_law_212 rfl (lv_at hl 1 rfl) ?_
  refine lv_aload_n hx hb d_law_213 rfl (lv_at hl 0 rfl) ?_
  refine lv_iload hx hb d_law_214 (lv_at hl 4 rfl) ?_
  refine lv_iconst (v := 1) hx hb d_law_216 (by decide) ?_
  refine lv_iadd hx hb d_law_217 ?_
  refine va_sld hx hb hX hbl hbA hS h1 d_law_218 ?_
  refine lv_aload_n hx hb d_law_219 rfl (lv_at hl 0 rfl) ?_
  refine lv_iload hx hb d_law_220 (lv_at hl 4 rfl) ?_
  refine lv_iconst (v := 2) hx hb d_law_222 (by decide) ?_
  refine lv_iadd hx hb d_law_223 ?_
  refine va_sld hx hb hX hbl hbA hS h2 d_law_224 ?_
  refine lv_if_eq (tgt := 232) hx hb d_law_225 (by decide) (fun e_2 => ?_) (fun e_2 => ?_)
  · refine lv_iconst (v := 0) hx hb d_law_232 (by decide) ?_
    refine lv_aload_n hx hb d_law_233 rfl (lv_at hl 3 rfl) ?_
    refine scS (rest := []) (hh := [(0, 10, 13, 19), (0, 10, 17, 27), (0, 10, 21, 13)]) (wr := wM r2 k2 G B) (wf := fun u : SL => wL r k u.2.1 u.2.2 o kO u.1) ⟨hx, hb, hml, hown, hW⟩ (c_Lw_robot l hl9 dC dI r k F A o kO f _ (xs (i + 1).toNatClampNeg) 0 hI) (vx_cwSW 4 hW (gInS k_358 k_359 k_345 k_360) rfl rfl rfl (by decide +kernel) ⟨Nat.le_of_ble_eq_true rfl, Nat.le_of_ble_eq_true rfl⟩) hKL hPM hPL hD hS hA hXS rfl hl.1 rfl (Nat.le_of_ble_eq_true rfl) d_law_234 ⟨hcl, hsl⟩ (fun H locs hPM hPL hD hS => ?_)
    refine lv_istore (lv' := [(5, .int ((hL cm_Lw_robot f (f_RS_robot F A (xs (i + 1).toNatClampNeg) 0)).1)), (0, .ref b), (1, .ref (r 0)), (2, .ref (r2 0)), (3, .ref o), (4, .int i)]) hx hb d_law_237 hl (by decide) rfl (fun ls hl => ?_)
    refine lv_aload_n hx hb d_law_239 rfl (lv_at hl 3 rfl) ?_
    refine lv_aload_n hx hb d_law_240 rfl (lv_at hl 1 rfl) ?_
    refine lv_iload hx hb d_law_241 (lv_at hl 5 rfl) ?_
    refine lv_iconst (v := 1) hx hb d_law_243 (by decide) ?_
    refine lv_iadd hx hb d_law_244 ?_
    refine va_sld hx hb hX hbl hbA hS h1 d_law_245 ?_
    refine lv_aload_n hx hb d_law_246 rfl (lv_at hl 1 rfl) ?_
    refine lv_iload hx hb d_law_247 (lv_at hl 5 rfl) ?_
    refine lv_iconst (v := 2) hx hb d_law_249 (by decide) ?_
    refine lv_iadd hx hb d_law_250 ?_
    refine va_sld hx hb hX hbl hbA hS h2 d_law_251 ?_
    refine lv_if_eq (tgt := 259) hx hb d_law_252 (by decide) (fun _ => ?_) (fun h9 => absurd e_2 h9)
    refine lv_iconst (v := 0) hx hb d_law_259 (by decide) ?_
    refine mcV (rest := []) (wr := wL r k ((hL cm_Lw_robot f (f_RS_robot F A (xs (i + 1).toNatClampNeg) 0)).2.2.1) ((hL cm_Lw_robot f (f_RS_robot F A (xs (i + 1).toNatClampNeg) 0)).2.2.2) o kO ((hL cm_Lw_robot f (f_RS_robot F A (xs (i + 1).toNatClampNeg) 0)).2.1)) (wf := fun u : SC => wM r2 k2 u.1 u.2) ⟨hx, hb, hml, hown, hW⟩ (c_Mo_robot l dC dI r2 k2 G B _ (xs (i + 1).toNatClampNeg) 0 hJ) (cwV 2 hW (gIn k_361 k_362 k_363 k_193 k_364) rfl rfl rfl (by decide +kernel) ⟨Nat.le_of_ble_eq_true rfl, Nat.le_of_ble_eq_true rfl⟩) hKM hPL hPM (dSwap hD) hS hA (va_recv hKM hPM (ci := 3) (q0 := 0) rfl rfl) rfl hl.1 rfl (Nat.le_of_ble_eq_true rfl) d_law_260 ⟨hcl, hsl⟩ (fun H locs hPL hPM hD hS => ?_)
    have hD := dSwap hD
    refine lv_istore (lv' := [(6, .int ((f_Mo_robot G B (xs (i + 1).toNatClampNeg) 0).1)), (5, .int ((hL cm_Lw_robot f (f_RS_robot F A (xs (i + 1).toNatClampNeg) 0)).1)), (0, .ref b), (1, .ref (r 0)), (2, .ref (r2 0)), (3, .ref o), (4, .int i)]) hx hb d_law_263 hl (by decide) rfl (fun ls hl => ?_)
    refine lv_goto (tgt := 889) hx hb d_law_265 (by decide) ?_
    exact next _ _ _ _ _ _ _ ls (by rw [hL_st]; exact sim_robot rel (xs (i + 1).toNatClampNeg) 0) hPL hPM hD hS (lv_sub hl [2, 3, 4, 5, 6] rfl)
  · refine lv_iconst (v := 1) hx hb d_law_228 (by decide) ?_
    refine lv_goto (tgt := 233) hx hb d_law_229 (by decide) ?_
    refine lv_aload_n hx hb d_law_233 rfl (lv_at hl 3 rfl) ?_
    refine scS (rest := []) (hh := [(0, 10, 13, 19), (0, 10, 17, 27), (0, 10, 21, 13)]) (wr := wM r2 k2 G B) (wf := fun u : SL => wL r k u.2.1 u.2.2 o kO u.1) ⟨hx, hb, hml, hown, hW⟩ (c_Lw_robot l hl9 dC dI r k F A o kO f _ (xs (i + 1).toNatClampNeg) 1 hI) (vx_cwSW 4 hW (gInS k_358 k_359 k_345 k_360) rfl rfl rfl (by decide +kernel) ⟨Nat.le_of_ble_eq_true rfl, Nat.le_of_ble_eq_true rfl⟩) hKL hPM hPL hD hS hA hXS rfl hl.1 rfl (Nat.le_of_ble_eq_true rfl) d_law_234 ⟨hcl, hsl⟩ (fun H locs hPM hPL hD hS => ?_)
    refine lv_istore (lv' := [(5, .int ((hL cm_Lw_robot f (f_RS_robot F A (xs (i + 1).toNatClampNeg) 1)).1)), (0, .ref b), (1, .ref (r 0)), (2, .ref (r2 0)), (3, .ref o), (4, .int i)]) hx hb d_law_237 hl (by decide) rfl (fun ls hl => ?_)
    refine lv_aload_n hx hb d_law_239 rfl (lv_at hl 3 rfl) ?_
    refine lv_aload_n hx hb d_law_240 rfl (lv_at hl 1 rfl) ?_
    refine lv_iload hx hb d_law_241 (lv_at hl 5 rfl) ?_
    refine lv_iconst (v := 1) hx hb d_law_243 (by decide) ?_
    refine lv_iadd hx hb d_law_244 ?_
    refine va_sld hx hb hX hbl hbA hS h1 d_law_245 ?_
    refine lv_aload_n hx hb d_law_246 rfl (lv_at hl 1 rfl) ?_
    refine lv_iload hx hb d_law_247 (lv_at hl 5 rfl) ?_
    refine lv_iconst (v := 2) hx hb d_law_249 (by decide) ?_
    refine lv_iadd hx hb d_law_250 ?_
    refine va_sld hx hb hX hbl hbA hS h2 d_law_251 ?_
    refine lv_if_eq (tgt := 259) hx hb d_law_252 (by decide) (fun h9 => absurd h9 e_2) (fun _ => ?_)
    refine lv_iconst (v := 1) hx hb d_law_255 (by decide) ?_
    refine lv_goto (tgt := 260) hx hb d_law_256 (by decide) ?_
    refine mcV (rest := []) (wr := wL r k ((hL cm_Lw_robot f (f_RS_robot F A (xs (i + 1).toNatClampNeg) 1)).2.2.1) ((hL cm_Lw_robot f (f_RS_robot F A (xs (i + 1).toNatClampNeg) 1)).2.2.2) o kO ((hL cm_Lw_robot f (f_RS_robot F A (xs (i + 1).toNatClampNeg) 1)).2.1)) (wf := fun u : SC => wM r2 k2 u.1 u.2) ⟨hx, hb, hml, hown, hW⟩ (c_Mo_robot l dC dI r2 k2 G B _ (xs (i + 1).toNatClampNeg) 1 hJ) (cwV 2 hW (gIn k_361 k_362 k_363 k_193 k_364) rfl rfl rfl (by decide +kernel) ⟨Nat.le_of_ble_eq_true rfl, Nat.le_of_ble_eq_true rfl⟩) hKM hPL hPM (dSwap hD) hS hA (va_recv hKM hPM (ci := 3) (q0 := 0) rfl rfl) rfl hl.1 rfl (Nat.le_of_ble_eq_true rfl) d_law_260 ⟨hcl, hsl⟩ (fun H locs hPL hPM hD hS => ?_)
    have hD := dSwap hD
    refine lv_istore (lv' := [(6, .int ((f_Mo_robot G B (xs (i + 1).toNatClampNeg) 1).1)), (5, .int ((hL cm_Lw_robot f (f_RS_robot F A (xs (i + 1).toNatClampNeg) 1)).1)), (0, .ref b), (1, .ref (r 0)), (2, .ref (r2 0)), (3, .ref o), (4, .int i)]) hx hb d_law_263 hl (by decide) rfl (fun ls hl => ?_)
    refine lv_goto (tgt := 889) hx hb d_law_265 (by decide) ?_
    exact next _ _ _ _ _ _ _ ls (by rw [hL_st]; exact sim_robot rel (xs (i + 1).toNatClampNeg) 1) hPL hPM hD hS (lv_sub hl [2, 3, 4, 5, 6] rfl)
set_option maxHeartbeats 4000000 in
set_option maxRecDepth 100000 in
theorem case_3 {p : Program} {l : Launch} {e : Env} {s : State} {m : MethodId} {below : List Frame} {meth : Method} {c : Code} {dC : Nat → ClassId} {dI : Nat → Nat → Nat} {b L : Nat} {xs : Nat → Int32} {r : Nat → Nat} {k : Nat → ClassId} {o : Nat} {kO : ClassId} {r2 : Nat → Nat} {k2 : Nat → ClassId} (hl9 : l.stackTraces = false) (C0 : lw_At p s m meth c b L xs) (hXS : XS (fun q => s.heap.size ≤ q) s s.heap) (hKL : va_K (dC, dI) classes (tL k kO) s) (hKM : va_K (dC, dI) classes (tM k2) s) {F : Nat → Int32} {A : Nat → Nat → Int32} {f : Nat → Int64} {G : Nat → Int32} {B : Nat → Nat → Int32} {H : Heap} {locs : List Loc} {ls : Array Slot} {i : Int32} {cells slots : Nat} {Q : State → Prop} (hcl : cells + 1 ≤ 1078) (hsl : slots + 6 ≤ 9466) (h1 : vp_in (i + 1) L) (h2 : vp_in (i + 2) L) (h3 : vp_in (i + 3) L) (h4 : vp_in (i + 4) L) (h5 : vp_in (i + 5) L) (rel : LR F A G B) (hPL : va_P (dC, dI) classes (wL r k F A o kO f) H) (hPM : va_P (dC, dI) classes (wM r2 k2 G B) H) (hD : va_D (fun q => s.heap.size ≤ q) (wM r2 k2 G B ++ wL r k F A o kO f)) (hS : va_S (fun q => s.heap.size ≤ q) s.heap H locs) (hl : lv_has ls 7 [(0, .ref b), (1, .ref (r 0)), (2, .ref (r2 0)), (3, .ref o), (4, .int i)])
    (next : ∀ (F : Nat → Int32) (A : Nat → Nat → Int32) (f : Nat → Int64) (G : Nat → Int32) (B : Nat → Nat → Int32) (H : Heap) (locs : List Loc) (ls : Array Slot), LR F A G B → va_P (dC, dI) classes (wL r k F A o kO f) H → va_P (dC, dI) classes (wM r2 k2 G B) H → va_D (fun q => s.heap.size ≤ q) (wM r2 k2 G B ++ wL r k F A o kO f) → va_S (fun q => s.heap.size ≤ q) s.heap H locs → lv_has ls 7 [(0, .ref b), (1, .ref (r 0)), (2, .ref (r2 0)), (3, .ref o), (4, .int i)] → W p l e room_1 s m #[Value.ref b] below meth c H locs (cells + 1) (slots + 6) Q (F0 m 889 ls [])) : W p l e room_1 s m #[Value.ref b] below meth c H locs cells slots Q (F0 m 268 ls []) := by
  obtain ⟨hx, hb, hr, hml, hown, hts, hX, hbl, hlocks, hgv⟩ := C0
  have hW : ∀ w ∈ WALL, w.before #[Value.ref b] s = true := fun w h => hts w (WALL_good w h).1
  have hA : ∀ q : Nat, s.heap.size ≤ q → (fun q : Nat => s.heap.size ≤ q) q := fun _ h => h
  have hbA : ¬ (fun q : Nat => s.heap.size ≤ q) b := Nat.not_le.mpr hbl
  have hI := rel.ci
  have hJ := rel.si
  have h_at := rel.at
  refine lv_aload_n hx hb d_law_268 rfl (lv_at hl 1 rfl) ?_
  refine lv_aload_n hx hb d_law_269 rfl (lv_at hl 0 rfl) ?_
  refine lv_iload hx hb d_law_270 (lv_at hl 4 rfl) ?_
  refine lv_iconst (v := 1) hx hb d_law_272 (by decide) ?_
  refine lv_iadd hx hb d_law_273 ?_
  refine va_sld hx hb hX hbl hbA hS h1 d_law_274 ?_
  refine lv_aload_n hx hb d_law_275 rfl (lv_at hl 0 rfl) ?_
  refine lv_iload hx hb d_law_276 (lv_at hl 4 rfl) ?_
  refine lv_iconst (v := 2) hx hb d_law_278 (by decide) ?_
  refine lv_iadd hx hb d_law_279 ?_
  refine va_sld hx hb hX hbl hbA hS h2 d_law_280 ?_
  refine lv_aload_n hx hb d_law_281 rfl (lv_at hl 0 rfl) ?_
  refine lv_iload hx hb d_law_282 (lv_at hl 4 rfl) ?_
  refine lv_iconst (v := 3) hx hb d_law_284 (by decide) ?_
  refine lv_iadd hx hb d_law_285 ?_
  refine va_sld hx hb hX hbl hbA hS h3 d_law_286 ?_
  refine lv_aload_n hx hb d_law_287 rfl (lv_at hl 0 rfl) ?_
  refine lv_iload hx hb d_law_288 (lv_at hl 4 rfl) ?_
  refine lv_iconst (v := 4) hx hb d_law_290 (by decide) ?_
  refine lv_iadd hx hb d_law_291 ?_
  refine va_sld hx hb hX hbl hbA hS h4 d_law_292 ?_
  refine lv_aload_n hx hb d_law_293 rfl (lv_at hl 0 rfl) ?_
  refine lv_iload hx hb d_law_294 (lv_at hl 4 rfl) ?_
  refine lv_iconst (v := 5) hx hb d_law_296 (by decide) ?_
  refine lv_iadd hx hb d_law_297 ?_
  refine va_sld hx hb hX hbl hbA hS h5 d_law_298 ?_
  refine lv_aload_n hx hb d_law_299 rfl (lv_at hl 3 rfl) ?_
  refine scS (rest := []) (hh := [(0, 16, 19, 19), (0, 16, 23, 21), (0, 16, 27, 27), (0, 16, 31, 13)]) (wr := wM r2 k2 G B) (wf := fun u : SL => wL r k u.2.1 u.2.2 o kO u.1) ⟨hx, hb, hml, hown, hW⟩ (c_Lw_ask l hl9 dC dI r k F A o kO f _ (xs (i + 1).toNatClampNeg) (xs (i + 2).toNatClampNeg) (xs (i + 3).toNatClampNeg) (xs (i + 4).toNatClampNeg) (xs (i + 5).toNatClampNeg) hI) (vx_cwSW 7 hW (gInS k_365 k_366 k_345 k_367) rfl rfl rfl (by decide +kernel) ⟨Nat.le_of_ble_eq_true rfl, Nat.le_of_ble_eq_true rfl⟩) hKL hPM hPL hD hS hA hXS rfl hl.1 rfl (Nat.le_of_ble_eq_true rfl) d_law_300 ⟨hcl, hsl⟩ (fun H locs hPM hPL hD hS => ?_)
  refine lv_istore (lv' := [(5, .int ((hL cm_Lw_ask f (f_RS_ask F A (xs (i + 1).toNatClampNeg) (xs (i + 2).toNatClampNeg) (xs (i + 3).toNatClampNeg) (xs (i + 4).toNatClampNeg) (xs (i + 5).toNatClampNeg))).1)), (0, .ref b), (1, .ref (r 0)), (2, .ref (r2 0)), (3, .ref o), (4, .int i)]) hx hb d_law_303 hl (by decide) rfl (fun ls hl => ?_)
  refine lv_aload_n hx hb d_law_305 rfl (lv_at hl 3 rfl) ?_
  refine lv_aload_n hx hb d_law_306 rfl (lv_at hl 1 rfl) ?_
  refine lv_iload hx hb d_law_307 (lv_at hl 5 rfl) ?_
  refine lv_iconst (v := 1) hx hb d_law_309 (by decide) ?_
  refine lv_iadd hx hb d_law_310 ?_
  refine va_sld hx hb hX hbl hbA hS h1 d_law_311 ?_
  refine lv_aload_n hx hb d_law_312 rfl (lv_at hl 1 rfl) ?_
  refine lv_iload hx hb d_law_313 (lv_at hl 5 rfl) ?_
  refine lv_iconst (v := 2) hx hb d_law_315 (by decide) ?_
  refine lv_iadd hx hb d_law_316 ?_
  refine va_sld hx hb hX hbl hbA hS h2 d_law_317 ?_
  refine lv_aload_n hx hb d_law_318 rfl (lv_at hl 1 rfl) ?_
  refine lv_iload hx hb d_law_319 (lv_at hl 5 rfl) ?_
  refine lv_iconst (v := 3) hx hb d_law_321 (by decide) ?_
  refine lv_iadd hx hb d_law_322 ?_
  refine va_sld hx hb hX hbl hbA hS h3 d_law_323 ?_
  refine lv_aload_n hx hb d_law_324 rfl (lv_at hl 1 rfl) ?_
  refine lv_iload hx hb d_law_325 (lv_at hl 5 rfl) ?_
  refine lv_iconst (v := 4) hx hb d_law_327 (by decide) ?_
  refine lv_iadd hx hb d_law_328 ?_
  refine va_sld hx hb hX hbl hbA hS h4 d_law_329 ?_
  refine lv_aload_n hx hb d_law_330 rfl (lv_at hl 1 rfl) ?_
  refine lv_iload hx hb d_law_331 (lv_at hl 5 rfl) ?_
  refine lv_iconst (v := 5) hx hb d_law_333 (by decide) ?_
  refine lv_iadd hx hb d_law_334 ?_
  refine va_sld hx hb hX hbl hbA hS h5 d_law_335 ?_
  refine mcV (rest := []) (wr := wL r k ((hL cm_Lw_ask f (f_RS_ask F A (xs (i + 1).toNatClampNeg) (xs (i + 2).toNatClampNeg) (xs (i + 3).toNatClampNeg) (xs (i + 4).toNatClampNeg) (xs (i + 5).toNatClampNeg))).2.2.1) ((hL cm_Lw_ask f (f_RS_ask F A (xs (i + 1).toNatClampNeg) (xs (i + 2).toNatClampNeg) (xs (i + 3).toNatClampNeg) (xs (i + 4).toNatClampNeg) (xs (i + 5).toNatClampNeg))).2.2.2) o kO ((hL cm_Lw_ask f (f_RS_ask F A (xs (i + 1).toNatClampNeg) (xs (i + 2).toNatClampNeg) (xs (i + 3).toNatClampNeg) (xs (i + 4).toNatClampNeg) (xs (i + 5).toNatClampNeg))).2.1)) (wf := fun u : SC => wM r2 k2 u.1 u.2) ⟨hx, hb, hml, hown, hW⟩ (c_Mo_ask l dC dI r2 k2 G B _ (xs (i + 1).toNatClampNeg) (xs (i + 2).toNatClampNeg) (xs (i + 3).toNatClampNeg) (xs (i + 4).toNatClampNeg) (xs (i + 5).toNatClampNeg) hJ) (cwV 5 hW (gIn k_368 k_369 k_370 k_193 k_371) rfl rfl rfl (by decide +kernel) ⟨Nat.le_of_ble_eq_true rfl, Nat.le_of_ble_eq_true rfl⟩) hKM hPL hPM (dSwap hD) hS hA (va_recv hKM hPM (ci := 3) (q0 := 0) rfl rfl) rfl hl.1 rfl (Nat.le_of_ble_eq_true rfl) d_law_336 ⟨hcl, hsl⟩ (fun H locs hPL hPM hD hS => ?_)
  have hD := dSwap hD
  refine lv_istore (lv' := [(6, .int ((f_Mo_ask G B (xs (i + 1).toNatClampNeg) (xs (i + 2).toNatClampNeg) (xs (i + 3).toNatClampNeg) (xs (i + 4).toNatClampNeg) (xs (i + 5).toNatClampNeg)).1)), (5, .int ((hL cm_Lw_ask f (f_RS_ask F A (xs (i + 1).toNatClampNeg) (xs (i + 2).toNatClampNeg) (xs (i + 3).toNatClampNeg) (xs (i + 4).toNatClampNeg) (xs (i + 5).toNatClampNeg))).1)), (0, .ref b), (1, .ref (r 0)), (2, .ref (r2 0)), (3, .ref o), (4, .int i)]) hx hb d_law_339 hl (by decide) rfl (fun ls hl => ?_)
  refine lv_goto (tgt := 889) hx hb d_law_341 (by decide) ?_
  exact next _ _ _ _ _ _ _ ls (by rw [hL_st]; exact sim_ask rel (xs (i + 1).toNatClampNeg) (xs (i + 2).toNatClampNeg) (xs (i + 3).toNatClampNeg) (xs (i + 4).toNatClampNeg) (xs (i + 5).toNatClampNeg)) hPL hPM hD hS (lv_sub hl [2, 3, 4, 5, 6] rfl)
set_option maxHeartbeats 4000000 in
set_option maxRecDepth 100000 in
theorem case_4 {p : Program} {l : Launch} {e : Env} {s : State} {m : MethodId} {below : List Frame} {meth : Method} {c : Code} {dC : Nat → ClassId} {dI : Nat → Nat → Nat} {b L : Nat} {xs : Nat → Int32} {r : Nat → Nat} {k : Nat → ClassId} {o : Nat} {kO : ClassId} {r2 : Nat → Nat} {k2 : Nat → ClassId} (hl9 : l.stackTraces = false) (C0 : lw_At p s m meth c b L xs) (hXS : XS (fun q => s.heap.size ≤ q) s s.heap) (hKL : va_K (dC, dI) classes (tL k kO) s) (hKM : va_K (dC, dI) classes (tM k2) s) {F : Nat → Int32} {A : Nat → Nat → Int32} {f : Nat → Int64} {G : Nat → Int32} {B : Nat → Nat → Int32} {H : Heap} {locs : List Loc} {ls : Array Slot} {i : Int32} {cells slots : Nat} {Q : State → Prop} (hcl : cells + 1 ≤ 1078) (hsl : slots + 6 ≤ 9466) (h1 : vp_in (i + 1) L) (h2 : vp_in (i + 2) L) (h3 : vp_in (i + 3) L) (h4 : vp_in (i + 4) L) (h5 : vp_in (i + 5) L) (rel : LR F A G B) (hPL : va_P (dC, dI) classes (wL r k F A o kO f) H) (hPM : va_P (dC, dI) classes (wM r2 k2 G B) H) (hD : va_D (fun q => s.heap.size ≤ q) (wM r2 k2 G B ++ wL r k F A o kO f)) (hS : va_S (fun q => s.heap.size ≤ q) s.heap H locs) (hl : lv_has ls 7 [(0, .ref b), (1, .ref (r 0)), (2, .ref (r2 0)), (3, .ref o), (4, .int i)])
    (next : ∀ (F : Nat → Int32) (A : Nat → Nat → Int32) (f : Nat → Int64) (G : Nat → Int32) (B : Nat → Nat → Int32) (H : Heap) (locs : List Loc) (ls : Array Slot), LR F A G B → va_P (dC, dI) classes (wL r k F A o kO f) H → va_P (dC, dI) classes (wM r2 k2 G B) H → va_D (fun q => s.heap.size ≤ q) (wM r2 k2 G B ++ wL r k F A o kO f) → va_S (fun q => s.heap.size ≤ q) s.heap H locs → lv_has ls 7 [(0, .ref b), (1, .ref (r 0)), (2, .ref (r2 0)), (3, .ref o), (4, .int i)] → W p l e room_1 s m #[Value.ref b] below meth c H locs (cells + 1) (slots + 6) Q (F0 m 889 ls [])) : W p l e room_1 s m #[Value.ref b] below meth c H locs cells slots Q (F0 m 344 ls []) := by
  obtain ⟨hx, hb, hr, hml, hown, hts, hX, hbl, hlocks, hgv⟩ := C0
  have hW : ∀ w ∈ WALL, w.before #[Value.ref b] s = true := fun w h => hts w (WALL_good w h).1
  have hA : ∀ q : Nat, s.heap.size ≤ q → (fun q : Nat => s.heap.size ≤ q) q := fun _ h => h
  have hbA : ¬ (fun q : Nat => s.heap.size ≤ q) b := Nat.not_le.mpr hbl
  have hI := rel.ci
  have hJ := rel.si
  have h_at := rel.at
  refine lv_aload_n hx hb d_law_344 rfl (lv_at hl 1 rfl) ?_
  refine lv_aload_n hx hb d_law_345 rfl (lv_at hl 0 rfl) ?_
  refine lv_iload hx hb d_law_346 (lv_at hl 4 rfl) ?_
  refine lv_iconst (v := 1) hx hb d_law_348 (by decide) ?_
  refine lv_iadd hx hb d_law_349 ?_
  refine va_sld hx hb hX hbl hbA hS h1 d_law_350 ?_
  refine lv_aload_n hx hb d_law_351 rfl (lv_at hl 3 rfl) ?_
  refine scS (rest := []) (hh := [(0, 9, 12, 19), (0, 9, 15, 27)]) (wr := wM r2 k2 G B) (wf := fun u : SL => wL r k u.2.1 u.2.2 o kO u.1) ⟨hx, hb, hml, hown, hW⟩ (c_Lw_free l hl9 dC dI r k F A o kO f _ (xs (i + 1).toNatClampNeg) hI) (vx_cwSW 3 hW (gInS k_372 k_373 k_345 k_374) rfl rfl rfl (by decide +kernel) ⟨Nat.le_of_ble_eq_true rfl, Nat.le_of_ble_eq_true rfl⟩) hKL hPM hPL hD hS hA hXS rfl hl.1 rfl (Nat.le_of_ble_eq_true rfl) d_law_352 ⟨hcl, hsl⟩ (fun H locs hPM hPL hD hS => ?_)
  refine lv_istore (lv' := [(5, .int ((hL cm_Lw_free f (f_RS_free F A (xs (i + 1).toNatClampNeg))).1)), (0, .ref b), (1, .ref (r 0)), (2, .ref (r2 0)), (3, .ref o), (4, .int i)]) hx hb d_law_355 hl (by decide) rfl (fun ls hl => ?_)
  refine lv_aload_n hx hb d_law_357 rfl (lv_at hl 3 rfl) ?_
  refine lv_aload_n hx hb d_law_358 rfl (lv_at hl 1 rfl) ?_
  refine lv_iload hx hb d_law_359 (lv_at hl 5 rfl) ?_
  refine lv_iconst (v := 1) hx hb d_law_361 (by decide) ?_
  refine lv_iadd hx hb d_law_362 ?_
  refine va_sld hx hb hX hbl hbA hS h1 d_law_363 ?_
  refine mcV (rest := []) (wr := wL r k ((hL cm_Lw_free f (f_RS_free F A (xs (i + 1).toNatClampNeg))).2.2.1) ((hL cm_Lw_free f (f_RS_free F A (xs (i + 1).toNatClampNeg))).2.2.2) o kO ((hL cm_Lw_free f (f_RS_free F A (xs (i + 1).toNatClampNeg))).2.1)) (wf := fun u : SC => wM r2 k2 u.1 u.2) ⟨hx, hb, hml, hown, hW⟩ (c_Mo_free l dC dI r2 k2 G B _ (xs (i + 1).toNatClampNeg) hJ) (cwV 1 hW (gIn k_375 k_376 k_377 k_193 k_378) rfl rfl rfl (by decide +kernel) ⟨Nat.le_of_ble_eq_true rfl, Nat.le_of_ble_eq_true rfl⟩) hKM hPL hPM (dSwap hD) hS hA (va_recv hKM hPM (ci := 3) (q0 := 0) rfl rfl) rfl hl.1 rfl (Nat.le_of_ble_eq_true rfl) d_law_364 ⟨hcl, hsl⟩ (fun H locs hPL hPM hD hS => ?_)
  have hD := dSwap hD
  refine lv_istore (lv' := [(6, .int ((f_Mo_free G B (xs (i + 1).toNatClampNeg)).1)), (5, .int ((hL cm_Lw_free f (f_RS_free F A (xs (i + 1).toNatClampNeg))).1)), (0, .ref b), (1, .ref (r 0)), (2, .ref (r2 0)), (3, .ref o), (4, .int i)]) hx hb d_law_367 hl (by decide) rfl (fun ls hl => ?_)
  refine lv_goto (tgt := 889) hx hb d_law_369 (by decide) ?_
  exact next _ _ _ _ _ _ _ ls (by rw [hL_st]; exact sim_free rel (xs (i + 1).toNatClampNeg)) hPL hPM hD hS (lv_sub hl [2, 3, 4, 5, 6] rfl)
set_option maxHeartbeats 4000000 in
set_option maxRecDepth 100000 in
theorem case_5 {p : Program} {l : Launch} {e : Env} {s : State} {m : MethodId} {below : List Frame} {meth : Method} {c : Code} {dC : Nat → ClassId} {dI : Nat → Nat → Nat} {b L : Nat} {xs : Nat → Int32} {r : Nat → Nat} {k : Nat → ClassId} {o : Nat} {kO : ClassId} {r2 : Nat → Nat} {k2 : Nat → ClassId} (hl9 : l.stackTraces = false) (C0 : lw_At p s m meth c b L xs) (hXS : XS (fun q => s.heap.size ≤ q) s s.heap) (hKL : va_K (dC, dI) classes (tL k kO) s) (hKM : va_K (dC, dI) classes (tM k2) s) {F : Nat → Int32} {A : Nat → Nat → Int32} {f : Nat → Int64} {G : Nat → Int32} {B : Nat → Nat → Int32} {H : Heap} {locs : List Loc} {ls : Array Slot} {i : Int32} {cells slots : Nat} {Q : State → Prop} (hcl : cells + 1 ≤ 1078) (hsl : slots + 6 ≤ 9466) (h1 : vp_in (i + 1) L) (h2 : vp_in (i + 2) L) (h3 : vp_in (i + 3) L) (h4 : vp_in (i + 4) L) (h5 : vp_in (i + 5) L) (rel : LR F A G B) (hPL : va_P (dC, dI) classes (wL r k F A o kO f) H) (hPM : va_P (dC, dI) classes (wM r2 k2 G B) H) (hD : va_D (fun q => s.heap.size ≤ q) (wM r2 k2 G B ++ wL r k F A o kO f)) (hS : va_S (fun q => s.heap.size ≤ q) s.heap H locs) (hl : lv_has ls 7 [(0, .ref b), (1, .ref (r 0)), (2, .ref (r2 0)), (3, .ref o), (4, .int i)])
    (next : ∀ (F : Nat → Int32) (A : Nat → Nat → Int32) (f : Nat → Int64) (G : Nat → Int32) (B : Nat → Nat → Int32) (H : Heap) (locs : List Loc) (ls : Array Slot), LR F A G B → va_P (dC, dI) classes (wL r k F A o kO f) H → va_P (dC, dI) classes (wM r2 k2 G B) H → va_D (fun q => s.heap.size ≤ q) (wM r2 k2 G B ++ wL r k F A o kO f) → va_S (fun q => s.heap.size ≤ q) s.heap H locs → lv_has ls 7 [(0, .ref b), (1, .ref (r 0)), (2, .ref (r2 0)), (3, .ref o), (4, .int i)] → W p l e room_1 s m #[Value.ref b] below meth c H locs (cells + 1) (slots + 6) Q (F0 m 889 ls [])) : W p l e room_1 s m #[Value.ref b] below meth c H locs cells slots Q (F0 m 372 ls []) := by
  obtain ⟨hx, hb, hr, hml, hown, hts, hX, hbl, hlocks, hgv⟩ := C0
  have hW : ∀ w ∈ WALL, w.before #[Value.ref b] s = true := fun w h => hts w (WALL_good w h).1
  have hA : ∀ q : Nat, s.heap.size ≤ q → (fun q : Nat => s.heap.size ≤ q) q := fun _ h => h
  have hbA : ¬ (fun q : Nat => s.heap.size ≤ q) b := Nat.not_le.mpr hbl
  have hI := rel.ci
  have hJ := rel.si
  have h_at := rel.at
  refine lv_aload_n hx hb d_law_372 rfl (lv_at hl 1 rfl) ?_
  refine lv_aload_n hx hb d_law_373 rfl (lv_at hl 0 rfl) ?_
  refine lv_iload hx hb d_law_374 (lv_at hl 4 rfl) ?_
  refine lv_iconst (v := 1) hx hb d_law_376 (by decide) ?_
  refine lv_iadd hx hb d_law_377 ?_
  refine va_sld hx hb hX hbl hbA hS h1 d_law_378 ?_
  refine lv_aload_n hx hb d_law_379 rfl (lv_at hl 0 rfl) ?_
  refine lv_iload hx hb d_law_380 (lv_at hl 4 rfl) ?_
  refine lv_iconst (v := 2) hx hb d_law_382 (by decide) ?_
  refine lv_iadd hx hb d_law_383 ?_
  refine va_sld hx hb hX hbl hbA hS h2 d_law_384 ?_
  refine lv_aload_n hx hb d_law_385 rfl (lv_at hl 3 rfl) ?_
  refine scS (rest := []) (hh := [(0, 17, 20, 19)]) (wr := wM r2 k2 G B) (wf := fun u : SL => wL r k u.2.1 u.2.2 o kO u.1) ⟨hx, hb, hml, hown, hW⟩ (c_Lw_meets l hl9 dC dI r k F A o kO f _ (xs (i + 1).toNatClampNeg) (xs (i + 2).toNatClampNeg) hI) (vx_cwSW 4 hW (gInS k_379 k_380 k_345 k_381) rfl rfl rfl (by decide +kernel) ⟨Nat.le_of_ble_eq_true rfl, Nat.le_of_ble_eq_true rfl⟩) hKL hPM hPL hD hS hA hXS rfl hl.1 rfl (Nat.le_of_ble_eq_true rfl) d_law_386 ⟨hcl, hsl⟩ (fun H locs hPM hPL hD hS => ?_)
  refine lv_istore (lv' := [(5, .int ((hB cm_Lw_meets f (f_RS_meets F A (xs (i + 1).toNatClampNeg) (xs (i + 2).toNatClampNeg))).1)), (0, .ref b), (1, .ref (r 0)), (2, .ref (r2 0)), (3, .ref o), (4, .int i)]) hx hb d_law_389 hl (by decide) rfl (fun ls hl => ?_)
  refine lv_aload_n hx hb d_law_391 rfl (lv_at hl 3 rfl) ?_
  refine lv_aload_n hx hb d_law_392 rfl (lv_at hl 1 rfl) ?_
  refine lv_iload hx hb d_law_393 (lv_at hl 5 rfl) ?_
  refine lv_iconst (v := 1) hx hb d_law_395 (by decide) ?_
  refine lv_iadd hx hb d_law_396 ?_
  refine va_sld hx hb hX hbl hbA hS h1 d_law_397 ?_
  refine lv_aload_n hx hb d_law_398 rfl (lv_at hl 1 rfl) ?_
  refine lv_iload hx hb d_law_399 (lv_at hl 5 rfl) ?_
  refine lv_iconst (v := 2) hx hb d_law_401 (by decide) ?_
  refine lv_iadd hx hb d_law_402 ?_
  refine va_sld hx hb hX hbl hbA hS h2 d_law_403 ?_
  refine mcV (rest := []) (wr := wL r k ((hB cm_Lw_meets f (f_RS_meets F A (xs (i + 1).toNatClampNeg) (xs (i + 2).toNatClampNeg))).2.2.1) ((hB cm_Lw_meets f (f_RS_meets F A (xs (i + 1).toNatClampNeg) (xs (i + 2).toNatClampNeg))).2.2.2) o kO ((hB cm_Lw_meets f (f_RS_meets F A (xs (i + 1).toNatClampNeg) (xs (i + 2).toNatClampNeg))).2.1)) (wf := fun u : SC => wM r2 k2 u.1 u.2) ⟨hx, hb, hml, hown, hW⟩ (c_Mo_meets l dC dI r2 k2 G B _ (xs (i + 1).toNatClampNeg) (xs (i + 2).toNatClampNeg) hJ) (cwV 2 hW (gIn k_382 k_383 k_384 k_193 k_385) rfl rfl rfl (by decide +kernel) ⟨Nat.le_of_ble_eq_true rfl, Nat.le_of_ble_eq_true rfl⟩) hKM hPL hPM (dSwap hD) hS hA (va_recv hKM hPM (ci := 3) (q0 := 0) rfl rfl) rfl hl.1 rfl (Nat.le_of_ble_eq_true rfl) d_law_404 ⟨hcl, hsl⟩ (fun H locs hPL hPM hD hS => ?_)
  have hD := dSwap hD
  refine lv_istore (lv' := [(6, .int ((f_Mo_meets G B (xs (i + 1).toNatClampNeg) (xs (i + 2).toNatClampNeg)).1)), (5, .int ((hB cm_Lw_meets f (f_RS_meets F A (xs (i + 1).toNatClampNeg) (xs (i + 2).toNatClampNeg))).1)), (0, .ref b), (1, .ref (r 0)), (2, .ref (r2 0)), (3, .ref o), (4, .int i)]) hx hb d_law_407 hl (by decide) rfl (fun ls hl => ?_)
  refine lv_goto (tgt := 889) hx hb d_law_409 (by decide) ?_
  exact next _ _ _ _ _ _ _ ls (by rw [hB_st]; exact sim_meets rel (xs (i + 1).toNatClampNeg) (xs (i + 2).toNatClampNeg)) hPL hPM hD hS (lv_sub hl [2, 3, 4, 5, 6] rfl)
