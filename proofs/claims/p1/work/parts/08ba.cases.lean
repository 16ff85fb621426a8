set_option maxHeartbeats 4000000 in
set_option maxRecDepth 100000 in
theorem case_0 {p : Program} {l : Launch} {e : Env} {s : State} {m : MethodId} {below : List Frame} {meth : Method} {c : Code} {dC : Nat → ClassId} {dI : Nat → Nat → Nat} {b L : Nat} {xs : Nat → Int32} {r : Nat → Nat} {k : Nat → ClassId} {o : Nat} {kO : ClassId} {r2 : Nat → Nat} {k2 : Nat → ClassId} (hl9 : l.stackTraces = false) (C0 : lw_At p s m meth c b L xs) (hXS : XS (fun q => s.heap.size ≤ q) s s.heap) (hKL : va_K (dC, dI) classes (tL k kO) s) (hKM : va_K (dC, dI) classes (tM k2) s) {F : Nat → Int32} {A : Nat → Nat → Int32} {f : Nat → Int64} {G : Nat → Int32} {B : Nat → Nat → Int32} {H : Heap} {locs : List Loc} {ls : Array Slot} {i : Int32} {cells slots : Nat} {Q : State → Prop} (hcl : cells + 1 ≤ 56) (hsl : slots + 6 ≤ 1290) (h1 : vp_in (i + 1) L) (h2 : vp_in (i + 2) L) (h3 : vp_in (i + 3) L) (h4 : vp_in (i + 4) L) (h5 : vp_in (i + 5) L) (rel : LR F A G B) (hPL : va_P (dC, dI) classes (wL r k F A o kO f) H) (hPM : va_P (dC, dI) classes (wM r2 k2 G B) H) (hD : va_D (fun q => s.heap.size ≤ q) (wM r2 k2 G B ++ wL r k F A o kO f)) (hS : va_S (fun q => s.heap.size ≤ q) s.heap H locs) (hl : lv_has ls 7 [(0, .ref b), (1, .ref (r 0)), (2, .ref (r2 0)), (3, .ref o), (4, .int i)])
    (next : ∀ (F : Nat → Int32) (A : Nat → Nat → Int32) (f : Nat → Int64) (G : Nat → Int32) (B : Nat → Nat → Int32) (H : Heap) (locs : List Loc) (ls : Array Slot), LR F A G B → va_P (dC, dI) classes (wL r k F A o kO f) H → va_P (dC, dI) classes (wM r2 k2 G B) H → va_D (fun q => s.heap.size ≤ q) (wM r2 k2 G B ++ wL r k F A o kO f) → va_S (fun q => s.heap.size ≤ q) s.heap H locs → lv_has ls 7 [(0, .ref b), (1, .ref (r 0)), (2, .ref (r2 0)), (3, .ref o), (4, .int i)] → W p l e room_1 s m #[Value.ref b] below meth c H locs (cells + 1) (slots + 6) Q (F0 m 1351 ls [])) : W p l e room_1 s m #[Value.ref b] below meth c H locs cells slots Q (F0 m 128 ls []) := by
  obtain ⟨hx, hb, hr, hml, hown, hts, hX, hbl, hlocks, hgv⟩ := C0
  have hW : ∀ w ∈ WALL, w.before #[Value.ref b] s = true := fun w h => hts w (WALL_good w h).1
  have hA : ∀ q : Nat, s.heap.size ≤ q → (fun q : Nat => s.heap.size ≤ q) q := fun _ h => h
  have hbA : ¬ (fun q : Nat => s.heap.size ≤ q) b := Nat.not_le.mpr hbl
  have hI := rel.ci
  have hJ := rel.si
  have h_at := rel.at
  refine lv_aload_n hx hb d_law_128 rfl (lv_at hl 1 rfl) ?_
  refine lv_aload_n hx hb d_law_129 rfl (lv_at hl 3 rfl) ?_
  refine scS (rest := []) (hh := [(0, 8, 11, 13)]) (wr := wM r2 k2 G B) (wf := fun u : SL => wL r k u.2.1 u.2.2 o kO u.1) ⟨hx, hb, hml, hown, hW⟩ (c_Lw_piece l hl9 dC dI r k F A o kO f _  hI) (vx_cwSW 2 hW (gInS k_343 k_344 k_345 k_346) rfl rfl rfl (by decide +kernel) ⟨Nat.le_of_ble_eq_true rfl, Nat.le_of_ble_eq_true rfl⟩) hKL hPM hPL hD hS hA hXS rfl hl.1 rfl (Nat.le_of_ble_eq_true rfl) d_law_130 ⟨hcl, hsl⟩ (fun H locs hPM hPL hD hS => ?_)
  refine lv_istore (lv' := [(5, .int ((hL cm_Lw_piece f (f_RS_piece F A)).1)), (0, .ref b), (1, .ref (r 0)), (2, .ref (r2 0)), (3, .ref o), (4, .int i)]) hx hb d_law_133 hl (by decide) rfl (fun ls hl => ?_)
  refine lv_aload_n hx hb d_law_135 rfl (lv_at hl 3 rfl) ?_
  refine mcV (rest := []) (wr := wL r k ((hL cm_Lw_piece f (f_RS_piece F A)).2.2.1) ((hL cm_Lw_piece f (f_RS_piece F A)).2.2.2) o kO ((hL cm_Lw_piece f (f_RS_piece F A)).2.1)) (wf := fun u : SC => wM r2 k2 u.1 u.2) ⟨hx, hb, hml, hown, hW⟩ (c_Mo_piece l dC dI r2 k2 G B _  hJ) (cwV 0 hW (gIn k_347 k_348 k_349 k_193 k_350) rfl rfl rfl (by decide +kernel) ⟨Nat.le_of_ble_eq_true rfl, Nat.le_of_ble_eq_true rfl⟩) hKM hPL hPM (dSwap hD) hS hA (va_recv hKM hPM (ci := 3) (q0 := 0) rfl rfl) rfl hl.1 rfl (Nat.le_of_ble_eq_true rfl) d_law_136 ⟨hcl, hsl⟩ (fun H locs hPL hPM hD hS => ?_)
  have hD := dSwap hD
  refine lv_istore (lv' := [(6, .int ((f_Mo_piece G B).1)), (5, .int ((hL cm_Lw_piece f (f_RS_piece F A)).1)), (0, .ref b), (1, .ref (r 0)), (2, .ref (r2 0)), (3, .ref o), (4, .int i)]) hx hb d_law_139 hl (by decide) rfl (fun ls hl => ?_)
  refine lv_aload_n hx hb d_law_141 rfl (lv_at hl 4 rfl) ?_
  refine rdV (rest := []) ⟨hx, hb, hml, hown, hW⟩ (c_Mo_thrown l dC dI r2 k2 ((f_Mo_piece G B).2.1) ((f_Mo_piece G B).2.2)) (cwV 0 hW (gIn k_351 k_352 k_353 k_193 k_354) rfl rfl rfl (by decide +kernel) ⟨Nat.le_of_ble_eq_true rfl, Nat.le_of_ble_eq_true rfl⟩) hKM hPM (va_recv hKM hPM (ci := 3) (q0 := 0) rfl rfl) rfl hl.1 rfl (Nat.le_of_ble_eq_true rfl) d_law_142 ⟨hcl, hsl⟩ ?_
  refine lv_iload hx hb d_law_145 (lv_at hl 1 rfl) ?_
  refine lv_icmp_eq (tgt := 152) hx hb d_law_147 (by decide) (fun _ => ?_) (fun h9 => absurd (ans_piece rel  f).1 h9)
  refine lv_iload hx hb d_law_152 (lv_at hl 1 rfl) ?_
  refine lv_if_ne (tgt := 169) hx hb d_law_154 (by decide) (fun e_1 => ?_) (fun e_1 => ?_)
  · refine lv_goto (tgt := 1351) hx hb d_law_169 (by decide) ?_
    exact next _ _ _ _ _ _ _ ls (by rw [hL_st]; exact sim_piece rel ) hPL hPM hD hS (lv_sub hl [2, 3, 4, 5, 6] rfl)
  · refine lv_aload_n hx hb d_law_157 rfl (lv_at hl 5 rfl) ?_
    refine lv_iconst (v := 0) hx hb d_law_158 (by decide) ?_
    refine va_lald hx hb hKL hPL 0 0 rfl rfl in01 d_law_159 ?_
    refine lv_iload hx hb d_law_160 (lv_at hl 0 rfl) ?_
    refine lv_i2l (v := ((f_Mo_piece G B).1).toInt64) hx hb d_law_162 rfl ?_
    refine W.lcmp hx hb d_law_163 ?_
    refine lv_if_eq (tgt := 169) hx hb d_law_164 (by decide) (fun _ => ?_) (fun h9 => absurd (lgc_self ((ans_piece rel  f).2 e_1)) h9)
    refine lv_goto (tgt := 1351) hx hb d_law_169 (by decide) ?_
    exact next _ _ _ _ _ _ _ ls (by rw [hL_st]; exact sim_piece rel ) hPL hPM hD hS (lv_sub hl [2, 3, 4, 5, 6] rfl)
set_option maxHeartbeats 4000000 in
set_option maxRecDepth 100000 in
theorem case_1 {p : Program} {l : Launch} {e : Env} {s : State} {m : MethodId} {below : List Frame} {meth : Method} {c : Code} {dC : Nat → ClassId} {dI : Nat → Nat → Nat} {b L : Nat} {xs : Nat → Int32} {r : Nat → Nat} {k : Nat → ClassId} {o : Nat} {kO : ClassId} {r2 : Nat → Nat} {k2 : Nat → ClassId} (hl9 : l.stackTraces = false) (C0 : lw_At p s m meth c b L xs) (hXS : XS (fun q => s.heap.size ≤ q) s s.heap) (hKL : va_K (dC, dI) classes (tL k kO) s) (hKM : va_K (dC, dI) classes (tM k2) s) {F : Nat → Int32} {A : Nat → Nat → Int32} {f : Nat → Int64} {G : Nat → Int32} {B : Nat → Nat → Int32} {H : Heap} {locs : List Loc} {ls : Array Slot} {i : Int32} {cells slots : Nat} {Q : State → Prop} (hcl : cells + 1 ≤ 56) (hsl : slots + 6 ≤ 1290) (h1 : vp_in (i + 1) L) (h2 : vp_in (i + 2) L) (h3 : vp_in (i + 3) L) (h4 : vp_in (i + 4) L) (h5 : vp_in (i + 5) L) (rel : LR F A G B) (hPL : va_P (dC, dI) classes (wL r k F A o kO f) H) (hPM : va_P (dC, dI) classes (wM r2 k2 G B) H) (hD : va_D (fun q => s.heap.size ≤ q) (wM r2 k2 G B ++ wL r k F A o kO f)) (hS : va_S (fun q => s.heap.size ≤ q) s.heap H locs) (hl : lv_has ls 7 [(0, .ref b), (1, .ref (r 0)), (2, .ref (r2 0)), (3, .ref o), (4, .int i)])
    (next : ∀ (F : Nat → Int32) (A : Nat → Nat → Int32) (f : Nat → Int64) (G : Nat → Int32) (B : Nat → Nat → Int32) (H : Heap) (locs : List Loc) (ls : Array Slot), LR F A G B → va_P (dC, dI) classes (wL r k F A o kO f) H → va_P (dC, dI) classes (wM r2 k2 G B) H → va_D (fun q => s.heap.size ≤ q) (wM r2 k2 G B ++ wL r k F A o kO f) → va_S (fun q => s.heap.size ≤ q) s.heap H locs → lv_has ls 7 [(0, .ref b), (1, .ref (r 0)), (2, .ref (r2 0)), (3, .ref o), (4, .int i)] → W p l e room_1 s m #[Value.ref b] below meth c H locs (cells + 1) (slots + 6) Q (F0 m 1351 ls [])) : W p l e room_1 s m #[Value.ref b] below meth c H locs cells slots Q (F0 m 172 ls []) := by
  obtain ⟨hx, hb, hr, hml, hown, hts, hX, hbl, hlocks, hgv⟩ := C0
  have hW : ∀ w ∈ WALL, w.before #[Value.ref b] s = true := fun w h => hts w (WALL_good w h).1
  have hA : ∀ q : Nat, s.heap.size ≤ q → (fun q : Nat => s.heap.size ≤ q) q := fun _ h => h
  have hbA : ¬ (fun q : Nat => s.heap.size ≤ q) b := Nat.not_le.mpr hbl
  have hI := rel.ci
  have hJ := rel.si
  have h_at := rel.at
  refine lv_aload_n hx hb d_law_172 rfl (lv_at hl 1 rfl) ?_
  refine lv_aload_n hx hb d_law_173 rfl (lv_at hl 0 rfl) ?_
  refine lv_iload hx hb d_law_174 (lv_at hl 4 rfl) ?_
  refine lv_iconst (v := 1) hx hb d_law_176 (by decide) ?_
  refine lv_iadd hx hb d_law_177 ?_
  refine va_sld hx hb hX hbl hbA hS h1 d_law_178 ?_
  refine lv_aload_n hx hb d_law_179 rfl (lv_at hl 0 rfl) ?_
  refine lv_iload hx hb d_law_180 (lv_at hl 4 rfl) ?_
  refine lv_iconst (v := 2) hx hb d_law_182 (by decide) ?_
  refine lv_iadd hx hb d_law_183 ?_
  refine va_sld hx hb hX hbl hbA hS h2 d_law_184 ?_
  refine lv_aload_n hx hb d_law_185 rfl (lv_at hl 0 rfl) ?_
  refine lv_iload hx hb d_law_186 (lv_at hl 4 rfl) ?_
  refine lv_iconst (v := 3) hx hb d_law_188 (by decide) ?_
  refine lv_iadd hx hb d_law_189 ?_
  refine va_sld hx hb hX hbl hbA hS h3 d_law_190 ?_
  refine lv_if_eq (tgt := 198) hx hb d_law_191 (by decide) (fun e_2 => ?_) (fun e_2 => ?_)
  · refine lv_iconst (v := 0) hx hb d_law_198 (by decide) ?_
    refine lv_aload_n hx hb d_law_199 rfl (lv_at hl 3 rfl) ?_
    refine scS (rest := []) (hh := [(0, 12, 15, 19), (0, 12, 19, 21)]) (wr := wM r2 k2 G B) (wf := fun u : SL => wL r k u.2.1 u.2.2 o kO u.1) ⟨hx, hb, hml, hown, hW⟩ (c_Lw_link l hl9 dC dI r k F A o kO f _ (xs (i + 1).toNatClampNeg) (xs (i + 2).toNatClampNeg) 0 hI) (vx_cwSW 5 hW (gInS k_355 k_356 k_345 k_357) rfl rfl rfl (by decide +kernel) ⟨Nat.le_of_ble_eq_true rfl, Nat.le_of_ble_eq_true rfl⟩) hKL hPM hPL hD hS hA hXS rfl hl.1 rfl (Nat.le_of_ble_eq_true rfl) d_law_200 ⟨hcl, hsl⟩ (fun H locs hPM hPL hD hS => ?_)
    refine lv_istore (lv' := [(5, .int ((hL cm_Lw_link f (f_RS_link F A (xs (i + 1).toNatClampNeg) (xs (i + 2).toNatClampNeg) 0)).1)), (0, .ref b), (1, .ref (r 0)), (2, .ref (r2 0)), (3, .ref o), (4, .int i)]) hx hb d_law_203 hl (by decide) rfl (fun ls hl => ?_)
    refine lv_aload_n hx hb d_law_205 rfl (lv_at hl 3 rfl) ?_
    refine lv_aload_n hx hb d_law_206 rfl (lv_at hl 1 rfl) ?_
    refine lv_iload hx hb d_law_207 (lv_at hl 5 rfl) ?_
    refine lv_iconst (v := 1) hx hb d_law_209 (by decide) ?_
    refine lv_iadd hx hb d_law_210 ?_
    refine va_sld hx hb hX hbl hbA hS h1 d_law_211 ?_
    refine lv_aload_n hx hb d_law_212 rfl (lv_at hl 1 rfl) ?_
    refine lv_iload hx hb d_law_213 (lv_at hl 5 rfl) ?_
    refine lv_iconst (v := 2) hx hb d_law_215 (by decide) ?_
    refine lv_iadd hx hb d_law_216 ?_
    refine va_sld hx hb hX hbl hbA hS h2 d_law_217 ?_
    refine lv_aload_n hx hb d_law_218 rfl (lv_at hl 1 rfl) ?_
    refine lv_iload hx hb d_law_219 (lv_at hl 5 rfl) ?_
    refine lv_iconst (v := 3) hx hb d_law_221 (by decide) ?_
    refine lv_iadd hx hb d_law_222 ?_
    refine va_sld hx hb hX hbl hbA hS h3 d_law_223 ?_
    refine lv_if_eq (tgt := 231) hx hb d_law_224 (by decide) (fun _ => ?_) (fun h9 => absurd e_2 h9)
    refine lv_iconst (v := 0) hx hb d_law_231 (by decide) ?_
    refine mcV (rest := []) (wr := wL r k ((hL cm_Lw_link f (f_RS_link F A (xs (i + 1).toNatClampNeg) (xs (i + 2).toNatClampNeg) 0)).2.2.1) ((hL cm_Lw_link f (f_RS_link F A (xs (i + 1).toNatClampNeg) (xs (i + 2).toNatClampNeg) 0)).2.2.2) o kO ((hL cm_Lw_link f (f_RS_link F A (xs (i + 1).toNatClampNeg) (xs (i + 2).toNatClampNeg) 0)).2.1)) (wf := fun u : SC => wM r2 k2 u.1 u.2) ⟨hx, hb, hml, hown, hW⟩ (c_Mo_link l dC dI r2 k2 G B _ (xs (i + 1).toNatClampNeg) (xs (i + 2).toNatClampNeg) 0 hJ) (cwV 3 hW (gIn k_358 k_359 k_360 k_193 k_361) rfl rfl rfl (by decide +kernel) ⟨Nat.le_of_ble_eq_true rfl, Nat.le_of_ble_eq_true rfl⟩) hKM hPL hPM (dSwap hD) hS hA (va_recv hKM hPM (ci := 3) (q0 := 0) rfl rfl) rfl hl.1 rfl (Nat.le_of_ble_eq_true rfl) d_law_232 ⟨hcl, hsl⟩ (fun H locs hPL hPM hD hS => ?_)
    have hD := dSwap hD
    refine lv_istore (lv' := [(6, .int ((f_Mo_link G B (xs (i + 1).toNatClampNeg) (xs (i + 2).toNatClampNeg) 0).1)), (5, .int ((hL cm_Lw_link f (f_RS_link F A (xs (i + 1).toNatClampNeg) (xs (i + 2).toNatClampNeg) 0)).1)), (0, .ref b), (1, .ref (r 0)), (2, .ref (r2 0)), (3, .ref o), (4, .int i)]) hx hb d_law_235 hl (by decide) rfl (fun ls hl => ?_)
    refine lv_aload_n hx hb d_law_237 rfl (lv_at hl 4 rfl) ?_
    refine rdV (rest := []) ⟨hx, hb, hml, hown, hW⟩ (c_Mo_thrown l dC dI r2 k2 ((f_Mo_link G B (xs (i + 1).toNatClampNeg) (xs (i + 2).toNatClampNeg) 0).2.1) ((f_Mo_link G B (xs (i + 1).toNatClampNeg) (xs (i + 2).toNatClampNeg) 0).2.2)) (cwV 0 hW (gIn k_351 k_352 k_353 k_193 k_354) rfl rfl rfl (by decide +kernel) ⟨Nat.le_of_ble_eq_true rfl, Nat.le_of_ble_eq_true rfl⟩) hKM hPM (va_recv hKM hPM (ci := 3) (q0 := 0) rfl rfl) rfl hl.1 rfl (Nat.le_of_ble_eq_true rfl) d_law_238 ⟨hcl, hsl⟩ ?_
    refine lv_iload hx hb d_law_241 (lv_at hl 1 rfl) ?_
    refine lv_icmp_eq (tgt := 248) hx hb d_law_243 (by decide) (fun _ => ?_) (fun h9 => absurd (ans_link rel (xs (i + 1).toNatClampNeg) (xs (i + 2).toNatClampNeg) 0 (by decide) f).1 h9)
    refine lv_iload hx hb d_law_248 (lv_at hl 1 rfl) ?_
    refine lv_if_ne (tgt := 265) hx hb d_law_250 (by decide) (fun e_3 => ?_) (fun e_3 => ?_)
    · refine lv_goto (tgt := 1351) hx hb d_law_265 (by decide) ?_
      exact next _ _ _ _ _ _ _ ls (by rw [hL_st]; exact sim_link rel (xs (i + 1).toNatClampNeg) (xs (i + 2).toNatClampNeg) 0 (by decide)) hPL hPM hD hS (lv_sub hl [2, 3, 4, 5, 6] rfl)
    · refine lv_aload_n hx hb d_law_253 rfl (lv_at hl 5 rfl) ?_
      refine lv_iconst (v := 0) hx hb d_law_254 (by decide) ?_
      refine va_lald hx hb hKL hPL 0 0 rfl rfl in01 d_law_255 ?_
      refine lv_iload hx hb d_law_256 (lv_at hl 0 rfl) ?_
      refine lv_i2l (v := ((f_Mo_link G B (xs (i + 1).toNatClampNeg) (xs (i + 2).toNatClampNeg) 0).1).toInt64) hx hb d_law_258 rfl ?_
      refine W.lcmp hx hb d_law_259 ?_
      refine lv_if_eq (tgt := 265) hx hb d_law_260 (by decide) (fun _ => ?_) (fun h9 => absurd (lgc_self ((ans_link rel (xs (i + 1).toNatClampNeg) (xs (i + 2).toNatClampNeg) 0 (by decide) f).2 e_3)) h9)
      refine lv_goto (tgt := 1351) hx hb d_law_265 (by decide) ?_
      exact next _ _ _ _ _ _ _ ls (by rw [hL_st]; exact sim_link rel (xs (i + 1).toNatClampNeg) (xs (i + 2).toNatClampNeg) 0 (by decide)) hPL hPM hD hS (lv_sub hl [2, 3, 4, 5, 6] rfl)
  · refine lv_iconst (v := 1) hx hb d_law_194 (by decide) ?_
    refine lv_goto (tgt := 199) hx hb d_law_195 (by decide) ?_
    refine lv_aload_n hx hb d_law_199 rfl (lv_at hl 3 rfl) ?_
    refine scS (rest := []) (hh := [(0, 12, 15, 19), (0, 12, 19, 21)]) (wr := wM r2 k2 G B) (wf := fun u : SL => wL r k u.2.1 u.2.2 o kO u.1) ⟨hx, hb, hml, hown, hW⟩ (c_Lw_link l hl9 dC dI r k F A o kO f _ (xs (i + 1).toNatClampNeg) (xs (i + 2).toNatClampNeg) 1 hI) (vx_cwSW 5 hW (gInS k_355 k_356 k_345 k_357) rfl rfl rfl (by decide +kernel) ⟨Nat.le_of_ble_eq_true rfl, Nat.le_of_ble_eq_true rfl⟩) hKL hPM hPL hD hS hA hXS rfl hl.1 rfl (Nat.le_of_ble_eq_true rfl) d_law_200 ⟨hcl, hsl⟩ (fun H locs hPM hPL hD hS => ?_)
    refine lv_istore (lv' := [(5, .int ((hL cm_Lw_link f (f_RS_link F A (xs (i + 1).toNatClampNeg) (xs (i + 2).toNatClampNeg) 1)).1)), (0, .ref b), (1, .ref (r 0)), (2, .ref (r2 0)), (3, .ref o), (4, .int i)]) hx hb d_law_203 hl (by decide) rfl (fun ls hl => ?_)
    refine lv_aload_n hx hb d_law_205 rfl (lv_at hl 3 rfl) ?_
    refine lv_aload_n hx hb d_law_206 rfl (lv_at hl 1 rfl) ?_
    refine lv_iload hx hb d_law_207 (lv_at hl 5 rfl) ?_
    refine lv_iconst (v := 1) hx hb d_law_209 (by decide) ?_
    refine lv_iadd hx hb d_law_210 ?_
    refine va_sld hx hb hX hbl hbA hS h1 d_law_211 ?_
    refine lv_aload_n hx hb d_law_212 rfl (lv_at hl 1 rfl) ?_
    refine lv_iload hx hb d_law_213 (lv_at hl 5 rfl) ?_
    refine lv_iconst (v := 2) hx hb d_law_215 (by decide) ?_
    refine lv_iadd hx hb d_law_216 ?_
    refine va_sld hx hb hX hbl hbA hS h2 d_law_217 ?_
    refine lv_aload_n hx hb d_law_218 rfl (lv_at hl 1 rfl) ?_
    refine lv_iload hx hb d_law_219 (lv_at hl 5 rfl) ?_
    refine lv_iconst (v := 3) hx hb d_law_221 (by decide) ?_
    refine lv_iadd hx hb d_law_222 ?_
    refine va_sld hx hb hX hbl hbA hS h3 d_law_223 ?_
    refine lv_if_eq (tgt := 231) hx hb d_law_224 (by decide) (fun h9 => absurd h9 e_2) (fun _ => ?_)
    refine lv_iconst (v := 1) hx hb d_law_227 (by decide) ?_
    refine lv_goto (tgt := 232) hx hb d_law_228 (by decide) ?_
    refine mcV (rest := []) (wr := wL r k ((hL cm_Lw_link f (f_RS_link F A (xs (i + 1).toNatClampNeg) (xs (i + 2).toNatClampNeg) 1)).2.2.1) ((hL cm_Lw_link f (f_RS_link F A (xs (i + 1).toNatClampNeg) (xs (i + 2).toNatClampNeg) 1)).2.2.2) o kO ((hL cm_Lw_link f (f_RS_link F A (xs (i + 1).toNatClampNeg) (xs (i + 2).toNatClampNeg) 1)).2.1)) (wf := fun u : SC => wM r2 k2 u.1 u.2) ⟨hx, hb, hml, hown, hW⟩ (c_Mo_link l dC dI r2 k2 G B _ (xs (i + 1).toNatClampNeg) (xs (i + 2).toNatClampNeg) 1 hJ) (cwV 3 hW (gIn k_358 k_359 k_360 k_193 k_361) rfl rfl rfl (by decide +kernel) ⟨Nat.le_of_ble_eq_true rfl, Nat.le_of_ble_eq_true rfl⟩) hKM hPL hPM (dSwap hD) hS hA (va_recv hKM hPM (ci := 3) (q0 := 0) rfl rfl) rfl hl.1 rfl (Nat.le_of_ble_eq_true rfl) d_law_232 ⟨hcl, hsl⟩ (fun H locs hPL hPM hD hS => ?_)
    have hD := dSwap hD
    refine lv_istore (lv' := [(6, .int ((f_Mo_link G B (xs (i + 1).toNatClampNeg) (xs (i + 2).toNatClampNeg) 1).1)), (5, .int ((hL cm_Lw_link f (f_RS_link F A (xs (i + 1).toNatClampNeg) (xs (i + 2).toNatClampNeg) 1)).1)), (0, .ref b), (1, .ref (r 0)), (2, .ref (r2 0)), (3, .ref o), (4, .int i)]) hx hb d_law_235 hl (by decide) rfl (fun ls hl => ?_)
    refine lv_aload_n hx hb d_law_237 rfl (lv_at hl 4 rfl) ?_
    refine rdV (rest := []) ⟨hx, hb, hml, hown, hW⟩ (c_Mo_thrown l dC dI r2 k2 ((f_Mo_link G B (xs (i + 1).toNatClampNeg) (xs (i + 2).toNatClampNeg) 1).2.1) ((f_Mo_link G B (xs (i + 1).toNatClampNeg) (xs (i + 2).toNatClampNeg) 1).2.2)) (cwV 0 hW (gIn k_351 k_352 k_353 k_193 k_354) rfl rfl rfl (by decide +kernel) ⟨Nat.le_of_ble_eq_true rfl, Nat.le_of_ble_eq_true rfl⟩) hKM hPM (va_recv hKM hPM (ci := 3) (q0 := 0) rfl rfl) rfl hl.1 rfl (Nat.le_of_ble_eq_true rfl) d_law_238 ⟨hcl, hsl⟩ ?_
    refine lv_iload hx hb d_law_241 (lv_at hl 1 rfl) ?_
    refine lv_icmp_eq (tgt := 248) hx hb d_law_243 (by decide) (fun _ => ?_) (fun h9 => absurd (ans_link rel (xs (i + 1).toNatClampNeg) (xs (i + 2).toNatClampNeg) 1 (by decide) f).1 h9)
    refine lv_iload hx hb d_law_248 (lv_at hl 1 rfl) ?_
    refine lv_if_ne (tgt := 265) hx hb d_law_250 (by decide) (fun e_4 => ?_) (fun e_4 => ?_)
    · refine lv_goto (tgt := 1351) hx hb d_law_265 (by decide) ?_
      exact next _ _ _ _ _ _ _ ls (by rw [hL_st]; exact sim_link rel (xs (i + 1).toNatClampNeg) (xs (i + 2).toNatClampNeg) 1 (by decide)) hPL hPM hD hS (lv_sub hl [2, 3, 4, 5, 6] rfl)
    · refine lv_aload_n hx hb d_law_253 rfl (lv_at hl 5 rfl) ?_
      refine lv_iconst (v := 0) hx hb d_law_254 (by decide) ?_
      refine va_lald hx hb hKL hPL 0 0 rfl rfl in01 d_law_255 ?_
      refine lv_iload hx hb d_law_256 (lv_at hl 0 rfl) ?_
      refine lv_i2l (v := ((f_Mo_link G B (xs (i + 1).toNatClampNeg) (xs (i + 2).toNatClampNeg) 1).1).toInt64) hx hb d_law_258 rfl ?_
      refine W.lcmp hx hb d_law_259 ?_
      refine lv_if_eq (tgt := 265) hx hb d_law_260 (by decide) (fun _ => ?_) (fun h9 => absurd (lgc_self ((ans_link rel (xs (i + 1).toNatClampNeg) (xs (i + 2).toNatClampNeg) 1 (by decide) f).2 e_4)) h9)
      refine lv_goto (tgt := 1351) hx hb d_law_265 (by decide) ?_
      exact next _ _ _ _ _ _ _ ls (by rw [hL_st]; exact sim_link rel (xs (i + 1).toNatClampNeg) (xs (i + 2).toNatClampNeg) 1 (by decide)) hPL hPM hD hS (lv_sub hl [2, 3, 4, 5, 6] rfl)
set_option maxHeartbeats 4000000 in
set_option maxRecDepth 100000 in
theorem case_2 {p : Program} {l : Launch} {e : Env} {s : State} {m : MethodId} {below : List Frame} {meth : Method} {c : Code} {dC : Nat → ClassId} {dI : Nat → Nat → Nat} {b L : Nat} {xs : Nat → Int32} {r : Nat → Nat} {k : Nat → ClassId} {o : Nat} {kO : ClassId} {r2 : Nat → Nat} {k2 : Nat → ClassId} (hl9 : l.stackTraces = false) (C0 : lw_At p s m meth c b L xs) (hXS : XS (fun q => s.heap.size ≤ q) s s.heap) (hKL : va_K (dC, dI) classes (tL k kO) s) (hKM : va_K (dC, dI) classes (tM k2) s) {F : Nat → Int32} {A : Nat → Nat → Int32} {f : Nat → Int64} {G : Nat → Int32} {B : Nat → Nat → Int32} {H : Heap} {locs : List Loc} {ls : Array Slot} {i : Int32} {cells slots : Nat} {Q : State → Prop} (hcl : cells + 1 ≤ 56) (hsl : slots + 6 ≤ 1290) (h1 : vp_in (i + 1) L) (h2 : vp_in (i + 2) L) (h3 : vp_in (i + 3) L) (h4 : vp_in (i + 4) L) (h5 : vp_in (i + 5) L) (rel : LR F A G B) (hPL : va_P (dC, dI) classes (wL r k F A o kO f) H) (hPM : va_P (dC, dI) classes (wM r2 k2 G B) H) (hD : va_D (fun q => s.heap.size ≤ q) (wM r2 k2 G B ++ wL r k F A o kO f)) (hS : va_S (fun q => s.heap.size ≤ q) s.heap H locs) (hl : lv_has ls 7 [(0, .ref b), (1, .ref (r 0)), (2, .ref (r2 0)), (3, .ref o), (4, .int i)])
    (next : ∀ (F : Nat → Int32) (A : Nat → Nat → Int32) (f : Nat → Int64) (G : Nat → Int32) (B : Nat → Nat → Int32) (H : Heap) (locs : List Loc) (ls : Array Slot), LR F A G B → va_P (dC, dI) classes (wL r k F A o kO f) H → va_P (dC, dI) classes (wM r2 k2 G B) H → va_D (fun q => s.heap.size ≤ q) (wM r2 k2 G B ++ wL r k F A o kO f) → va_S (fun q => s.heap.size ≤ q) s.heap H locs → lv_has ls 7 [(0, .ref b), (1, .ref (r 0)), (2, .ref (r2 0)), (3, .ref o), (4, .int i)] → W p l e room_1 s m #[Value.ref b] below meth c H locs (cells + 1) (slots + 6) Q (F0 m 1351 ls [])) : W p l e room_1 s m #[Value.ref b] below meth c H locs cells slots Q (F0 m 268 ls []) := by
  obtain ⟨hx, hb, hr, hml, hown, hts, hX, hbl, hlocks, hgv⟩ := C0
  have hW : ∀ w ∈ WALL, w.before #[Value.ref b] s = true := fun w h => hts w (WALL_good w h).1
  have hA : ∀ q : Nat, s.heap.size ≤ q → (fun q : Nat => s.heap.size ≤ q) q := fun _ h => h
  have hbA : ¬ (fun q : Nat => s.heap.size ≤ q) b := Nat.not_le.mpr hbl
  have hI := rel.ci
  have hJ := rel.si
  have h_at := rel.at
  refine lv_aload_n hx hb d_law_268 rfl (lv_at hl 1 rfl) ?_
  refine lv_aload_n hx hb d_law_269 rfl (lv_at hl 0 rfl) ?_
  refine lv_iload hx hb d_law_270 (lv_at hl 4 rfl) ?_
  refine lv_iconst (v := 1) hx hb d_law_272 (by decide) ?_
  refine lv_iadd hx hb d_law_273 ?_
  refine va_sld hx hb hX hbl hbA hS h1 d_law_274 ?_
  refine lv_aload_n hx hb d_law_275 rfl (lv_at hl 0 rfl) ?_
  refine lv_iload hx hb d_law_276 (lv_at hl 4 rfl) ?_
  refine lv_iconst (v := 2) hx hb d_law_278 (by decide) ?_
  refine lv_iadd hx hb d_law_279 ?_
  refine va_sld hx hb hX hbl hbA hS h2 d_law_280 ?_
  refine lv_if_eq (tgt := 288) hx hb d_law_281 (by decide) (fun e_5 => ?_) (fun e_5 => ?_)
  · refine lv_iconst (v := 0) hx hb d_law_288 (by decide) ?_
    refine lv_aload_n hx hb d_law_289 rfl (lv_at hl 3 rfl) ?_
    refine scS (rest := []) (hh := [(0, 10, 13, 19), (0, 10, 17, 27), (0, 10, 21, 13)]) (wr := wM r2 k2 G B) (wf := fun u : SL => wL r k u.2.1 u.2.2 o kO u.1) ⟨hx, hb, hml, hown, hW⟩ (c_Lw_robot l hl9 dC dI r k F A o kO f _ (xs (i + 1).toNatClampNeg) 0 hI) (vx_cwSW 4 hW (gInS k_362 k_363 k_345 k_364) rfl rfl rfl (by decide +kernel) ⟨Nat.le_of_ble_eq_true rfl, Nat.le_of_ble_eq_true rfl⟩) hKL hPM hPL hD hS hA hXS rfl hl.1 rfl (Nat.le_of_ble_eq_true rfl) d_law_290 ⟨hcl, hsl⟩ (fun H locs hPM hPL hD hS => ?_)
    refine lv_istore (lv' := [(5, .int ((hL cm_Lw_robot f (f_RS_robot F A (xs (i + 1).toNatClampNeg) 0)).1)), (0, .ref b), (1, .ref (r 0)), (2, .ref (r2 0)), (3, .ref o), (4, .int i)]) hx hb d_law_293 hl (by decide) rfl (fun ls hl => ?_)
    refine lv_aload_n hx hb d_law_295 rfl (lv_at hl 3 rfl) ?_
    refine lv_aload_n hx hb d_law_296 rfl (lv_at hl 1 rfl) ?_
    refine lv_iload hx hb d_law_297 (lv_at hl 5 rfl) ?_
    refine lv_iconst (v := 1) hx hb d_law_299 (by decide) ?_
    refine lv_iadd hx hb d_law_300 ?_
    refine va_sld hx hb hX hbl hbA hS h1 d_law_301 ?_
    refine lv_aload_n hx hb d_law_302 rfl (lv_at hl 1 rfl) ?_
    refine lv_iload hx hb d_law_303 (lv_at hl 5 rfl) ?_
    refine lv_iconst (v := 2) hx hb d_law_305 (by decide) ?_
    refine lv_iadd hx hb d_law_306 ?_
    refine va_sld hx hb hX hbl hbA hS h2 d_law_307 ?_
    refine lv_if_eq (tgt := 315) hx hb d_law_308 (by decide) (fun _ => ?_) (fun h9 => absurd e_5 h9)
    refine lv_iconst (v := 0) hx hb d_law_315 (by decide) ?_
    refine mcV (rest := []) (wr := wL r k ((hL cm_Lw_robot f (f_RS_robot F A (xs (i + 1).toNatClampNeg) 0)).2.2.1) ((hL cm_Lw_robot f (f_RS_robot F A (xs (i + 1).toNatClampNeg) 0)).2.2.2) o kO ((hL cm_Lw_robot f (f_RS_robot F A (xs (i + 1).toNatClampNeg) 0)).2.1)) (wf := fun u : SC => wM r2 k2 u.1 u.2) ⟨hx, hb, hml, hown, hW⟩ (c_Mo_robot l dC dI r2 k2 G B _ (xs (i + 1).toNatClampNeg) 0 hJ) (cwV 2 hW (gIn k_365 k_366 k_367 k_193 k_368) rfl rfl rfl (by decide +kernel) ⟨Nat.le_of_ble_eq_true rfl, Nat.le_of_ble_eq_true rfl⟩) hKM hPL hPM (dSwap hD) hS hA (va_recv hKM hPM (ci := 3) (q0 := 0) rfl rfl) rfl hl.1 rfl (Nat.le_of_ble_eq_true rfl) d_law_316 ⟨hcl, hsl⟩ (fun H locs hPL hPM hD hS => ?_)
    have hD := dSwap hD
    refine lv_istore (lv' := [(6, .int ((f_Mo_robot G B (xs (i + 1).toNatClampNeg) 0).1)), (5, .int ((hL cm_Lw_robot f (f_RS_robot F A (xs (i + 1).toNatClampNeg) 0)).1)), (0, .ref b), (1, .ref (r 0)), (2, .ref (r2 0)), (3, .ref o), (4, .int i)]) hx hb d_law_319 hl (by decide) rfl (fun ls hl => ?_)
    refine lv_aload_n hx hb d_law_321 rfl (lv_at hl 4 rfl) ?_
    refine rdV (rest := []) ⟨hx, hb, hml, hown, hW⟩ (c_Mo_thrown l dC dI r2 k2 ((f_Mo_robot G B (xs (i + 1).toNatClampNeg) 0).2.1) ((f_Mo_robot G B (xs (i + 1).toNatClampNeg) 0).2.2)) (cwV 0 hW (gIn k_351 k_352 k_353 k_193 k_354) rfl rfl rfl (by decide +kernel) ⟨Nat.le_of_ble_eq_true rfl, Nat.le_of_ble_eq_true rfl⟩) hKM hPM (va_recv hKM hPM (ci := 3) (q0 := 0) rfl rfl) rfl hl.1 rfl (Nat.le_of_ble_eq_true rfl) d_law_322 ⟨hcl, hsl⟩ ?_
    refine lv_iload hx hb d_law_325 (lv_at hl 1 rfl) ?_
    refine lv_icmp_eq (tgt := 332) hx hb d_law_327 (by decide) (fun _ => ?_) (fun h9 => absurd (ans_robot rel (xs (i + 1).toNatClampNeg) 0 f).1 h9)
    refine lv_iload hx hb d_law_332 (lv_at hl 1 rfl) ?_
    refine lv_if_ne (tgt := 349) hx hb d_law_334 (by decide) (fun e_6 => ?_) (fun e_6 => ?_)
    · refine lv_goto (tgt := 1351) hx hb d_law_349 (by decide) ?_
      exact next _ _ _ _ _ _ _ ls (by rw [hL_st]; exact sim_robot rel (xs (i + 1).toNatClampNeg) 0) hPL hPM hD hS (lv_sub hl [2, 3, 4, 5, 6] rfl)
    · refine lv_aload_n hx hb d_law_337 rfl (lv_at hl 5 rfl) ?_
      refine lv_iconst (v := 0) hx hb d_law_338 (by decide) ?_
      refine va_lald hx hb hKL hPL 0 0 rfl rfl in01 d_law_339 ?_
      refine lv_iload hx hb d_law_340 (lv_at hl 0 rfl) ?_
      refine lv_i2l (v := ((f_Mo_robot G B (xs (i + 1).toNatClampNeg) 0).1).toInt64) hx hb d_law_342 rfl ?_
      refine W.lcmp hx hb d_law_343 ?_
      refine lv_if_eq (tgt := 349) hx hb d_law_344 (by decide) (fun _ => ?_) (fun h9 => absurd (lgc_self ((ans_robot rel (xs (i + 1).toNatClampNeg) 0 f).2 e_6)) h9)
      refine lv_goto (tgt := 1351) hx hb d_law_349 (by decide) ?_
      exact next _ _ _ _ _ _ _ ls (by rw [hL_st]; exact sim_robot rel (xs (i + 1).toNatClampNeg) 0) hPL hPM hD hS (lv_sub hl [2, 3, 4, 5, 6] rfl)
  · refine lv_iconst (v := 1) hx hb d_law_284 (by decide) ?_
    refine lv_goto (tgt := 289) hx hb d_law_285 (by decide) ?_
    refine lv_aload_n hx hb d_law_289 rfl (lv_at hl 3 rfl) ?_
    refine scS (rest := []) (hh := [(0, 10, 13, 19), (0, 10, 17, 27), (0, 10, 21, 13)]) (wr := wM r2 k2 G B) (wf := fun u : SL => wL r k u.2.1 u.2.2 o kO u.1) ⟨hx, hb, hml, hown, hW⟩ (c_Lw_robot l hl9 dC dI r k F A o kO f _ (xs (i + 1).toNatClampNeg) 1 hI) (vx_cwSW 4 hW (gInS k_362 k_363 k_345 k_364) rfl rfl rfl (by decide +kernel) ⟨Nat.le_of_ble_eq_true rfl, Nat.le_of_ble_eq_true rfl⟩) hKL hPM hPL hD hS hA hXS rfl hl.1 rfl (Nat.le_of_ble_eq_true rfl) d_law_290 ⟨hcl, hsl⟩ (fun H locs hPM hPL hD hS => ?_)
    refine lv_istore (lv' := [(5, .int ((hL cm_Lw_robot f (f_RS_robot F A (xs (i + 1).toNatClampNeg) 1)).1)), (0, .ref b), (1, .ref (r 0)), (2, .ref (r2 0)), (3, .ref o), (4, .int i)]) hx hb d_law_293 hl (by decide) rfl (fun ls hl => ?_)
    refine lv_aload_n hx hb d_law_295 rfl (lv_at hl 3 rfl) ?_
    refine lv_aload_n hx hb d_law_296 rfl (lv_at hl 1 rfl) ?_
    refine lv_iload hx hb d_law_297 (lv_at hl 5 rfl) ?_
    refine lv_iconst (v := 1) hx hb d_law_299 (by decide) ?_
    refine lv_iadd hx hb d_law_300 ?_
    refine va_sld hx hb hX hbl hbA hS h1 d_law_301 ?_
    refine lv_aload_n hx hb d_law_302 rfl (lv_at hl 1 rfl) ?_
    refine lv_iload hx hb d_law_303 (lv_at hl 5 rfl) ?_
    refine lv_iconst (v := 2) hx hb d_law_305 (by decide) ?_
    refine lv_iadd hx hb d_law_306 ?_
    refine va_sld hx hb hX hbl hbA hS h2 d_law_307 ?_
    refine lv_if_eq (tgt := 315) hx hb d_law_308 (by decide) (fun h9 => absurd h9 e_5) (fun _ => ?_)
    refine lv_iconst (v := 1) hx hb d_law_311 (by decide) ?_
    refine lv_goto (tgt := 316) hx hb d_law_312 (by decide) ?_
    refine mcV (rest := []) (wr := wL r k ((hL cm_Lw_robot f (f_RS_robot F A (xs (i + 1).toNatClampNeg) 1)).2.2.1) ((hL cm_Lw_robot f (f_RS_robot F A (xs (i + 1).toNatClampNeg) 1)).2.2.2) o kO ((hL cm_Lw_robot f (f_RS_robot F A (xs (i + 1).toNatClampNeg) 1)).2.1)) (wf := fun u : SC => wM r2 k2 u.1 u.2) ⟨hx, hb, hml, hown, hW⟩ (c_Mo_robot l dC dI r2 k2 G B _ (xs (i + 1).toNatClampNeg) 1 hJ) (cwV 2 hW (gIn k_365 k_366 k_367 k_193 k_368) rfl rfl rfl (by decide +kernel) ⟨Nat.le_of_ble_eq_true rfl, Nat.le_of_ble_eq_true rfl⟩) hKM hPL hPM (dSwap hD) hS hA (va_recv hKM hPM (ci := 3) (q0 := 0) rfl rfl) rfl hl.1 rfl (Nat.le_of_ble_eq_true rfl) d_law_316 ⟨hcl, hsl⟩ (fun H locs hPL hPM hD hS => ?_)
    have hD := dSwap hD
    refine lv_istore (lv' := [(6, .int ((f_Mo_robot G B (xs (i + 1).toNatClampNeg) 1).1)), (5, .int ((hL cm_Lw_robot f (f_RS_robot F A (xs (i + 1).toNatClampNeg) 1)).1)), (0, .ref b), (1, .ref (r 0)), (2, .ref (r2 0)), (3, .ref o), (4, .int i)]) hx hb d_law_319 hl (by decide) rfl (fun ls hl => ?_)
    refine lv_aload_n hx hb d_law_321 rfl (lv_at hl 4 rfl) ?_
    refine rdV (rest := []) ⟨hx, hb, hml, hown, hW⟩ (c_Mo_thrown l dC dI r2 k2 ((f_Mo_robot G B (xs (i + 1).toNatClampNeg) 1).2.1) ((f_Mo_robot G B (xs (i + 1).toNatClampNeg) 1).2.2)) (cwV 0 hW (gIn k_351 k_352 k_353 k_193 k_354) rfl rfl rfl (by decide +kernel) ⟨Nat.le_of_ble_eq_true rfl, Nat.le_of_ble_eq_true rfl⟩) hKM hPM (va_recv hKM hPM (ci := 3) (q0 := 0) rfl rfl) rfl hl.1 rfl (Nat.le_of_ble_eq_true rfl) d_law_322 ⟨hcl, hsl⟩ ?_
    refine lv_iload hx hb d_law_325 (lv_at hl 1 rfl) ?_
    refine lv_icmp_eq (tgt := 332) hx hb d_law_327 (by decide) (fun _ => ?_) (fun h9 => absurd (ans_robot rel (xs (i + 1).toNatClampNeg) 1 f).1 h9)
    refine lv_iload hx hb d_law_332 (lv_at hl 1 rfl) ?_
    refine lv_if_ne (tgt := 349) hx hb d_law_334 (by decide) (fun e_7 => ?_) (fun e_7 => ?_)
    · refine lv_goto (tgt := 1351) hx hb d_law_349 (by decide) ?_
      exact next _ _ _ _ _ _ _ ls (by rw [hL_st]; exact sim_robot rel (xs (i + 1).toNatClampNeg) 1) hPL hPM hD hS (lv_sub hl [2, 3, 4, 5, 6] rfl)
    · refine lv_aload_n hx hb d_law_337 rfl (lv_at hl 5 rfl) ?_
      refine lv_iconst (v := 0) hx hb d_law_338 (by decide) ?_
      refine va_lald hx hb hKL hPL 0 0 rfl rfl in01 d_law_339 ?_
      refine lv_iload hx hb d_law_340 (lv_at hl 0 rfl) ?_
      refine lv_i2l (v := ((f_Mo_robot G B (xs (i + 1).toNatClampNeg) 1).1).toInt64) hx hb d_law_342 rfl ?_
      refine W.lcmp hx hb d_law_343 ?_
      refine lv_if_eq (tgt := 349) hx hb d_law_344 (by decide) (fun _ => ?_) (fun h9 => absurd (lgc_self ((ans_robot rel (xs (i + 1).toNatClampNeg) 1 f).2 e_7)) h9)
      refine lv_goto (tgt := 1351) hx hb d_law_349 (by decide) ?_
      exact next _ _ _ _ _ _ _ ls (by rw [hL_st]; exact sim_robot rel (xs (i + 1).toNatClampNeg) 1) hPL hPM hD hS (lv_sub hl [2, 3, 4, 5, 6] rfl)
set_option maxHeartbeats 4000000 in
set_option maxRecDepth 100000 in
theorem case_3 {p : Program} {l : Launch} {e : Env} {s : State} {m : MethodId} {below : List Frame} {meth : Method} {c : Code} {dC : Nat → ClassId} {dI : Nat → Nat → Nat} {b L : Nat} {xs : Nat → Int32} {r : Nat → Nat} {k : Nat → ClassId} {o : Nat} {kO : ClassId} {r2 : Nat → Nat} {k2 : Nat → ClassId} (hl9 : l.stackTraces = false) (C0 : lw_At p s m meth c b L xs) (hXS : XS (fun q => s.heap.size ≤ q) s s.heap) (hKL : va_K (dC, dI) classes (tL k kO) s) (hKM : va_K (dC, dI) classes (tM k2) s) {F : Nat → Int32} {A : Nat → Nat → Int32} {f : Nat → Int64} {G : Nat → Int32} {B : Nat → Nat → Int32} {H : Heap} {locs : List Loc} {ls : Array Slot} {i : Int32} {cells slots : Nat} {Q : State → Prop} (hcl : cells + 1 ≤ 56) (hsl : slots + 6 ≤ 1290) (h1 : vp_in (i + 1) L) (h2 : vp_in (i + 2) L) (h3 : vp_in (i + 3) L) (h4 : vp_in (i + 4) L) (h5 : vp_in (i + 5) L) (rel : LR F A G B) (hPL : va_P (dC, dI) classes (wL r k F A o kO f) H) (hPM : va_P (dC, dI) classes (wM r2 k2 G B) H) (hD : va_D (fun q => s.heap.size ≤ q) (wM r2 k2 G B ++ wL r k F A o kO f)) (hS : va_S (fun q => s.heap.size ≤ q) s.heap H locs) (hl : lv_has ls 7 [(0, .ref b), (1, .ref (r 0)), (2, .ref (r2 0)), (3, .ref o), (4, .int i)])
    (next : ∀ (F : Nat → Int32) (A : Nat → Nat → Int32) (f : Nat → Int64) (G : Nat → Int32) (B : Nat → Nat → Int32) (H : Heap) (locs : List Loc) (ls : Array Slot), LR F A G B → va_P (dC, dI) classes (wL r k F A o kO f) H → va_P (dC, dI) classes (wM r2 k2 G B) H → va_D (fun q => s.heap.size ≤ q) (wM r2 k2 G B ++ wL r k F A o kO f) → va_S (fun q => s.heap.size ≤ q) s.heap H locs → lv_has ls 7 [(0, .ref b), (1, .ref (r 0)), (2, .ref (r2 0)), (3, .ref o), (4, .int i)] → W p l e room_1 s m #[Value.ref b] below meth c H locs (cells + 1) (slots + 6) Q (F0 m 1351 ls [])) : W p l e room_1 s m #[Value.ref b] below meth c H locs cells slots Q (F0 m 352 ls []) := by
  obtain ⟨hx, hb, hr, hml, hown, hts, hX, hbl, hlocks, hgv⟩ := C0
  have hW : ∀ w ∈ WALL, w.before #[Value.ref b] s = true := fun w h => hts w (WALL_good w h).1
  have hA : ∀ q : Nat, s.heap.size ≤ q → (fun q : Nat => s.heap.size ≤ q) q := fun _ h => h
  have hbA : ¬ (fun q : Nat => s.heap.size ≤ q) b := Nat.not_le.mpr hbl
  have hI := rel.ci
  have hJ := rel.si
  have h_at := rel.at
  refine lv_aload_n hx hb d_law_352 rfl (lv_at hl 1 rfl) ?_
  refine lv_aload_n hx hb d_law_353 rfl (lv_at hl 0 rfl) ?_
  refine lv_iload hx hb d_law_354 (lv_at hl 4 rfl) ?_
  refine lv_iconst (v := 1) hx hb d_law_356 (by decide) ?_
  refine lv_iadd hx hb d_law_357 ?_
  refine va_sld hx hb hX hbl hbA hS h1 d_law_358 ?_
  refine lv_aload_n hx hb d_law_359 rfl (lv_at hl 0 rfl) ?_
  refine lv_iload hx hb d_law_360 (lv_at hl 4 rfl) ?_
  refine lv_iconst (v := 2) hx hb d_law_362 (by decide) ?_
  refine lv_iadd hx hb d_law_363 ?_
  refine va_sld hx hb hX hbl hbA hS h2 d_law_364 ?_
  refine lv_aload_n hx hb d_law_365 rfl (lv_at hl 0 rfl) ?_
  refine lv_iload hx hb d_law_366 (lv_at hl 4 rfl) ?_
  refine lv_iconst (v := 3) hx hb d_law_368 (by decide) ?_
  refine lv_iadd hx hb d_law_369 ?_
  refine va_sld hx hb hX hbl hbA hS h3 d_law_370 ?_
  refine lv_aload_n hx hb d_law_371 rfl (lv_at hl 0 rfl) ?_
  refine lv_iload hx hb d_law_372 (lv_at hl 4 rfl) ?_
  refine lv_iconst (v := 4) hx hb d_law_374 (by decide) ?_
  refine lv_iadd hx hb d_law_375 ?_
  refine va_sld hx hb hX hbl hbA hS h4 d_law_376 ?_
  refine lv_aload_n hx hb d_law_377 rfl (lv_at hl 0 rfl) ?_
  refine lv_iload hx hb d_law_378 (lv_at hl 4 rfl) ?_
  refine lv_iconst (v := 5) hx hb d_law_380 (by decide) ?_
  refine lv_iadd hx hb d_law_381 ?_
  refine va_sld hx hb hX hbl hbA hS h5 d_law_382 ?_
  refine lv_aload_n hx hb d_law_383 rfl (lv_at hl 3 rfl) ?_
  refine scS (rest := []) (hh := [(0, 16, 19, 19), (0, 16, 23, 21), (0, 16, 27, 27), (0, 16, 31, 13)]) (wr := wM r2 k2 G B) (wf := fun u : SL => wL r k u.2.1 u.2.2 o kO u.1) ⟨hx, hb, hml, hown, hW⟩ (c_Lw_ask l hl9 dC dI r k F A o kO f _ (xs (i + 1).toNatClampNeg) (xs (i + 2).toNatClampNeg) (xs (i + 3).toNatClampNeg) (xs (i + 4).toNatClampNeg) (xs (i + 5).toNatClampNeg) hI) (vx_cwSW 7 hW (gInS k_369 k_370 k_345 k_371) rfl rfl rfl (by decide +kernel) ⟨Nat.le_of_ble_eq_true rfl, Nat.le_of_ble_eq_true rfl⟩) hKL hPM hPL hD hS hA hXS rfl hl.1 rfl (Nat.le_of_ble_eq_true rfl) d_law_384 ⟨hcl, hsl⟩ (fun H locs hPM hPL hD hS => ?_)
  refine lv_istore (lv' := [(5, .int ((hL cm_Lw_ask f (f_RS_ask F A (xs (i + 1).toNatClampNeg) (xs (i + 2).toNatClampNeg) (xs (i + 3).toNatClampNeg) (xs (i + 4).toNatClampNeg) (xs (i + 5).toNatClampNeg))).1)), (0, .ref b), (1, .ref (r 0)), (2, .ref (r2 0)), (3, .ref o), (4, .int i)]) hx hb d_law_387 hl (by decide) rfl (fun ls hl => ?_)
  refine lv_aload_n hx hb d_law_389 rfl (lv_at hl 3 rfl) ?_
  refine lv_aload_n hx hb d_law_390 rfl (lv_at hl 1 rfl) ?_
  refine lv_iload hx hb d_law_391 (lv_at hl 5 rfl) ?_
  refine lv_iconst (v := 1) hx hb d_law_393 (by decide) ?_
  refine lv_iadd hx hb d_law_394 ?_
  refine va_sld hx hb hX hbl hbA hS h1 d_law_395 ?_
  refine lv_aload_n hx hb d_law_396 rfl (lv_at hl 1 rfl) ?_
  refine lv_iload hx hb d_law_397 (lv_at hl 5 rfl) ?_
  refine lv_iconst (v := 2) hx hb d_law_399 (by decide) ?_
  refine lv_iadd hx hb d_law_400 ?_
  refine va_sld hx hb hX hbl hbA hS h2 d_law_401 ?_
  refine lv_aload_n hx hb d_law_402 rfl (lv_at hl 1 rfl) ?_
  refine lv_iload hx hb d_law_403 (lv_at hl 5 rfl) ?_
  refine lv_iconst (v := 3) hx hb d_law_405 (by decide) ?_
  refine lv_iadd hx hb d_law_406 ?_
  refine va_sld hx hb hX hbl hbA hS h3 d_law_407 ?_
  refine lv_aload_n hx hb d_law_408 rfl (lv_at hl 1 rfl) ?_
  refine lv_iload hx hb d_law_409 (lv_at hl 5 rfl) ?_
  refine lv_iconst (v := 4) hx hb d_law_411 (by decide) ?_
  refine lv_iadd hx hb d_law_412 ?_
  refine va_sld hx hb hX hbl hbA hS h4 d_law_413 ?_
  refine lv_aload_n hx hb d_law_414 rfl (lv_at hl 1 rfl) ?_
  refine lv_iload hx hb d_law_415 (lv_at hl 5 rfl) ?_
  refine lv_iconst (v := 5) hx hb d_law_417 (by decide) ?_
  refine lv_iadd hx hb d_law_418 ?_
  refine va_sld hx hb hX hbl hbA hS h5 d_law_419 ?_
  refine mcV (rest := []) (wr := wL r k ((hL cm_Lw_ask f (f_RS_ask F A (xs (i + 1).toNatClampNeg) (xs (i + 2).toNatClampNeg) (xs (i + 3).toNatClampNeg) (xs (i + 4).toNatClampNeg) (xs (i + 5).toNatClampNeg))).2.2.1) ((hL cm_Lw_ask f (f_RS_ask F A (xs (i + 1).toNatClampNeg) (xs (i + 2).toNatClampNeg) (xs (i + 3).toNatClampNeg) (xs (i + 4).toNatClampNeg) (xs (i + 5).toNatClampNeg))).2.2.2) o kO ((hL cm_Lw_ask f (f_RS_ask F A (xs (i + 1).toNatClampNeg) (xs (i + 2).toNatClampNeg) (xs (i + 3).toNatClampNeg) (xs (i + 4).toNatClampNeg) (xs (i + 5).toNatClampNeg))).2.1)) (wf := fun u : SC => wM r2 k2 u.1 u.2) ⟨hx, hb, hml, hown, hW⟩ (c_Mo_ask l dC dI r2 k2 G B _ (xs (i + 1).toNatClampNeg) (xs (i + 2).toNatClampNeg) (xs (i + 3).toNatClampNeg) (xs (i + 4).toNatClampNeg) (xs (i + 5).toNatClampNeg) hJ) (cwV 5 hW (gIn k_372 k_373 k_374 k_193 k_375) rfl rfl rfl (by decide +kernel) ⟨Nat.le_of_ble_eq_true rfl, Nat.le_of_ble_eq_true rfl⟩) hKM hPL hPM (dSwap hD) hS hA (va_recv hKM hPM (ci := 3) (q0 := 0) rfl rfl) rfl hl.1 rfl (Nat.le_of_ble_eq_true rfl) d_law_420 ⟨hcl, hsl⟩ (fun H locs hPL hPM hD hS => ?_)
  have hD := dSwap hD
  refine lv_istore (lv' := [(6, .int ((f_Mo_ask G B (xs (i + 1).toNatClampNeg) (xs (i + 2).toNatClampNeg) (xs (i + 3).toNatClampNeg) (xs (i + 4).toNatClampNeg) (xs (i + 5).toNatClampNeg)).1)), (5, .int ((hL cm_Lw_ask f (f_RS_ask F A (xs (i + 1).toNatClampNeg) (xs (i + 2).toNatClampNeg) (xs (i + 3).toNatClampNeg) (xs (i + 4).toNatClampNeg) (xs (i + 5).toNatClampNeg))).1)), (0, .ref b), (1, .ref (r 0)), (2, .ref (r2 0)), (3, .ref o), (4, .int i)]) hx hb d_law_423 hl (by decide) rfl (fun ls hl => ?_)
  refine lv_aload_n hx hb d_law_425 rfl (lv_at hl 4 rfl) ?_
  refine rdV (rest := []) ⟨hx, hb, hml, hown, hW⟩ (c_Mo_thrown l dC dI r2 k2 ((f_Mo_ask G B (xs (i + 1).toNatClampNeg) (xs (i + 2).toNatClampNeg) (xs (i + 3).toNatClampNeg) (xs (i + 4).toNatClampNeg) (xs (i + 5).toNatClampNeg)).2.1) ((f_Mo_ask G B (xs (i + 1).toNatClampNeg) (xs (i + 2).toNatClampNeg) (xs (i + 3).toNatClampNeg) (xs (i + 4).toNatClampNeg) (xs (i + 5).toNatClampNeg)).2.2)) (cwV 0 hW (gIn k_351 k_352 k_353 k_193 k_354) rfl rfl rfl (by decide +kernel) ⟨Nat.le_of_ble_eq_true rfl, Nat.le_of_ble_eq_true rfl⟩) hKM hPM (va_recv hKM hPM (ci := 3) (q0 := 0) rfl rfl) rfl hl.1 rfl (Nat.le_of_ble_eq_true rfl) d_law_426 ⟨hcl, hsl⟩ ?_
  refine lv_iload hx hb d_law_429 (lv_at hl 1 rfl) ?_
  refine lv_icmp_eq (tgt := 436) hx hb d_law_431 (by decide) (fun _ => ?_) (fun h9 => absurd (ans_ask rel (xs (i + 1).toNatClampNeg) (xs (i + 2).toNatClampNeg) (xs (i + 3).toNatClampNeg) (xs (i + 4).toNatClampNeg) (xs (i + 5).toNatClampNeg) f).1 h9)
  refine lv_iload hx hb d_law_436 (lv_at hl 1 rfl) ?_
  refine lv_if_ne (tgt := 453) hx hb d_law_438 (by decide) (fun e_8 => ?_) (fun e_8 => ?_)
  · refine lv_goto (tgt := 1351) hx hb d_law_453 (by decide) ?_
    exact next _ _ _ _ _ _ _ ls (by rw [hL_st]; exact sim_ask rel (xs (i + 1).toNatClampNeg) (xs (i + 2).toNatClampNeg) (xs (i + 3).toNatClampNeg) (xs (i + 4).toNatClampNeg) (xs (i + 5).toNatClampNeg)) hPL hPM hD hS (lv_sub hl [2, 3, 4, 5, 6] rfl)
  · refine lv_aload_n hx hb d_law_441 rfl (lv_at hl 5 rfl) ?_
    refine lv_iconst (v := 0) hx hb d_law_442 (by decide) ?_
    refine va_lald hx hb hKL hPL 0 0 rfl rfl in01 d_law_443 ?_
    refine lv_iload hx hb d_law_444 (lv_at hl 0 rfl) ?_
    refine lv_i2l (v := ((f_Mo_ask G B (xs (i + 1).toNatClampNeg) (xs (i + 2).toNatClampNeg) (xs (i + 3).toNatClampNeg) (xs (i + 4).toNatClampNeg) (xs (i + 5).toNatClampNeg)).1).toInt64) hx hb d_law_446 rfl ?_
    refine W.lcmp hx hb d_law_447 ?_
    refine lv_if_eq (tgt := 453) hx hb d_law_448 (by decide) (fun _ => ?_) (fun h9 => absurd (lgc_self ((ans_ask rel (xs (i + 1).toNatClampNeg) (xs (i + 2).toNatClampNeg) (xs (i + 3).toNatClampNeg) (xs (i + 4).toNatClampNeg) (xs (i + 5).toNatClampNeg) f).2 e_8)) h9)
    refine lv_goto (tgt := 1351) hx hb d_law_453 (by decide) ?_
    exact next _ _ _ _ _ _ _ ls (by rw [hL_st]; exact sim_ask rel (xs (i + 1).toNatClampNeg) (xs (i + 2).toNatClampNeg) (xs (i + 3).toNatClampNeg) (xs (i + 4).toNatClampNeg) (xs (i + 5).toNatClampNeg)) hPL hPM hD hS (lv_sub hl [2, 3, 4, 5, 6] rfl)
set_option maxHeartbeats 4000000 in
set_option maxRecDepth 100000 in
theorem case_4 {p : Program} {l : Launch} {e : Env} {s : State} {m : MethodId} {below : List Frame} {meth : Method} {c : Code} {dC : Nat → ClassId} {dI : Nat → Nat → Nat} {b L : Nat} {xs : Nat → Int32} {r : Nat → Nat} {k : Nat → ClassId} {o : Nat} {kO : ClassId} {r2 : Nat → Nat} {k2 : Nat → ClassId} (hl9 : l.stackTraces = false) (C0 : lw_At p s m meth c b L xs) (hXS : XS (fun q => s.heap.size ≤ q) s s.heap) (hKL : va_K (dC, dI) classes (tL k kO) s) (hKM : va_K (dC, dI) classes (tM k2) s) {F : Nat → Int32} {A : Nat → Nat → Int32} {f : Nat → Int64} {G : Nat → Int32} {B : Nat → Nat → Int32} {H : Heap} {locs : List Loc} {ls : Array Slot} {i : Int32} {cells slots : Nat} {Q : State → Prop} (hcl : cells + 1 ≤ 56) (hsl : slots + 6 ≤ 1290) (h1 : vp_in (i + 1) L) (h2 : vp_in (i + 2) L) (h3 : vp_in (i + 3) L) (h4 : vp_in (i + 4) L) (h5 : vp_in (i + 5) L) (rel : LR F A G B) (hPL : va_P (dC, dI) classes (wL r k F A o kO f) H) (hPM : va_P (dC, dI) classes (wM r2 k2 G B) H) (hD : va_D (fun q => s.heap.size ≤ q) (wM r2 k2 G B ++ wL r k F A o kO f)) (hS : va_S (fun q => s.heap.size ≤ q) s.heap H locs) (hl : lv_has ls 7 [(0, .ref b), (1, .ref (r 0)), (2, .ref (r2 0)), (3, .ref o), (4, .int i)])
    (next : ∀ (F : Nat → Int32) (A : Nat → Nat → Int32) (f : Nat → Int64) (G : Nat → Int32) (B : Nat → Nat → Int32) (H : Heap) (locs : List Loc) (ls : Array Slot), LR F A G B → va_P (dC, dI) classes (wL r k F A o kO f) H → va_P (dC, dI) classes (wM r2 k2 G B) H → va_D (fun q => s.heap.size ≤ q) (wM r2 k2 G B ++ wL r k F A o kO f) → va_S (fun q => s.heap.size ≤ q) s.heap H locs → lv_has ls 7 [(0, .ref b), (1, .ref (r 0)), (2, .ref (r2 0)), (3, .ref o), (4, .int i)] → W p l e room_1 s m #[Value.ref b] below meth c H locs (cells + 1) (slots + 6) Q (F0 m 1351 ls [])) : W p l e room_1 s m #[Value.ref b] below meth c H locs cells slots Q (F0 m 456 ls []) := by
  obtain ⟨hx, hb, hr, hml, hown, hts, hX, hbl, hlocks, hgv⟩ := C0
  have hW : ∀ w ∈ WALL, w.before #[Value.ref b] s = true := fun w h => hts w (WALL_good w h).1
  have hA : ∀ q : Nat, s.heap.size ≤ q → (fun q : Nat => s.heap.size ≤ q) q := fun _ h => h
  have hbA : ¬ (fun q : Nat => s.heap.size ≤ q) b := Nat.not_le.mpr hbl
  have hI := rel.ci
  have hJ := rel.si
  have h_at := rel.at
  refine lv_aload_n hx hb d_law_456 rfl (lv_at hl 1 rfl) ?_
  refine lv_aload_n hx hb d_law_457 rfl (lv_at hl 0 rfl) ?_
  refine lv_iload hx hb d_law_458 (lv_at hl 4 rfl) ?_
  refine lv_iconst (v := 1) hx hb d_law_460 (by decide) ?_
  refine lv_iadd hx hb d_law_461 ?_
  refine va_sld hx hb hX hbl hbA hS h1 d_law_462 ?_
  refine lv_aload_n hx hb d_law_463 rfl (lv_at hl 3 rfl) ?_
  refine scS (rest := []) (hh := [(0, 9, 12, 19), (0, 9, 15, 27)]) (wr := wM r2 k2 G B) (wf := fun u : SL => wL r k u.2.1 u.2.2 o kO u.1) ⟨hx, hb, hml, hown, hW⟩ (c_Lw_free l hl9 dC dI r k F A o kO f _ (xs (i + 1).toNatClampNeg) hI) (vx_cwSW 3 hW (gInS k_376 k_377 k_345 k_378) rfl rfl rfl (by decide +kernel) ⟨Nat.le_of_ble_eq_true rfl, Nat.le_of_ble_eq_true rfl⟩) hKL hPM hPL hD hS hA hXS rfl hl.1 rfl (Nat.le_of_ble_eq_true rfl) d_law_464 ⟨hcl, hsl⟩ (fun H locs hPM hPL hD hS => ?_)
  refine lv_istore (lv' := [(5, .int ((hL cm_Lw_free f (f_RS_free F A (xs (i + 1).toNatClampNeg))).1)), (0, .ref b), (1, .ref (r 0)), (2, .ref (r2 0)), (3, .ref o), (4, .int i)]) hx hb d_law_467 hl (by decide) rfl (fun ls hl => ?_)
  refine lv_aload_n hx hb d_law_469 rfl (lv_at hl 3 rfl) ?_
  refine lv_aload_n hx hb d_law_470 rfl (lv_at hl 1 rfl) ?_
  refine lv_iload hx hb d_law_471 (lv_at hl 5 rfl) ?_
  refine lv_iconst (v := 1) hx hb d_law_473 (by decide) ?_
  refine lv_iadd hx hb d_law_474 ?_
  refine va_sld hx hb hX hbl hbA hS h1 d_law_475 ?_
  refine mcV (rest := []) (wr := wL r k ((hL cm_Lw_free f (f_RS_free F A (xs (i + 1).toNatClampNeg))).2.2.1) ((hL cm_Lw_free f (f_RS_free F A (xs (i + 1).toNatClampNeg))).2.2.2) o kO ((hL cm_Lw_free f (f_RS_free F A (xs (i + 1).toNatClampNeg))).2.1)) (wf := fun u : SC => wM r2 k2 u.1 u.2) ⟨hx, hb, hml, hown, hW⟩ (c_Mo_free l dC dI r2 k2 G B _ (xs (i + 1).toNatClampNeg) hJ) (cwV 1 hW (gIn k_379 k_380 k_381 k_193 k_382) rfl rfl rfl (by decide +kernel) ⟨Nat.le_of_ble_eq_true rfl, Nat.le_of_ble_eq_true rfl⟩) hKM hPL hPM (dSwap hD) hS hA (va_recv hKM hPM (ci := 3) (q0 := 0) rfl rfl) rfl hl.1 rfl (Nat.le_of_ble_eq_true rfl) d_law_476 ⟨hcl, hsl⟩ (fun H locs hPL hPM hD hS => ?_)
  have hD := dSwap hD
  refine lv_istore (lv' := [(6, .int ((f_Mo_free G B (xs (i + 1).toNatClampNeg)).1)), (5, .int ((hL cm_Lw_free f (f_RS_free F A (xs (i + 1).toNatClampNeg))).1)), (0, .ref b), (1, .ref (r 0)), (2, .ref (r2 0)), (3, .ref o), (4, .int i)]) hx hb d_law_479 hl (by decide) rfl (fun ls hl => ?_)
  refine lv_aload_n hx hb d_law_481 rfl (lv_at hl 4 rfl) ?_
  refine rdV (rest := []) ⟨hx, hb, hml, hown, hW⟩ (c_Mo_thrown l dC dI r2 k2 ((f_Mo_free G B (xs (i + 1).toNatClampNeg)).2.1) ((f_Mo_free G B (xs (i + 1).toNatClampNeg)).2.2)) (cwV 0 hW (gIn k_351 k_352 k_353 k_193 k_354) rfl rfl rfl (by decide +kernel) ⟨Nat.le_of_ble_eq_true rfl, Nat.le_of_ble_eq_true rfl⟩) hKM hPM (va_recv hKM hPM (ci := 3) (q0 := 0) rfl rfl) rfl hl.1 rfl (Nat.le_of_ble_eq_true rfl) d_law_482 ⟨hcl, hsl⟩ ?_
  refine lv_iload hx hb d_law_485 (lv_at hl 1 rfl) ?_
  refine lv_icmp_eq (tgt := 492) hx hb d_law_487 (by decide) (fun _ => ?_) (fun h9 => absurd (ans_free rel (xs (i + 1).toNatClampNeg) f).1 h9)
  refine lv_iload hx hb d_law_492 (lv_at hl 1 rfl) ?_
  refine lv_if_ne (tgt := 509) hx hb d_law_494 (by decide) (fun e_9 => ?_) (fun e_9 => ?_)
  · refine lv_goto (tgt := 1351) hx hb d_law_509 (by decide) ?_
    exact next _ _ _ _ _ _ _ ls (by rw [hL_st]; exact sim_free rel (xs (i + 1).toNatClampNeg)) hPL hPM hD hS (lv_sub hl [2, 3, 4, 5, 6] rfl)
  · refine lv_aload_n hx hb d_law_497 rfl (lv_at hl 5 rfl) ?_
    refine lv_iconst (v := 0) hx hb d_law_498 (by decide) ?_
    refine va_lald hx hb hKL hPL 0 0 rfl rfl in01 d_law_499 ?_
    refine lv_iload hx hb d_law_500 (lv_at hl 0 rfl) ?_
    refine lv_i2l (v := ((f_Mo_free G B (xs (i + 1).toNatClampNeg)).1).toInt64) hx hb d_law_502 rfl ?_
    refine W.lcmp hx hb d_law_503 ?_
    refine lv_if_eq (tgt := 509) hx hb d_law_504 (by decide) (fun _ => ?_) (fun h9 => absurd (lgc_self ((ans_free rel (xs (i + 1).toNatClampNeg) f).2 e_9)) h9)
    refine lv_goto (tgt := 1351) hx hb d_law_509 (by decide) ?_
    exact next _ _ _ _ _ _ _ ls (by rw [hL_st]; exact sim_free rel (xs (i + 1).toNatClampNeg)) hPL hPM hD hS (lv_sub hl [2, 3, 4, 5, 6] rfl)
set_option maxHeartbeats 4000000 in
set_option maxRecDepth 100000 in
theorem case_5 {p : Program} {l : Launch} {e : Env} {s : State} {m : MethodId} {below : List Frame} {meth : Method} {c : Code} {dC : Nat → ClassId} {dI : Nat → Nat → Nat} {b L : Nat} {xs : Nat → Int32} {r : Nat → Nat} {k : Nat → ClassId} {o : Nat} {kO : ClassId} {r2 : Nat → Nat} {k2 : Nat → ClassId} (hl9 : l.stackTraces = false) (C0 : lw_At p s m meth c b L xs) (hXS : XS (fun q => s.heap.size ≤ q) s s.heap) (hKL : va_K (dC, dI) classes (tL k kO) s) (hKM : va_K (dC, dI) classes (tM k2) s) {F : Nat → Int32} {A : Nat → Nat → Int32} {f : Nat → Int64} {G : Nat → Int32} {B : Nat → Nat → Int32} {H : Heap} {locs : List Loc} {ls : Array Slot} {i : Int32} {cells slots : Nat} {Q : State → Prop} (hcl : cells + 1 ≤ 56) (hsl : slots + 6 ≤ 1290) (h1 : vp_in (i + 1) L) (h2 : vp_in (i + 2) L) (h3 : vp_in (i + 3) L) (h4 : vp_in (i + 4) L) (h5 : vp_in (i + 5) L) (rel : LR F A G B) (hPL : va_P (dC, dI) classes (wL r k F A o kO f) H) (hPM : va_P (dC, dI) classes (wM r2 k2 G B) H) (hD : va_D (fun q => s.heap.size ≤ q) (wM r2 k2 G B ++ wL r k F A o kO f)) (hS : va_S (fun q => s.heap.size ≤ q) s.heap H locs) (hl : lv_has ls 7 [(0, .ref b), (1, .ref (r 0)), (2, .ref (r2 0)), (3, .ref o), (4, .int i)])
    (next : ∀ (F : Nat → Int32) (A : Nat → Nat → Int32) (f : Nat → Int64) (G : Nat → Int32) (B : Nat → Nat → Int32) (H : Heap) (locs : List Loc) (ls : Array Slot), LR F A G B → va_P (dC, dI) classes (wL r k F A o kO f) H → va_P (dC, dI) classes (wM r2 k2 G B) H → va_D (fun q => s.heap.size ≤ q) (wM r2 k2 G B ++ wL r k F A o kO f) → va_S (fun q => s.heap.size ≤ q) s.heap H locs → lv_has ls 7 [(0, .ref b), (1, .ref (r 0)), (2, .ref (r2 0)), (3, .ref o), (4, .int i)] → W p l e room_1 s m #[Value.ref b] below meth c H locs (cells + 1) (slots + 6) Q (F0 m 1351 ls [])) : W p l e room_1 s m #[Value.ref b] below meth c H locs cells slots Q (F0 m 512 ls []) := by
  obtain ⟨hx, hb, hr, hml, hown, hts, hX, hbl, hlocks, hgv⟩ := C0
  have hW : ∀ w ∈ WALL, w.before #[Value.ref b] s = true := fun w h => hts w (WALL_good w h).1
  have hA : ∀ q : Nat, s.heap.size ≤ q → (fun q : Nat => s.heap.size ≤ q) q := fun _ h => h
  have hbA : ¬ (fun q : Nat => s.heap.size ≤ q) b := Nat.not_le.mpr hbl
  have hI := rel.ci
  have hJ := rel.si
  have h_at := rel.at
  refine lv_aload_n hx hb d_law_512 rfl (lv_at hl 1 rfl) ?_
  refine lv_aload_n hx hb d_law_513 rfl (lv_at hl 0 rfl) ?_
  refine lv_iload hx hb d_law_514 (lv_at hl 4 rfl) ?_
  refine lv_iconst (v := 1) hx hb d_law_516 (by decide) ?_
  refine lv_iadd hx hb d_law_517 ?_
  refine va_sld hx hb hX hbl hbA hS h1 d_law_518 ?_
  refine lv_aload_n hx hb d_law_519 rfl (lv_at hl 0 rfl) ?_
  refine lv_iload hx hb d_law_520 (lv_at hl 4 rfl) ?_
  refine lv_iconst (v := 2) hx hb d_law_522 (by decide) ?_
  refine lv_iadd hx hb d_law_523 ?_
  refine va_sld hx hb hX hbl hbA hS h2 d_law_524 ?_
  refine lv_aload_n hx hb d_law_525 rfl (lv_at hl 3 rfl) ?_
  refine scS (rest := []) (hh := [(0, 17, 20, 19)]) (wr := wM r2 k2 G B) (wf := fun u : SL => wL r k u.2.1 u.2.2 o kO u.1) ⟨hx, hb, hml, hown, hW⟩ (c_Lw_meets l hl9 dC dI r k F A o kO f _ (xs (i + 1).toNatClampNeg) (xs (i + 2).toNatClampNeg) hI) (vx_cwSW 4 hW (gInS k_383 k_384 k_345 k_385) rfl rfl rfl (by decide +kernel) ⟨Nat.le_of_ble_eq_true rfl, Nat.le_of_ble_eq_true rfl⟩) hKL hPM hPL hD hS hA hXS rfl hl.1 rfl (Nat.le_of_ble_eq_true rfl) d_law_526 ⟨hcl, hsl⟩ (fun H locs hPM hPL hD hS => ?_)
  refine lv_istore (lv' := [(5, .int ((hB cm_Lw_meets f (f_RS_meets F A (xs (i + 1).toNatClampNeg) (xs (i + 2).toNatClampNeg))).1)), (0, .ref b), (1, .ref (r 0)), (2, .ref (r2 0)), (3, .ref o), (4, .int i)]) hx hb d_law_529 hl (by decide) rfl (fun ls hl => ?_)
  refine lv_aload_n hx hb d_law_531 rfl (lv_at hl 3 rfl) ?_
  refine lv_aload_n hx hb d_law_532 rfl (lv_at hl 1 rfl) ?_
  refine lv_iload hx hb d_law_533 (lv_at hl 5 rfl) ?_
  refine lv_iconst (v := 1) hx hb d_law_535 (by decide) ?_
  refine lv_iadd hx hb d_law_536 ?_
  refine va_sld hx hb hX hbl hbA hS h1 d_law_537 ?_
  refine lv_aload_n hx hb d_law_538 rfl (lv_at hl 1 rfl) ?_
  refine lv_iload hx hb d_law_539 (lv_at hl 5 rfl) ?_
  refine lv_iconst (v := 2) hx hb d_law_541 (by decide) ?_
  refine lv_iadd hx hb d_law_542 ?_
  refine va_sld hx hb hX hbl hbA hS h2 d_law_543 ?_
  refine mcV (rest := []) (wr := wL r k ((hB cm_Lw_meets f (f_RS_meets F A (xs (i + 1).toNatClampNeg) (xs (i + 2).toNatClampNeg))).2.2.1) ((hB cm_Lw_meets f (f_RS_meets F A (xs (i + 1).toNatClampNeg) (xs (i + 2).toNatClampNeg))).2.2.2) o kO ((hB cm_Lw_meets f (f_RS_meets F A (xs (i + 1).toNatClampNeg) (xs (i + 2).toNatClampNeg))).2.1)) (wf := fun u : SC => wM r2 k2 u.1 u.2) ⟨hx, hb, hml, hown, hW⟩ (c_Mo_meets l dC dI r2 k2 G B _ (xs (i + 1).toNatClampNeg) (xs (i + 2).toNatClampNeg) hJ) (cwV 2 hW (gIn k_386 k_387 k_388 k_193 k_389) rfl rfl rfl (by decide +kernel) ⟨Nat.le_of_ble_eq_true rfl, Nat.le_of_ble_eq_true rfl⟩) hKM hPL hPM (dSwap hD) hS hA (va_recv hKM hPM (ci := 3) (q0 := 0) rfl rfl) rfl hl.1 rfl (Nat.le_of_ble_eq_true rfl) d_law_544 ⟨hcl, hsl⟩ (fun H locs hPL hPM hD hS => ?_)
  have hD := dSwap hD
  refine lv_istore (lv' := [(6, .int ((f_Mo_meets G B (xs (i + 1).toNatClampNeg) (xs (i + 2).toNatClampNeg)).1)), (5, .int ((hB cm_Lw_meets f (f_RS_meets F A (xs (i + 1).toNatClampNeg) (xs (i + 2).toNatClampNeg))).1)), (0, .ref b), (1, .ref (r 0)), (2, .ref (r2 0)), (3, .ref o), (4, .int i)]) hx hb d_law_547 hl (by decide) rfl (fun ls hl => ?_)
  refine lv_aload_n hx hb d_law_549 rfl (lv_at hl 4 rfl) ?_
  refine rdV (rest := []) ⟨hx, hb, hml, hown, hW⟩ (c_Mo_thrown l dC dI r2 k2 ((f_Mo_meets G B (xs (i + 1).toNatClampNeg) (xs (i + 2).toNatClampNeg)).2.1) ((f_Mo_meets G B (xs (i + 1).toNatClampNeg) (xs (i + 2).toNatClampNeg)).2.2)) (cwV 0 hW (gIn k_351 k_352 k_353 k_193 k_354) rfl rfl rfl (by decide +kernel) ⟨Nat.le_of_ble_eq_true rfl, Nat.le_of_ble_eq_true rfl⟩) hKM hPM (va_recv hKM hPM (ci := 3) (q0 := 0) rfl rfl) rfl hl.1 rfl (Nat.le_of_ble_eq_true rfl) d_law_550 ⟨hcl, hsl⟩ ?_
  refine lv_iload hx hb d_law_553 (lv_at hl 1 rfl) ?_
  refine lv_icmp_eq (tgt := 560) hx hb d_law_555 (by decide) (fun _ => ?_) (fun h9 => absurd (ans_meets rel (xs (i + 1).toNatClampNeg) (xs (i + 2).toNatClampNeg) f).1 h9)
  refine lv_iload hx hb d_law_560 (lv_at hl 1 rfl) ?_
  refine lv_if_ne (tgt := 584) hx hb d_law_562 (by decide) (fun e_10 => ?_) (fun e_10 => ?_)
  · refine lv_goto (tgt := 1351) hx hb d_law_584 (by decide) ?_
    exact next _ _ _ _ _ _ _ ls (by rw [hB_st]; exact sim_meets rel (xs (i + 1).toNatClampNeg) (xs (i + 2).toNatClampNeg)) hPL hPM hD hS (lv_sub hl [2, 3, 4, 5, 6] rfl)
  · refine lv_aload_n hx hb d_law_565 rfl (lv_at hl 5 rfl) ?_
    refine lv_iconst (v := 0) hx hb d_law_566 (by decide) ?_
    refine va_lald hx hb hKL hPL 0 0 rfl rfl in01 d_law_567 ?_
    refine lv_iload hx hb d_law_568 (lv_at hl 0 rfl) ?_
    refine lv_if_eq (tgt := 577) hx hb d_law_570 (by decide) (fun e_11 => ?_) (fun e_11 => ?_)
    · refine lv_lconst (v := 0) hx hb d_law_577 rfl ?_
      refine W.lcmp hx hb d_law_578 ?_
      refine lv_if_eq (tgt := 584) hx hb d_law_579 (by decide) (fun _ => ?_) (fun h9 => absurd (lgc_self (((ans_meets rel (xs (i + 1).toNatClampNeg) (xs (i + 2).toNatClampNeg) f).2 e_10).trans (if_pos e_11))) h9)
      refine lv_goto (tgt := 1351) hx hb d_law_584 (by decide) ?_
      exact next _ _ _ _ _ _ _ ls (by rw [hB_st]; exact sim_meets rel (xs (i + 1).toNatClampNeg) (xs (i + 2).toNatClampNeg)) hPL hPM hD hS (lv_sub hl [2, 3, 4, 5, 6] rfl)
    · refine lv_lconst (v := 1) hx hb d_law_573 rfl ?_
      refine lv_goto (tgt := 578) hx hb d_law_574 (by decide) ?_
      refine W.lcmp hx hb d_law_578 ?_
      refine lv_if_eq (tgt := 584) hx hb d_law_579 (by decide) (fun _ => ?_) (fun h9 => absurd (lgc_self (((ans_meets rel (xs (i + 1).toNatClampNeg) (xs (i + 2).toNatClampNeg) f).2 e_10).trans (if_neg e_11))) h9)
      refine lv_goto (tgt := 1351) hx hb d_law_584 (by decide) ?_
      exact next _ _ _ _ _ _ _ ls (by rw [hB_st]; exact sim_meets rel (xs (i + 1).toNatClampNeg) (xs (i + 2).toNatClampNeg)) hPL hPM hD hS (lv_sub hl [2, 3, 4, 5, 6] rfl)
