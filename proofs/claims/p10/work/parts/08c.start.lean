theorem xs_c : ∀ q ∈ xCasts, Cond.castable q.1 q.2 ∈ lw_tbl := by decide +kernel
theorem xs_d : ∀ x ∈ xDecls, Cond.declares x ∈ lw_tbl := by decide +kernel
theorem xs_n : ∀ q ∈ xNocs, Cond.not (.castable q.1 q.2) ∈ flatC (Jvm.Cond.and given_1 narrow_1) := by decide +kernel
theorem xs_s : ∀ q ∈ xStrs, Cond.stringRef q.1 q.2.1 q.2.2 ∈ lw_tbl := by decide +kernel
theorem xs_e : ∀ q ∈ xStrs, Cond.exactly (.string q.1 q.2.1) "java/lang/String" ∈ flatC (Jvm.Cond.and given_1 narrow_1) := by decide +kernel
set_option maxHeartbeats 4000000 in
set_option maxRecDepth 100000 in
theorem xs_start {b : Nat} {s : State} {A : Nat → Prop} (hts : ∀ w ∈ lw_tbl, w.before #[Value.ref b] s = true) (hgv : (Jvm.Cond.and given_1 narrow_1).before #[Value.ref b] s = true) (hA : ∀ a : Nat, a < s.heap.size → ¬ A a) : XS A s s.heap := by
  have hs := flat_of_before _ hgv
  refine ⟨vx_Zqof (hts (.laysStatic Bundle.tN "UNASSIGNED_STACK" Bundle.steD) (by decide +kernel)) (hts (.initialized Bundle.tN) (by decide +kernel)) (hs (.isRef (.static Bundle.tN "UNASSIGNED_STACK" Bundle.steD)) (by decide +kernel)) hA, vx_Zqof (hts (.laysStatic Bundle.tN "SUPPRESSED_SENTINEL" Bundle.listD) (by decide +kernel)) (hts (.initialized Bundle.tN) (by decide +kernel)) (hs (.isRef (.static Bundle.tN "SUPPRESSED_SENTINEL" Bundle.listD)) (by decide +kernel)) hA, fun q hq => va_Nw.of rfl (hts _ (xs_c q hq)), fun x hx => va_Nw.of rfl (hts _ (xs_d x hx)), fun q hq => va_Nc.of (hs _ (xs_n q hq)), fun q hq => ?_⟩
  obtain ⟨a, -, -, -, q1, -⟩ := Cond.exactly_spec (args := #[Value.ref b]) (first := s) (o := none) (s := s) (idx := []) (t := .string q.1 q.2.1) (cls := "java/lang/String") (hs _ (xs_e q hq))
  exact ⟨a, vk_R.of (A := #[Value.ref b]) (hts _ (xs_s q hq)) q1⟩
theorem NP.warm {s U : State} (h : NP s) (hW : s.WarmedH U.vm) : NP U := ⟨va_Nw.warmM hW h.1, va_Nw.warmM hW h.2⟩
theorem np_blind {D : va_G} {w : va_W} {tys : List (ClassId × FieldType)} {sz : Nat} {av : List Value} : FrameBlind (va_Pc av (fun U => SP D w tys sz U ∧ NP U)) := by
  intro a U g mk q
  obtain ⟨q0, ⟨q1, qP, qK, qD⟩, n1, n2⟩ := q
  exact ⟨q0, ⟨q1, qP, va_K.moved (u := U) (U := U.calling g mk a) (Vm.Alike.refl U.vm) qK, qD⟩, va_Nw.same rfl rfl n1, va_Nw.same rfl rfl n2⟩
theorem lw_lt {L j : Nat} (hL : L ≤ 3072) (hj : 6 * j ≤ 4000) (c : ¬ Int32.ofNat L - 6 < nI (6 * j)) : 6 * j + 6 ≤ L := by
  rw [Int32.lt_iff_toInt_lt] at c
  have h1 : (nI (6 * j)).toInt = ((6 * j : Nat) : Int) := nI_toInt (by omega)
  have h2 : (Int32.ofNat L).toInt = (L : Int) := nI_toInt (n := L) (by omega)
  have h3 : (Int32.ofNat L - 6).toInt = (L : Int) - 6 := by
    rw [Int32.toInt_sub, h2, show (6 : Int32).toInt = 6 from rfl, Int.bmod_eq_of_le] <;> omega
  omega
theorem lw_inc (j : Nat) : nI (6 * j) + Int32.ofInt 6 = nI (6 * (j + 1)) := by
  rw [show Int32.ofInt 6 = nI 6 from rfl, nI_add]; rfl
theorem tsw18 {x : Int32} (h0 : ¬ x = 0) (h1 : ¬ x = 1) (h2 : ¬ x = 2) (h3 : ¬ x = 3) (h4 : ¬ x = 4) (h5 : ¬ x = 5) (h6 : ¬ x = 6) (h7 : ¬ x = 7) (h8 : ¬ x = 8) (h9 : ¬ x = 9) (h10 : ¬ x = 10) (h11 : ¬ x = 11) (h12 : ¬ x = 12) (h13 : ¬ x = 13) (h14 : ¬ x = 14) (h15 : ¬ x = 15) (h16 : ¬ x = 16) (h17 : ¬ x = 17) : x.toInt < 0 ∨ 17 < x.toInt := by
  rcases Int.lt_or_le x.toInt 0 with h | h
  · exact Or.inl h
  rcases Int.lt_or_le 17 x.toInt with g | g
  · exact Or.inr g
  exfalso
  rcases (show x.toInt = 0 ∨ x.toInt = 1 ∨ x.toInt = 2 ∨ x.toInt = 3 ∨ x.toInt = 4 ∨ x.toInt = 5 ∨ x.toInt = 6 ∨ x.toInt = 7 ∨ x.toInt = 8 ∨ x.toInt = 9 ∨ x.toInt = 10 ∨ x.toInt = 11 ∨ x.toInt = 12 ∨ x.toInt = 13 ∨ x.toInt = 14 ∨ x.toInt = 15 ∨ x.toInt = 16 ∨ x.toInt = 17 by omega) with q | q | q | q | q | q | q | q | q | q | q | q | q | q | q | q | q | q
  · exact h0 (i32_ext q)
  · exact h1 (i32_ext q)
  · exact h2 (i32_ext q)
  · exact h3 (i32_ext q)
  · exact h4 (i32_ext q)
  · exact h5 (i32_ext q)
  · exact h6 (i32_ext q)
  · exact h7 (i32_ext q)
  · exact h8 (i32_ext q)
  · exact h9 (i32_ext q)
  · exact h10 (i32_ext q)
  · exact h11 (i32_ext q)
  · exact h12 (i32_ext q)
  · exact h13 (i32_ext q)
  · exact h14 (i32_ext q)
  · exact h15 (i32_ext q)
  · exact h16 (i32_ext q)
  · exact h17 (i32_ext q)
theorem np_start {b : Nat} {s : State} (hts : ∀ w ∈ lw_tbl, w.before #[Value.ref b] s = true) : NP s := ⟨va_Nw.of rfl (hts (.methodLinkNest R_RS 26 y_Rb_init "ReserveSteps") (by decide +kernel)), va_Nw.of rfl (hts (.methodLinkNest R_RS 33 y_Gr_init "ReserveSteps") (by decide +kernel))⟩
set_option maxHeartbeats 4000000 in
set_option maxRecDepth 100000 in
theorem law_loop {p : Program} {l : Launch} {e : Env} {s : State} {m : MethodId} {below : List Frame} {meth : Method} {c : Code} {dC : Nat → ClassId} {dI : Nat → Nat → Nat} {b L : Nat} {xs : Nat → Int32} {r : Nat → Nat} {k : Nat → ClassId} {o : Nat} {kO : ClassId} {r2 : Nat → Nat} {k2 : Nat → ClassId} (hl9 : l.stackTraces = false) (hL : L ≤ 3072) (C0 : lw_At p s m meth c b L xs) (hXS : XS (fun q => s.heap.size ≤ q) s s.heap) (hKL : va_K (dC, dI) classes (tL k kO) s) (hKM : va_K (dC, dI) classes (tM k2) s) :
    ∀ (n j : Nat), 6 * j ≤ L + 5 → L + 6 ≤ 6 * j + 6 * n → ∀ (F : Nat → Int32) (A : Nat → Nat → Int32) (f : Nat → Int64) (G : Nat → Int32) (B : Nat → Nat → Int32) (H : Heap) (locs : List Loc) (ls : Array Slot), LR F A G B → va_P (dC, dI) classes (wL r k F A o kO f) H → va_P (dC, dI) classes (wM r2 k2 G B) H → va_D (fun q => s.heap.size ≤ q) (wM r2 k2 G B ++ wL r k F A o kO f) → va_S (fun q => s.heap.size ≤ q) s.heap H locs → lv_has ls 7 [(0, .ref b), (1, .ref (r 0)), (2, .ref (r2 0)), (3, .ref o), (4, .int (nI (6 * j)))] → W p l e room_1 s m #[Value.ref b] below meth c H locs (33 + j) (1148 + 6 * j) (lw_Z below #[Value.ref b] s) (F0 m 23 ls []) := by
  intro n
  induction n with
  | zero => intro j h1 h2; exact absurd h2 (by omega)
  | succ n ih =>
    intro j hj hn F A f G B H locs ls rel hPL hPM hD hS hl
    obtain ⟨hx, hb, hr, hml, hown, hts, hX, hbl, hlocks, hgv⟩ := id C0
    have hbA : ¬ (fun q : Nat => s.heap.size ≤ q) b := Nat.not_le.mpr hbl
    refine lv_iload hx hb d_law_23 (lv_at hl 4 rfl) ?_
    refine lv_aload_n hx hb d_law_25 rfl (lv_at hl 0 rfl) ?_
    refine va_slen hx hb hX hbl hbA hS d_law_26 ?_
    refine lv_bipush (v := 6) hx hb d_law_27 (by decide) ?_
    refine lv_isub hx hb d_law_29 ?_
    refine lv_icmp_gt (tgt := 895) hx hb d_law_30 (by decide) (fun c_1 => ?_) (fun c_1 => ?_)
    · refine lv_iconst (v := 1) hx hb d_law_895 (by decide) ?_
      refine va_forget (fun q hq => hS.2.2 q hq) ?_
      refine W.widen (k := 1078) (n := 9466) (by omega) (by omega) ?_
      exact lw_ret hx hb hr hlocks d_law_896
    · have hlt : 6 * j + 6 ≤ L := lw_lt hL (by omega) c_1
      have g1 : vp_in (nI (6 * j) + 1) L := by rw [show (1 : Int32) = nI 1 from rfl, nI_add]; exact vp_in_nI (by omega) (by omega)
      have g2 : vp_in (nI (6 * j) + 2) L := by rw [show (2 : Int32) = nI 2 from rfl, nI_add]; exact vp_in_nI (by omega) (by omega)
      have g3 : vp_in (nI (6 * j) + 3) L := by rw [show (3 : Int32) = nI 3 from rfl, nI_add]; exact vp_in_nI (by omega) (by omega)
      have g4 : vp_in (nI (6 * j) + 4) L := by rw [show (4 : Int32) = nI 4 from rfl, nI_add]; exact vp_in_nI (by omega) (by omega)
      have g5 : vp_in (nI (6 * j) + 5) L := by rw [show (5 : Int32) = nI 5 from rfl, nI_add]; exact vp_in_nI (by omega) (by omega)
      have g0 : vp_in (nI (6 * j)) L := vp_in_nI (by omega) (by omega)
      have nxt : ∀ (F : Nat → Int32) (A : Nat → Nat → Int32) (f : Nat → Int64) (G : Nat → Int32) (B : Nat → Nat → Int32) (H : Heap) (locs : List Loc) (ls : Array Slot), LR F A G B → va_P (dC, dI) classes (wL r k F A o kO f) H → va_P (dC, dI) classes (wM r2 k2 G B) H → va_D (fun q => s.heap.size ≤ q) (wM r2 k2 G B ++ wL r k F A o kO f) → va_S (fun q => s.heap.size ≤ q) s.heap H locs → lv_has ls 7 [(0, .ref b), (1, .ref (r 0)), (2, .ref (r2 0)), (3, .ref o), (4, .int (nI (6 * j)))] → W p l e room_1 s m #[Value.ref b] below meth c H locs (33 + j + 1) (1148 + 6 * j + 6) (lw_Z below #[Value.ref b] s) (F0 m 889 ls []) := by
        intro F A f G B H locs ls rel hPL hPM hD hS hl
        refine lv_iinc (v := nI (6 * (j + 1))) (lv' := [(4, .int (nI (6 * (j + 1)))), (0, .ref b), (1, .ref (r 0)), (2, .ref (r2 0)), (3, .ref o)]) hx hb d_law_889 hl (k := 4) rfl (lw_inc j) (by decide) rfl (fun ls hl => ?_)
        refine lv_goto (tgt := 23) hx hb d_law_892 (by decide) ?_
        exact ih (j + 1) (by omega) (by omega) F A f G B H locs ls rel hPL hPM hD hS (lv_sub hl [1, 2, 3, 4, 0] rfl)
      refine lv_aload_n hx hb d_law_33 rfl (lv_at hl 0 rfl) ?_
      refine lv_iload hx hb d_law_34 (lv_at hl 4 rfl) ?_
      refine va_sld hx hb hX hbl hbA hS g0 d_law_36 ?_
      refine lv_bipush (v := 31) hx hb d_law_37 (by decide) ?_
      refine lv_iand hx hb d_law_39 ?_
      refine lv_topi (fun w ew => ?_)
      by_cases t_0 : w = 0
      · refine lv_tableIn (off := 88) (tgt := 128) hx hb d_law_40 (by rw [t_0]; decide) (by rw [t_0]; decide) (by rw [t_0]; rfl) (by decide) ?_
        exact case_0 hl9 C0 hXS hKL hKM (by omega) (by omega) g1 g2 g3 g4 g5 rel hPL hPM hD hS hl nxt
      by_cases t_1 : w = 1
      · refine lv_tableIn (off := 104) (tgt := 144) hx hb d_law_40 (by rw [t_1]; decide) (by rw [t_1]; decide) (by rw [t_1]; rfl) (by decide) ?_
        exact case_1 hl9 C0 hXS hKL hKM (by omega) (by omega) g1 g2 g3 g4 g5 rel hPL hPM hD hS hl nxt
      by_cases t_2 : w = 2
      · refine lv_tableIn (off := 172) (tgt := 212) hx hb d_law_40 (by rw [t_2]; decide) (by rw [t_2]; decide) (by rw [t_2]; rfl) (by decide) ?_
        exact case_2 hl9 C0 hXS hKL hKM (by omega) (by omega) g1 g2 g3 g4 g5 rel hPL hPM hD hS hl nxt
      by_cases t_3 : w = 3
      · refine lv_tableIn (off := 228) (tgt := 268) hx hb d_law_40 (by rw [t_3]; decide) (by rw [t_3]; decide) (by rw [t_3]; rfl) (by decide) ?_
        exact case_3 hl9 C0 hXS hKL hKM (by omega) (by omega) g1 g2 g3 g4 g5 rel hPL hPM hD hS hl nxt
      by_cases t_4 : w = 4
      · refine lv_tableIn (off := 304) (tgt := 344) hx hb d_law_40 (by rw [t_4]; decide) (by rw [t_4]; decide) (by rw [t_4]; rfl) (by decide) ?_
        exact case_4 hl9 C0 hXS hKL hKM (by omega) (by omega) g1 g2 g3 g4 g5 rel hPL hPM hD hS hl nxt
      by_cases t_5 : w = 5
      · refine lv_tableIn (off := 332) (tgt := 372) hx hb d_law_40 (by rw [t_5]; decide) (by rw [t_5]; decide) (by rw [t_5]; rfl) (by decide) ?_
        exact case_5 hl9 C0 hXS hKL hKM (by omega) (by omega) g1 g2 g3 g4 g5 rel hPL hPM hD hS hl nxt
      by_cases t_6 : w = 6
      · refine lv_tableIn (off := 372) (tgt := 412) hx hb d_law_40 (by rw [t_6]; decide) (by rw [t_6]; decide) (by rw [t_6]; rfl) (by decide) ?_
        exact case_6 hl9 C0 hXS hKL hKM (by omega) (by omega) g1 g2 g3 g4 g5 rel hPL hPM hD hS hl nxt
      by_cases t_7 : w = 7
      · refine lv_tableIn (off := 412) (tgt := 452) hx hb d_law_40 (by rw [t_7]; decide) (by rw [t_7]; decide) (by rw [t_7]; rfl) (by decide) ?_
        exact case_7 hl9 C0 hXS hKL hKM (by omega) (by omega) g1 g2 g3 g4 g5 rel hPL hPM hD hS hl nxt
      by_cases t_8 : w = 8
      · refine lv_tableIn (off := 440) (tgt := 480) hx hb d_law_40 (by rw [t_8]; decide) (by rw [t_8]; decide) (by rw [t_8]; rfl) (by decide) ?_
        exact case_8 hl9 C0 hXS hKL hKM (by omega) (by omega) g1 g2 g3 g4 g5 rel hPL hPM hD hS hl nxt
      by_cases t_9 : w = 9
      · refine lv_tableIn (off := 508) (tgt := 548) hx hb d_law_40 (by rw [t_9]; decide) (by rw [t_9]; decide) (by rw [t_9]; rfl) (by decide) ?_
        exact case_9 hl9 C0 hXS hKL hKM (by omega) (by omega) g1 g2 g3 g4 g5 rel hPL hPM hD hS hl nxt
      by_cases t_10 : w = 10
      · refine lv_tableIn (off := 536) (tgt := 576) hx hb d_law_40 (by rw [t_10]; decide) (by rw [t_10]; decide) (by rw [t_10]; rfl) (by decide) ?_
        exact case_10 hl9 C0 hXS hKL hKM (by omega) (by omega) g1 g2 g3 g4 g5 rel hPL hPM hD hS hl nxt
      by_cases t_11 : w = 11
      · refine lv_tableIn (off := 592) (tgt := 632) hx hb d_law_40 (by rw [t_11]; decide) (by rw [t_11]; decide) (by rw [t_11]; rfl) (by decide) ?_
        exact case_11 hl9 C0 hXS hKL hKM (by omega) (by omega) g1 g2 g3 g4 g5 rel hPL hPM hD hS hl nxt
      by_cases t_12 : w = 12
      · refine lv_tableIn (off := 648) (tgt := 688) hx hb d_law_40 (by rw [t_12]; decide) (by rw [t_12]; decide) (by rw [t_12]; rfl) (by decide) ?_
        exact case_12 hl9 C0 hXS hKL hKM (by omega) (by omega) g1 g2 g3 g4 g5 rel hPL hPM hD hS hl nxt
      by_cases t_13 : w = 13
      · refine lv_tableIn (off := 676) (tgt := 716) hx hb d_law_40 (by rw [t_13]; decide) (by rw [t_13]; decide) (by rw [t_13]; rfl) (by decide) ?_
        exact case_13 hl9 C0 hXS hKL hKM (by omega) (by omega) g1 g2 g3 g4 g5 rel hPL hPM hD hS hl nxt
      by_cases t_14 : w = 14
      · refine lv_tableIn (off := 704) (tgt := 744) hx hb d_law_40 (by rw [t_14]; decide) (by rw [t_14]; decide) (by rw [t_14]; rfl) (by decide) ?_
        exact case_14 hl9 C0 hXS hKL hKM (by omega) (by omega) g1 g2 g3 g4 g5 rel hPL hPM hD hS hl nxt
      by_cases t_15 : w = 15
      · refine lv_tableIn (off := 744) (tgt := 784) hx hb d_law_40 (by rw [t_15]; decide) (by rw [t_15]; decide) (by rw [t_15]; rfl) (by decide) ?_
        exact case_15 hl9 C0 hXS hKL hKM (by omega) (by omega) g1 g2 g3 g4 g5 rel hPL hPM hD hS hl nxt
      by_cases t_16 : w = 16
      · refine lv_tableIn (off := 784) (tgt := 824) hx hb d_law_40 (by rw [t_16]; decide) (by rw [t_16]; decide) (by rw [t_16]; rfl) (by decide) ?_
        exact case_16 hl9 C0 hXS hKL hKM (by omega) (by omega) g1 g2 g3 g4 g5 rel hPL hPM hD hS hl nxt
      by_cases t_17 : w = 17
      · refine lv_tableIn (off := 824) (tgt := 864) hx hb d_law_40 (by rw [t_17]; decide) (by rw [t_17]; decide) (by rw [t_17]; rfl) (by decide) ?_
        exact case_17 hl9 C0 hXS hKL hKM (by omega) (by omega) g1 g2 g3 g4 g5 rel hPL hPM hD hS hl nxt
      refine lv_tableOut (tgt := 889) hx hb d_law_40 (tsw18 t_0 t_1 t_2 t_3 t_4 t_5 t_6 t_7 t_8 t_9 t_10 t_11 t_12 t_13 t_14 t_15 t_16 t_17) (by decide) ?_
      refine W.widen (k := 33 + j + 1) (n := 1148 + 6 * j + 6) (Nat.le_add_right _ _) (Nat.le_add_right _ _) ?_
      exact nxt F A f G B H locs ls rel hPL hPM hD hS hl
set_option maxHeartbeats 4000000 in
set_option maxRecDepth 100000 in
theorem whole_at {p : Program} {e : Env} {s : State} {m : MethodId} {below : List Frame} {meth : Method} {c : Code} (l : Launch) (hl9 : l.stackTraces = false) {b L : Nat} {xs : Nat → Int32} (hL : L ≤ 3072) (C0 : lw_At p s m meth c b L xs) : W p l e room_1 s m #[Value.ref b] below meth c s.heap [] 0 0 (lw_Z below #[Value.ref b] s) (entryFrame m ([Value.ref b] : List Value).toArray 7) := by
  obtain ⟨hx, hb, hr, hml, hown, hts, hX, hbl, hlocks, hgv⟩ := id C0
  have hW : ∀ w ∈ WALL, w.before #[Value.ref b] s = true := fun w h => hts w (WALL_good w h).1
  have hA : ∀ q : Nat, s.heap.size ≤ q → (fun q : Nat => s.heap.size ≤ q) q := fun _ h => h
  have hXS := xs_start (A := fun q => s.heap.size ≤ q) hts hgv (fun a h => Nat.not_le.mpr h)
  have hNP := np_start hts
  obtain ⟨c0, iS0, hKn0⟩ := u_known (C := R_RS) (T := F_RS) (N := 6) (n := 6) hW i_RS (hW _ k_475)
  obtain ⟨c1, iS1, hKn1⟩ := u_known (C := R_Rb) (T := F_Rb) (N := 7) (n := 7) hW i_Rb (hW _ k_261)
  obtain ⟨c2, iS2, hKn2⟩ := u_known (C := R_Gr) (T := F_Gr) (N := 7) (n := 7) hW i_Gr (hW _ k_265)
  obtain ⟨c3, iS3, hKn3⟩ := u_known (C := R_Mo) (T := F_Mo) (N := 19) (n := 19) hW i_Mo (hW _ k_476)
  obtain ⟨dC, dI, hKc⟩ : ∃ (dC : Nat → ClassId) (dI : Nat → Nat → Nat), ∀ (k : Nat) (q : vw_C), classes[k]? = some q → u_Kn s q.1 q.2.1 q.2.2 (dC k) (dI k) := by
    refine ⟨fun k => if k = 0 then c0 else if k = 1 then c1 else if k = 2 then c2 else c3, fun k => if k = 0 then iS0 else if k = 1 then iS1 else if k = 2 then iS2 else iS3, ?_⟩
    intro k q hq
    match k, hq with
    | 0, hq => cases hq; exact hKn0
    | 1, hq => cases hq; exact hKn1
    | 2, hq => cases hq; exact hKn2
    | 3, hq => cases hq; exact hKn3
    | k + 4, hq => simp [classes] at hq
  have hS : va_S (fun q : Nat => s.heap.size ≤ q) s.heap s.heap [] := va_S.rf
  have hK : va_K (dC, dI) classes [] s := ⟨hKc, fun k q h => by simp at h⟩
  have hP : va_P (dC, dI) classes [] s.heap := fun k q h => by simp at h
  have hD : va_D (fun q : Nat => s.heap.size ≤ q) [] := ⟨fun i j p q h => by simp at h, fun k q h => by simp at h⟩
  have hl := lv_entry ([.ref b]) (n := 7) (Nat.le_of_ble_eq_true rfl)
  rw [lg_entry_eq]
  generalize (lg_sl ([.ref b]) ++ List.replicate (7 - (lg_sl ([.ref b])).length) Slot.unset).toArray = ls at hl ⊢
  have hl : lv_has ls 7 [(0, .ref b)] := hl
  refine va_new (ci := 0) (fs := [.int 0, .int 0, .null, .null, .null, .null]) (C := R_RS) (T := F_RS) (N := 6) hx hb hW i_RS t_RS t_RS_ok hown (hW _ k_477) (hW _ k_475) (hW _ k_15) hK hP hD hS hA rfl (fun j hj => by rcases (show j = 0 ∨ j = 1 ∨ j = 2 ∨ j = 3 ∨ j = 4 ∨ j = 5 by omega) with rfl | rfl | rfl | rfl | rfl | rfl <;> rfl) (Nat.le_of_ble_eq_true rfl) (Nat.le_of_ble_eq_true rfl) d_law_0 (fun q0 H hP hD hS => ?_)
  refine lv_dup hx hb d_law_3 rfl ?_
  have hP : va_P (dC, dI) classes [(q0, .inr (0, [.int 0, .int 0, .null, .null, .null, .null]))] H := hP
  have hD : va_D (fun q : Nat => s.heap.size ≤ q) [(q0, .inr (0, [.int 0, .int 0, .null, .null, .null, .null]))] := hD
  refine va_callv (va_runI (As := []) (rest := [.ref q0]) ⟨hx, hb, hml, hown, hW⟩ (c_RS_init l dC dI q0 H.size) (cwI 0 hW (gInI k_478) rfl rfl rfl (hW _ k_15) (hW _ k_479) (hW _ k_480) rfl (by decide +kernel) ⟨Nat.le_of_ble_eq_true rfl, Nat.le_of_ble_eq_true rfl⟩) ⟨np_blind, fun U hU hW9 => ⟨rfl, ⟨by rw [hU], by rw [hU]; exact hP, va_K.moved hW9.alike hK, hD.weaken (fun _ _ _ _ => trivial)⟩, hNP.warm hW9⟩⟩ rfl rfl hl.1 rfl (lv_room (Nat.le_of_ble_eq_true rfl)) d_law_4 ⟨Nat.le_of_ble_eq_true rfl, Nat.le_of_ble_eq_true rfl⟩) hS (fun q _ h => va_free (wc := [(q0, .inr (0, [.int 0, .int 0, .null, .null, .null, .null]))]) hD hS hA [0] rfl q h) (va_free (wc := [(q0, .inr (0, [.int 0, .int 0, .null, .null, .null, .null]))]) hD hS hA [0] rfl) (fun u t H1 locs ht hvm hw hB hz1 hk1 hS1 => ?_)
  have hFc := va_free (wc := [(q0, .inr (0, [.int 0, .int 0, .null, .null, .null, .null]))]) hD hS hA [0] rfl
  have hS := hS1
  obtain ⟨rC, kC⟩ := u
  have hq0 : rC 0 = q0 := hw
  obtain ⟨hPC, hKC, hDC⟩ := hB
  rw [ht] at hPC
  have hKC := va_K.moved hvm.symm hKC
  have hDC : va_D (fun q : Nat => s.heap.size ≤ q) (wC rC kC (fun _ => 0) (fun _ _ => 0)) := hDC.weaken (fun _ _ _ h => hFc _ h)
  have hPC : va_P (dC, dI) classes (wC rC kC (fun _ => 0) (fun _ _ => 0)) H1 := hPC
  rw [← hq0]
  generalize H1 = H at hPC hS ⊢
  refine lv_astore_n (lv' := [(1, .ref (rC 0)), (0, .ref b)]) hx hb d_law_7 rfl hl (by decide) rfl (fun ls hl => ?_)
  have hK := hKC
  have hP := hPC
  have hD := hDC
  refine va_new (ci := 3) (fs := [.int 0, .int 0, .int 0, .null, .null, .int 0, .null, .null, .null, .null, .null, .null, .int 0, .null, .null, .null, .null, .null, .null]) (C := R_Mo) (T := F_Mo) (N := 19) hx hb hW i_Mo t_Mo t_Mo_ok hown (hW _ k_481) (hW _ k_476) (hW _ k_193) hK hP hD hS hA rfl (fun j hj => by rcases (show j = 0 ∨ j = 1 ∨ j = 2 ∨ j = 3 ∨ j = 4 ∨ j = 5 ∨ j = 6 ∨ j = 7 ∨ j = 8 ∨ j = 9 ∨ j = 10 ∨ j = 11 ∨ j = 12 ∨ j = 13 ∨ j = 14 ∨ j = 15 ∨ j = 16 ∨ j = 17 ∨ j = 18 by omega) with rfl | rfl | rfl | rfl | rfl | rfl | rfl | rfl | rfl | rfl | rfl | rfl | rfl | rfl | rfl | rfl | rfl | rfl | rfl <;> rfl) (Nat.le_of_ble_eq_true rfl) (Nat.le_of_ble_eq_true rfl) d_law_8 (fun q1 H hP hD hS => ?_)
  refine lv_dup hx hb d_law_11 rfl ?_
  have hP : va_P (dC, dI) classes (wC rC kC (fun _ => 0) (fun _ _ => 0) ++ [(q1, .inr (3, [.int 0, .int 0, .int 0, .null, .null, .int 0, .null, .null, .null, .null, .null, .null, .int 0, .null, .null, .null, .null, .null, .null]))]) H := hP
  have hD : va_D (fun q : Nat => s.heap.size ≤ q) (wC rC kC (fun _ => 0) (fun _ _ => 0) ++ [(q1, .inr (3, [.int 0, .int 0, .int 0, .null, .null, .int 0, .null, .null, .null, .null, .null, .null, .int 0, .null, .null, .null, .null, .null, .null]))]) := hD
  have hPr := pPre hP
  have hPc := pSuf hP
  have hDc := dSuf hD
  have hK0 : va_K (dC, dI) classes [] s := hK.sub [] rfl
  have hFc := frA hDc hS hA
  refine va_callv (va_runI (As := []) (rest := [.ref q1]) ⟨hx, hb, hml, hown, hW⟩ (c_Mo_init l dC dI q1 H.size) (cwI 0 hW (gInI k_482) rfl rfl rfl (hW _ k_193) (hW _ k_483) (hW _ k_484) rfl (by decide +kernel) ⟨Nat.le_of_ble_eq_true rfl, Nat.le_of_ble_eq_true rfl⟩) ⟨SP.blind _, fun U hU hW9 => ⟨rfl, by rw [hU], by rw [hU]; exact hPc, va_K.moved hW9.alike hK0, hDc.weaken (fun _ _ _ _ => trivial)⟩⟩ rfl rfl hl.1 rfl (lv_room (Nat.le_of_ble_eq_true rfl)) d_law_12 ⟨Nat.le_of_ble_eq_true rfl, Nat.le_of_ble_eq_true rfl⟩) hS (fun q _ h => hFc q h) hFc (fun u t H1 locs ht hvm hw hB hz1 hk1 hS1 => ?_)
  have hS := hS1
  obtain ⟨hPm, hKm, hDm⟩ := hB
  rw [ht] at hPm
  have hKm := va_K.moved hvm.symm hKm
  obtain ⟨hPr, hD⟩ := joinR hPr hD hk1 hFc hDm
  obtain ⟨r2, hr2⟩ : ∃ z : Nat → Nat, z = fun j => match j with | 0 => q1 | j + 1 => u.1 j := ⟨_, rfl⟩
  obtain ⟨k2, hk2⟩ : ∃ z : Nat → ClassId, z = u.2 := ⟨_, rfl⟩
  have hPm : va_P (dC, dI) classes (wM r2 k2 (fun _ => 0) (fun _ _ => 0)) H1 := by rw [hr2, hk2]; exact hPm
  have hKm : va_K (dC, dI) classes (tM k2) s := by rw [hk2]; exact hKm
  have hD : va_D (fun q : Nat => s.heap.size ≤ q) (wC rC kC (fun _ => 0) (fun _ _ => 0) ++ wM r2 k2 (fun _ => 0) (fun _ _ => 0)) := by rw [hr2, hk2]; exact hD
  have hq1 : r2 0 = q1 := by rw [hr2]
  rw [← hq1]
  generalize H1 = H at hPr hPm hS ⊢
  refine lv_astore_n (lv' := [(2, .ref (r2 0)), (1, .ref (rC 0)), (0, .ref b)]) hx hb d_law_15 rfl hl (by decide) rfl (fun ls hl => ?_)
  refine lv_iconst (v := 1) hx hb d_law_16 (by decide) ?_
  have hP := pApp hPr hPm
  refine va_newa (atype := .long) (N' := 1) (a0 := (1, .inr (.inl (fun _ => 0)))) (ty := .long) (n := 1) hx hb (hW _ k_485) rfl hK hP hD hS hA (fun _ => rfl) (by decide) rfl (Nat.le_of_ble_eq_true rfl) (Nat.le_of_ble_eq_true rfl) (Nat.le_of_ble_eq_true rfl) d_law_17 (fun o kO H hK9 hP hD hS => ?_)
  have hPL : va_P (dC, dI) classes (wL rC kC (fun _ => 0) (fun _ _ => 0) o kO (fun _ => 0)) H := hP.sub [32, 0, 1, 2, 3, 4, 5, 6, 7, 8, 9, 10, 11, 12, 13, 14, 15, 16] rfl
  have hPM : va_P (dC, dI) classes (wM r2 k2 (fun _ => 0) (fun _ _ => 0)) H := hP.sub [17, 18, 19, 20, 21, 22, 23, 24, 25, 26, 27, 28, 29, 30, 31] rfl
  have hD : va_D (fun q : Nat => s.heap.size ≤ q) (wM r2 k2 (fun _ => 0) (fun _ _ => 0) ++ wL rC kC (fun _ => 0) (fun _ _ => 0) o kO (fun _ => 0)) := hD.sub [17, 18, 19, 20, 21, 22, 23, 24, 25, 26, 27, 28, 29, 30, 31, 32, 0, 1, 2, 3, 4, 5, 6, 7, 8, 9, 10, 11, 12, 13, 14, 15, 16] (by decide) rfl
  have hKL : va_K (dC, dI) classes (tL kC kO) s := hK9.sub [14, 0, 1, 2, 3, 4, 5, 6, 7, 8, 9, 10, 11, 12, 13] rfl
  refine lv_astore_n (lv' := [(3, .ref o), (2, .ref (r2 0)), (1, .ref (rC 0)), (0, .ref b)]) hx hb d_law_19 rfl hl (by decide) rfl (fun ls hl => ?_)
  refine lv_iconst (v := 0) hx hb d_law_20 (by decide) ?_
  refine lv_istore (lv' := [(4, .int 0), (3, .ref o), (2, .ref (r2 0)), (1, .ref (rC 0)), (0, .ref b)]) hx hb d_law_21 hl (by decide) rfl (fun ls hl => ?_)
  refine W.widen (k := 33 + 0) (n := 1148 + 6 * 0) (Nat.le_of_ble_eq_true rfl) (Nat.le_of_ble_eq_true rfl) ?_
  exact law_loop hl9 hL C0 hXS hKL hKm (L + 2) 0 (by omega) (by omega) _ _ _ _ _ _ _ ls lr_start hPL hPM hD hS (lv_sub hl [4, 3, 2, 1, 0] rfl)
set_option maxHeartbeats 4000000 in
theorem whole_start {p : Program} {e : Env} {s : State} {m : MethodId} {below : List Frame} {meth : Method} {c : Code} (l : Launch) (hl9 : l.stackTraces = false) {b L : Nat} {xs : Nat → Int32} (hL : L ≤ 3072) (C0 : lw_At p s m meth c b L xs) : W p l e room_1 s m #[Value.ref b] below meth c s.heap [] 0 0 (lw_Z below #[Value.ref b] s) (entryFrame m ([Value.ref b] : List Value).toArray 7) := whole_at l hl9 hL C0
