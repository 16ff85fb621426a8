def f_Mo_pass_L41 (F : Nat → Int32) (A : Nat → Nat → Int32) (tm : Int32) : Nat → (Nat → Nat → Int32) → Int32 → Int32 → Int32 × SC
  | 0, _, _, _ => (0, F, A)
  | n41 + 1, B, x2, x3 => if F 4 < x3 then (x2, (uF (uF F 0 0) 1 tm), B) else (if B 13 x3.toNatClampNeg = 0 then (if B 11 x3.toNatClampNeg ≤ tm then (f_Mo_pass_L41 F A tm n41 (uA B 13 (upd (B 13) x3.toNatClampNeg 4)) (x2 + 1) (x3 + 1)) else (f_Mo_pass_L41 F A tm n41 B x2 (x3 + 1))) else (f_Mo_pass_L41 F A tm n41 B x2 (x3 + 1)))
def f_Mo_pass (F : Nat → Int32) (A : Nat → Nat → Int32) (tm : Int32) : Int32 × SC := if f_Mo_in tm (F 1) 10000 = 0 then (0, (uF F 0 1), A) else (f_Mo_pass_L41 F A tm 64 A 0 1)
set_option maxHeartbeats 4000000 in
set_option maxRecDepth 100000 in
theorem c_Mo_pass (l : Launch) (dC : Nat → ClassId) (dI : Nat → Nat → Nat) (r : Nat → Nat) (k : Nat → ClassId) (F : Nat → Int32) (A : Nat → Nat → Int32) (sz : Nat) (tm : Int32) (hI : SI F) : Met l y_Mo_pass w_Mo_pass ({ frames := 1, cells := 0, slots := 0, locals := 22 }) (va_Pc [.ref (r 0), .int tm] (SP (dC, dI) (wM r k F A) (tM k) sz)) (va_Qi (fun v (u : SC) => (v, u) = f_Mo_pass F A tm) (fun (u : SC) t => aW (dC, dI) (tM k) (va_A (wM r k F A) sz) (wM r k u.1 u.2) t) (va_A (wM r k F A) sz)) 0 0 (va_A (wM r k F A) sz) := by
  refine Met.ofW (cc := b_Mo_pass) (maxL := 4) (ret := (some .int)) (by decide) rfl ?_
  intro p e s m args below meth c s₁ B hml hv0
  obtain ⟨rfl, hsz, hP, hK, hD0⟩ := hv0
  have hx := B.exec
  have hb := B.bytes
  have hr := B.returns
  have hts := atoms_spec (ws := w_Mo_pass) B.pre
  have hW : ∀ w ∈ WALL, w.before ([.ref (r 0), .int tm] : List Value).toArray s = true := fun w h => hts w (List.mem_cons_of_mem _ h)
  have hown : s.vm.findClass R_Mo = some m.cls := findClass_of_methodNamed B.named
  have hlocks := B.notSynchronized
  subst hsz
  have hD := hD0.self (sz := s.heap.size)
  generalize hAe : va_A (wM r k F A) s.heap.size = Ad at hD ⊢
  have hA : ∀ q : Nat, s.heap.size ≤ q → Ad q := fun q h => by rw [← hAe]; exact Or.inr h
  have hS : va_S Ad s.heap s.heap [] := va_S.rf
  have hl := lv_entry ([.ref (r 0), .int tm]) (n := 4) (Nat.le_of_ble_eq_true rfl)
  rw [lg_entry_eq]
  generalize (lg_sl ([.ref (r 0), .int tm]) ++ List.replicate (4 - (lg_sl ([.ref (r 0), .int tm])).length) Slot.unset).toArray = ls at hl ⊢
  have hl : lv_has ls 4 [(0, .ref (r 0)), (1, .int tm)] := hl
  obtain ⟨⟨hp0, hp1⟩, ⟨hr0, hr1⟩, hg0, hg1⟩ := id hI; have hr2 : (F 3).toInt ≤ 60 := Int.le_trans hr1 (by decide); have hp2 : (F 2).toInt ≤ 60 := Int.le_trans hp1 (by decide)
  have hv := f_Mo_pass.eq_1 F A tm
  refine lv_aload_n hx hb d_Mo_pass_0 rfl (lv_at hl 0 rfl) ?_
  refine lv_iload_n hx hb d_Mo_pass_1 rfl (lv_at hl 1 rfl) ?_
  refine lv_aload_n hx hb d_Mo_pass_2 rfl (lv_at hl 0 rfl) ?_
  refine va_get (D := (dC, dI)) (ci := 3) (v := .int (F 1)) (C := R_Mo) (T := F_Mo) (N := 19) hx hb hW i_Mo hown hK hP 0 rfl rfl 1 (by decide) (hW _ k_212) (fun _ h9 => h9) rfl d_Mo_pass_3 ?_
  refine lv_sipush (v := 10000) hx hb d_Mo_pass_6 (by decide) ?_
  refine rdS (rest := [.ref (r 0)]) ⟨hx, hb, hml, hown, hW⟩ (c_Mo_in l tm (F 1) 10000) (va_cwS 3 hW (gInS k_191 k_192 k_193 k_194) rfl rfl rfl (by decide +kernel) ⟨Nat.le_of_ble_eq_true rfl, Nat.le_of_ble_eq_true rfl⟩) rfl hl.1 rfl (Nat.le_of_ble_eq_true rfl) d_Mo_pass_9 ⟨Nat.zero_le _, Nat.zero_le _⟩ ?_
  refine lv_if_eq (tgt := 19) hx hb d_Mo_pass_12 (by decide) (fun c_1 => ?_) (fun c_1 => ?_)
  · have hv := hv.trans (if_pos c_1)
    refine lv_iconst (v := 1) hx hb d_Mo_pass_19 (by decide) ?_
    refine va_put (D := (dC, dI)) (ci := 3) (v := .int 1) (ty := .int) (C := R_Mo) (T := F_Mo) (N := 19) hx hb hW i_Mo t_Mo t_Mo_ok n_Mo hown hK hP hD hS 0 rfl rfl 0 (by decide) (hW _ k_189) (fun _ h9 => h9) rfl (by decide +kernel) rfl rfl (Nat.le_of_ble_eq_true rfl) d_Mo_pass_20 (fun H locs hP hD hS => ?_)
    have hP := pMF_0 hP
    have hD := dMF_0 hD
    refine lv_aload_n hx hb d_Mo_pass_23 rfl (lv_at hl 0 rfl) ?_
    refine va_get (D := (dC, dI)) (ci := 3) (v := .int 1) (C := R_Mo) (T := F_Mo) (N := 19) hx hb hW i_Mo hown hK hP 0 rfl rfl 0 (by decide) (hW _ k_189) (fun _ h9 => h9) rfl d_Mo_pass_24 ?_
    refine lv_if_le (tgt := 32) hx hb d_Mo_pass_27 (by decide) (fun h9 => absurd h9 (by decide)) (fun _ => ?_)
    refine lv_iconst (v := 0) hx hb d_Mo_pass_30 (by decide) ?_
    exact W.iret (v := 0) hx hb hr (fun t ht hW9 => ⟨⟨0, ((uF F 0 1), A), rfl, hv.symm, by rw [ht]; exact hP, va_K.moved hW9.alike hK, hD⟩, hS.F ht⟩) hS.2.2 d_Mo_pass_31
  · have hv := hv.trans (if_neg c_1)
    refine lv_iconst (v := 0) hx hb d_Mo_pass_15 (by decide) ?_
    refine lv_goto (tgt := 20) hx hb d_Mo_pass_16 (by decide) ?_
    refine va_put (D := (dC, dI)) (ci := 3) (v := .int 0) (ty := .int) (C := R_Mo) (T := F_Mo) (N := 19) hx hb hW i_Mo t_Mo t_Mo_ok n_Mo hown hK hP hD hS 0 rfl rfl 0 (by decide) (hW _ k_189) (fun _ h9 => h9) rfl (by decide +kernel) rfl rfl (Nat.le_of_ble_eq_true rfl) d_Mo_pass_20 (fun H locs hP hD hS => ?_)
    have hP := pMF_0 hP
    have hD := dMF_0 hD
    refine lv_aload_n hx hb d_Mo_pass_23 rfl (lv_at hl 0 rfl) ?_
    refine va_get (D := (dC, dI)) (ci := 3) (v := .int 0) (C := R_Mo) (T := F_Mo) (N := 19) hx hb hW i_Mo hown hK hP 0 rfl rfl 0 (by decide) (hW _ k_189) (fun _ h9 => h9) rfl d_Mo_pass_24 ?_
    refine lv_if_le (tgt := 32) hx hb d_Mo_pass_27 (by decide) (fun _ => ?_) (fun h9 => absurd h9 (by decide))
    refine lv_aload_n hx hb d_Mo_pass_32 rfl (lv_at hl 0 rfl) ?_
    refine lv_iload_n hx hb d_Mo_pass_33 rfl (lv_at hl 1 rfl) ?_
    refine va_put (D := (dC, dI)) (ci := 3) (v := .int tm) (ty := .int) (C := R_Mo) (T := F_Mo) (N := 19) hx hb hW i_Mo t_Mo t_Mo_ok n_Mo hown hK hP hD hS 0 rfl rfl 1 (by decide) (hW _ k_212) (fun _ h9 => h9) rfl (by decide +kernel) rfl rfl (Nat.le_of_ble_eq_true rfl) d_Mo_pass_34 (fun H locs hP hD hS => ?_)
    have hP := pMF_1 hP
    have hD := dMF_1 hD
    refine lv_iconst (v := 0) hx hb d_Mo_pass_37 (by decide) ?_
    refine lv_istore_n (lv' := [(2, .int 0), (0, .ref (r 0)), (1, .int tm)]) hx hb d_Mo_pass_38 rfl hl (by decide) rfl (fun ls hl => ?_)
    refine lv_iconst (v := 1) hx hb d_Mo_pass_39 (by decide) ?_
    refine lv_istore_n (lv' := [(3, .int 1), (2, .int 0), (0, .ref (r 0)), (1, .int tm)]) hx hb d_Mo_pass_40 rfl hl (by decide) rfl (fun ls hl => ?_)
    have loop41 : ∀ (n41 : Nat) (x2 : Int32) (x3 : Int32) (B : Nat → Nat → Int32) (H : Heap) (locs : List Loc) (ls : Array Slot), LA (F 4) x3 n41 → f_Mo_pass F A tm = f_Mo_pass_L41 F A tm n41 B x2 x3 → va_P (dC, dI) classes (wM r k (uF (uF F 0 0) 1 tm) B) H → va_D Ad (wM r k (uF (uF F 0 0) 1 tm) B) → va_S Ad s.heap H locs → lv_has ls 4 [(0, .ref (r 0)), (1, .int tm), (2, .int x2), (3, .int x3)] → W p l e (headSpec w_Mo_pass ({ frames := 1, cells := 0, slots := 0, locals := 22 })).room s m ([.ref (r 0), .int tm] : List Value).toArray below meth c H locs 0 0 (MQ below (va_Qi (fun v (u : SC) => (v, u) = f_Mo_pass F A tm) (fun (u : SC) t => aW (dC, dI) (tM k) Ad (wM r k u.1 u.2) t) Ad) ([.ref (r 0), .int tm] : List Value).toArray s 0 0 Ad) (F0 m 41 ls []) := by
      intro n41
      induction n41 with
      | zero => intro x2 x3 B H locs ls hlp; exact (hlp.z).elim
      | succ n41 ih41 =>
        intro x2 x3 B H locs ls hlp41 hv hP hD hS hl
        rw [f_Mo_pass_L41] at hv
        refine lv_iload_n hx hb d_Mo_pass_41 rfl (lv_at hl 3 rfl) ?_
        refine lv_aload_n hx hb d_Mo_pass_42 rfl (lv_at hl 0 rfl) ?_
        refine va_get (D := (dC, dI)) (ci := 3) (v := .int (F 4)) (C := R_Mo) (T := F_Mo) (N := 19) hx hb hW i_Mo hown hK hP 0 rfl rfl 12 (by decide) (hW _ k_196) (fun _ h9 => h9) rfl d_Mo_pass_43 ?_
        refine lv_icmp_gt (tgt := 90) hx hb d_Mo_pass_46 (by decide) (fun c_2 => ?_) (fun c_2 => ?_)
        · have hv := hv.trans (if_pos c_2)
          refine lv_iload_n hx hb d_Mo_pass_90 rfl (lv_at hl 2 rfl) ?_
          exact W.iret (v := x2) hx hb hr (fun t ht hW9 => ⟨⟨x2, ((uF (uF F 0 0) 1 tm), B), rfl, hv.symm, by rw [ht]; exact hP, va_K.moved hW9.alike hK, hD⟩, hS.F ht⟩) hS.2.2 d_Mo_pass_91
        · have hv := hv.trans (if_neg c_2)
          refine lv_aload_n hx hb d_Mo_pass_49 rfl (lv_at hl 0 rfl) ?_
          refine va_get (D := (dC, dI)) (ci := 3) (v := .ref (r 14)) (C := R_Mo) (T := F_Mo) (N := 19) hx hb hW i_Mo hown hK hP 0 rfl rfl 18 (by decide) (hW _ k_216) (fun _ h9 => h9) rfl d_Mo_pass_50 ?_
          refine lv_iload_n hx hb d_Mo_pass_53 rfl (lv_at hl 3 rfl) ?_
          refine va_iald hx hb hK hP 14 13 rfl rfl (LA.ix hlp41 c_2 hg1) d_Mo_pass_54 ?_
          refine lv_if_ne (tgt := 84) hx hb d_Mo_pass_55 (by decide) (fun c_3 => ?_) (fun c_3 => ?_)
          · have hv := hv.trans (if_neg c_3)
            refine lv_iinc (v := x3 + 1) (lv' := [(3, .int (x3 + 1)), (0, .ref (r 0)), (1, .int tm), (2, .int x2)]) hx hb d_Mo_pass_84 hl (k := 3) rfl rfl (by decide) rfl (fun ls hl => ?_)
            refine lv_goto (tgt := 41) hx hb d_Mo_pass_87 (by decide) ?_
            exact ih41 x2 (x3 + 1) B H locs ls (LA.s hlp41 c_2 hg1) hv hP hD hS (lv_sub hl [1, 2, 3, 0] rfl)
          · have hv := hv.trans (if_pos c_3)
            refine lv_aload_n hx hb d_Mo_pass_58 rfl (lv_at hl 0 rfl) ?_
            refine va_get (D := (dC, dI)) (ci := 3) (v := .ref (r 12)) (C := R_Mo) (T := F_Mo) (N := 19) hx hb hW i_Mo hown hK hP 0 rfl rfl 16 (by decide) (hW _ k_215) (fun _ h9 => h9) rfl d_Mo_pass_59 ?_
            refine lv_iload_n hx hb d_Mo_pass_62 rfl (lv_at hl 3 rfl) ?_
            refine va_iald hx hb hK hP 12 11 rfl rfl (LA.ix hlp41 c_2 hg1) d_Mo_pass_63 ?_
            refine lv_aload_n hx hb d_Mo_pass_64 rfl (lv_at hl 0 rfl) ?_
            refine va_get (D := (dC, dI)) (ci := 3) (v := .int tm) (C := R_Mo) (T := F_Mo) (N := 19) hx hb hW i_Mo hown hK hP 0 rfl rfl 1 (by decide) (hW _ k_212) (fun _ h9 => h9) rfl d_Mo_pass_65 ?_
            refine lv_icmp_le (tgt := 74) hx hb d_Mo_pass_68 (by decide) (fun c_4 => ?_) (fun c_4 => ?_)
            · have hv := hv.trans (if_pos c_4)
              refine lv_aload_n hx hb d_Mo_pass_74 rfl (lv_at hl 0 rfl) ?_
              refine va_get (D := (dC, dI)) (ci := 3) (v := .ref (r 14)) (C := R_Mo) (T := F_Mo) (N := 19) hx hb hW i_Mo hown hK hP 0 rfl rfl 18 (by decide) (hW _ k_216) (fun _ h9 => h9) rfl d_Mo_pass_75 ?_
              refine lv_iload_n hx hb d_Mo_pass_78 rfl (lv_at hl 3 rfl) ?_
              refine lv_iconst (v := 4) hx hb d_Mo_pass_79 (by decide) ?_
              refine va_iast hx hb hK hP hD hS 14 13 rfl rfl (LA.ix hlp41 c_2 hg1) d_Mo_pass_80 (fun H locs hP hD hS => ?_)
              have hP := pMA_13 hP
              have hD := dMA_13 hD
              generalize hAg1 : (uA B 13 (upd (B 13) x3.toNatClampNeg 4)) = A1_ at hP hD hv
              refine lv_iinc (v := x2 + 1) (lv' := [(2, .int (x2 + 1)), (0, .ref (r 0)), (1, .int tm), (3, .int x3)]) hx hb d_Mo_pass_81 hl (k := 2) rfl rfl (by decide) rfl (fun ls hl => ?_)
              refine lv_iinc (v := x3 + 1) (lv' := [(3, .int (x3 + 1)), (2, .int (x2 + 1)), (0, .ref (r 0)), (1, .int tm)]) hx hb d_Mo_pass_84 hl (k := 3) rfl rfl (by decide) rfl (fun ls hl => ?_)
              refine lv_goto (tgt := 41) hx hb d_Mo_pass_87 (by decide) ?_
              exact ih41 (x2 + 1) (x3 + 1) A1_ H locs ls (LA.s hlp41 c_2 hg1) hv hP hD hS (lv_sub hl [2, 3, 1, 0] rfl)
            · have hv := hv.trans (if_neg c_4)
              refine lv_goto (tgt := 84) hx hb d_Mo_pass_71 (by decide) ?_
              refine lv_iinc (v := x3 + 1) (lv' := [(3, .int (x3 + 1)), (0, .ref (r 0)), (1, .int tm), (2, .int x2)]) hx hb d_Mo_pass_84 hl (k := 3) rfl rfl (by decide) rfl (fun ls hl => ?_)
              refine lv_goto (tgt := 41) hx hb d_Mo_pass_87 (by decide) ?_
              exact ih41 x2 (x3 + 1) B H locs ls (LA.s hlp41 c_2 hg1) hv hP hD hS (lv_sub hl [1, 2, 3, 0] rfl)
    exact loop41 64 0 1 A H locs ls (LA.i hg0 hg1) hv hP hD hS (lv_sub hl [2, 3, 1, 0] rfl)
def f_Mo_holder_L61 (F : Nat → Int32) (A : Nat → Nat → Int32) (pc tm : Int32) : Nat → Int32 → Int32 × SC
  | 0, _ => (0, F, A)
  | n61 + 1, x3 => if F 4 < x3 then ((-1), (uF F 0 0), A) else (if A 9 x3.toNatClampNeg = pc then (if A 13 x3.toNatClampNeg = 0 then (if tm < A 10 x3.toNatClampNeg then (f_Mo_holder_L61 F A pc tm n61 (x3 + 1)) else (if A 11 x3.toNatClampNeg ≤ tm then (f_Mo_holder_L61 F A pc tm n61 (x3 + 1)) else (A 8 x3.toNatClampNeg, (uF F 0 0), A))) else (f_Mo_holder_L61 F A pc tm n61 (x3 + 1))) else (f_Mo_holder_L61 F A pc tm n61 (x3 + 1)))
def f_Mo_holder (F : Nat → Int32) (A : Nat → Nat → Int32) (pc tm : Int32) : Int32 × SC := if f_Mo_isPiece F A pc = 0 then (0, (uF F 0 1), A) else (if f_Mo_in tm (F 1) 10000 = 0 then (0, (uF F 0 2), A) else (if f_Mo_standing (uF F 0 0) A pc = (-1) then (f_Mo_holder_L61 F A pc tm 64 1) else (f_Mo_standing (uF F 0 0) A pc, (uF F 0 0), A)))
set_option maxHeartbeats 4000000 in
set_option maxRecDepth 100000 in
theorem c_Mo_holder (l : Launch) (dC : Nat → ClassId) (dI : Nat → Nat → Nat) (r : Nat → Nat) (k : Nat → ClassId) (F : Nat → Int32) (A : Nat → Nat → Int32) (sz : Nat) (pc tm : Int32) (hI : SI F) : Met l y_Mo_holder w_Mo_holder ({ frames := 2, cells := 0, slots := 0, locals := 43 }) (va_Pc [.ref (r 0), .int pc, .int tm] (SP (dC, dI) (wM r k F A) (tM k) sz)) (va_Qi (fun v (u : SC) => (v, u) = f_Mo_holder F A pc tm) (fun (u : SC) t => aW (dC, dI) (tM k) (va_A (wM r k F A) sz) (wM r k u.1 u.2) t) (va_A (wM r k F A) sz)) 0 0 (va_A (wM r k F A) sz) := by
  refine Met.ofW (cc := b_Mo_holder) (maxL := 4) (ret := (some .int)) (by decide) rfl ?_
  intro p e s m args below meth c s₁ B hml hv0
  obtain ⟨rfl, hsz, hP, hK, hD0⟩ := hv0
  have hx := B.exec
  have hb := B.bytes
  have hr := B.returns
  have hts := atoms_spec (ws := w_Mo_holder) B.pre
  have hW : ∀ w ∈ WALL, w.before ([.ref (r 0), .int pc, .int tm] : List Value).toArray s = true := fun w h => hts w (List.mem_cons_of_mem _ h)
  have hown : s.vm.findClass R_Mo = some m.cls := findClass_of_methodNamed B.named
  have hlocks := B.notSynchronized
  subst hsz
  have hD := hD0.self (sz := s.heap.size)
  generalize hAe : va_A (wM r k F A) s.heap.size = Ad at hD ⊢
  have hA : ∀ q : Nat, s.heap.size ≤ q → Ad q := fun q h => by rw [← hAe]; exact Or.inr h
  have hS : va_S Ad s.heap s.heap [] := va_S.rf
  have hl := lv_entry ([.ref (r 0), .int pc, .int tm]) (n := 4) (Nat.le_of_ble_eq_true rfl)
  rw [lg_entry_eq]
  generalize (lg_sl ([.ref (r 0), .int pc, .int tm]) ++ List.replicate (4 - (lg_sl ([.ref (r 0), .int pc, .int tm])).length) Slot.unset).toArray = ls at hl ⊢
  have hl : lv_has ls 4 [(0, .ref (r 0)), (1, .int pc), (2, .int tm)] := hl
  obtain ⟨⟨hp0, hp1⟩, ⟨hr0, hr1⟩, hg0, hg1⟩ := id hI; have hr2 : (F 3).toInt ≤ 60 := Int.le_trans hr1 (by decide); have hp2 : (F 2).toInt ≤ 60 := Int.le_trans hp1 (by decide)
  have hv := f_Mo_holder.eq_1 F A pc tm
  refine lv_aload_n hx hb d_Mo_holder_0 rfl (lv_at hl 0 rfl) ?_
  refine lv_aload_n hx hb d_Mo_holder_1 rfl (lv_at hl 0 rfl) ?_
  refine lv_iload_n hx hb d_Mo_holder_2 rfl (lv_at hl 1 rfl) ?_
  refine rdV ⟨hx, hb, hml, hown, hW⟩ (c_Mo_isPiece l dC dI r k F A pc  ) (cwV 1 hW (gIn k_197 k_198 k_199 k_193 k_200) rfl rfl rfl (by decide +kernel) ⟨Nat.le_of_ble_eq_true rfl, Nat.le_of_ble_eq_true rfl⟩) hK hP (va_recv hK hP (ci := 3) (q0 := 0) rfl rfl) rfl hl.1 rfl (Nat.le_of_ble_eq_true rfl) d_Mo_holder_3 ⟨Nat.zero_le _, Nat.zero_le _⟩ ?_
  refine lv_if_ne (tgt := 13) hx hb d_Mo_holder_6 (by decide) (fun c_1 => ?_) (fun c_1 => ?_)
  · have hv := hv.trans (if_neg c_1)
    refine lv_iload_n hx hb d_Mo_holder_13 rfl (lv_at hl 2 rfl) ?_
    refine lv_aload_n hx hb d_Mo_holder_14 rfl (lv_at hl 0 rfl) ?_
    refine va_get (D := (dC, dI)) (ci := 3) (v := .int (F 1)) (C := R_Mo) (T := F_Mo) (N := 19) hx hb hW i_Mo hown hK hP 0 rfl rfl 1 (by decide) (hW _ k_212) (fun _ h9 => h9) rfl d_Mo_holder_15 ?_
    refine lv_sipush (v := 10000) hx hb d_Mo_holder_18 (by decide) ?_
    refine rdS (rest := [.ref (r 0)]) ⟨hx, hb, hml, hown, hW⟩ (c_Mo_in l tm (F 1) 10000) (va_cwS 3 hW (gInS k_191 k_192 k_193 k_194) rfl rfl rfl (by decide +kernel) ⟨Nat.le_of_ble_eq_true rfl, Nat.le_of_ble_eq_true rfl⟩) rfl hl.1 rfl (Nat.le_of_ble_eq_true rfl) d_Mo_holder_21 ⟨Nat.zero_le _, Nat.zero_le _⟩ ?_
    refine lv_if_ne (tgt := 31) hx hb d_Mo_holder_24 (by decide) (fun c_2 => ?_) (fun c_2 => ?_)
    · have hv := hv.trans (if_neg c_2)
      refine lv_iconst (v := 0) hx hb d_Mo_holder_31 (by decide) ?_
      refine va_put (D := (dC, dI)) (ci := 3) (v := .int 0) (ty := .int) (C := R_Mo) (T := F_Mo) (N := 19) hx hb hW i_Mo t_Mo t_Mo_ok n_Mo hown hK hP hD hS 0 rfl rfl 0 (by decide) (hW _ k_189) (fun _ h9 => h9) rfl (by decide +kernel) rfl rfl (Nat.le_of_ble_eq_true rfl) d_Mo_holder_32 (fun H locs hP hD hS => ?_)
      have hP := pMF_0 hP
      have hD := dMF_0 hD
      refine lv_aload_n hx hb d_Mo_holder_35 rfl (lv_at hl 0 rfl) ?_
      refine va_get (D := (dC, dI)) (ci := 3) (v := .int 0) (C := R_Mo) (T := F_Mo) (N := 19) hx hb hW i_Mo hown hK hP 0 rfl rfl 0 (by decide) (hW _ k_189) (fun _ h9 => h9) rfl d_Mo_holder_36 ?_
      refine lv_if_le (tgt := 44) hx hb d_Mo_holder_39 (by decide) (fun _ => ?_) (fun h9 => absurd h9 (by decide))
      refine lv_aload_n hx hb d_Mo_holder_44 rfl (lv_at hl 0 rfl) ?_
      refine lv_iload_n hx hb d_Mo_holder_45 rfl (lv_at hl 1 rfl) ?_
      refine rdV ⟨hx, hb, hml, hown, hW⟩ (c_Mo_standing l dC dI r k (uF F 0 0) A pc hI ) (cwV 1 hW (gIn k_204 k_205 k_206 k_193 k_207) rfl rfl rfl (by decide +kernel) ⟨Nat.le_of_ble_eq_true rfl, Nat.le_of_ble_eq_true rfl⟩) hK hP (va_recv hK hP (ci := 3) (q0 := 0) rfl rfl) rfl hl.1 rfl (Nat.le_of_ble_eq_true rfl) d_Mo_holder_46 ⟨Nat.zero_le _, Nat.zero_le _⟩ ?_
      refine lv_iconst (v := (-1)) hx hb d_Mo_holder_49 (by decide) ?_
      refine lv_icmp_eq (tgt := 59) hx hb d_Mo_holder_50 (by decide) (fun c_3 => ?_) (fun c_3 => ?_)
      · have hv := hv.trans (if_pos c_3)
        refine lv_iconst (v := 1) hx hb d_Mo_holder_59 (by decide) ?_
        refine lv_istore_n (lv' := [(3, .int 1), (0, .ref (r 0)), (1, .int pc), (2, .int tm)]) hx hb d_Mo_holder_60 rfl hl (by decide) rfl (fun ls hl => ?_)
        have loop61 : ∀ (n61 : Nat) (x3 : Int32) (ls : Array Slot), LA (F 4) x3 n61 → f_Mo_holder F A pc tm = f_Mo_holder_L61 F A pc tm n61 x3 → lv_has ls 4 [(0, .ref (r 0)), (1, .int pc), (2, .int tm), (3, .int x3)] → W p l e (headSpec w_Mo_holder ({ frames := 2, cells := 0, slots := 0, locals := 43 })).room s m ([.ref (r 0), .int pc, .int tm] : List Value).toArray below meth c H locs 0 0 (MQ below (va_Qi (fun v (u : SC) => (v, u) = f_Mo_holder F A pc tm) (fun (u : SC) t => aW (dC, dI) (tM k) Ad (wM r k u.1 u.2) t) Ad) ([.ref (r 0), .int pc, .int tm] : List Value).toArray s 0 0 Ad) (F0 m 61 ls []) := by
          intro n61
          induction n61 with
          | zero => intro x3 ls hlp; exact (hlp.z).elim
          | succ n61 ih61 =>
            intro x3 ls hlp61 hv hl
            rw [f_Mo_holder_L61] at hv
            refine lv_iload_n hx hb d_Mo_holder_61 rfl (lv_at hl 3 rfl) ?_
            refine lv_aload_n hx hb d_Mo_holder_62 rfl (lv_at hl 0 rfl) ?_
            refine va_get (D := (dC, dI)) (ci := 3) (v := .int (F 4)) (C := R_Mo) (T := F_Mo) (N := 19) hx hb hW i_Mo hown hK hP 0 rfl rfl 12 (by decide) (hW _ k_196) (fun _ h9 => h9) rfl d_Mo_holder_63 ?_
            refine lv_icmp_gt (tgt := 121) hx hb d_Mo_holder_66 (by decide) (fun c_4 => ?_) (fun c_4 => ?_)
            · have hv := hv.trans (if_pos c_4)
              refine lv_iconst (v := (-1)) hx hb d_Mo_holder_121 (by decide) ?_
              exact W.iret (v := (-1)) hx hb hr (fun t ht hW9 => ⟨⟨(-1), ((uF F 0 0), A), rfl, hv.symm, by rw [ht]; exact hP, va_K.moved hW9.alike hK, hD⟩, hS.F ht⟩) hS.2.2 d_Mo_holder_122
            · have hv := hv.trans (if_neg c_4)
              refine lv_aload_n hx hb d_Mo_holder_69 rfl (lv_at hl 0 rfl) ?_
              refine va_get (D := (dC, dI)) (ci := 3) (v := .ref (r 10)) (C := R_Mo) (T := F_Mo) (N := 19) hx hb hW i_Mo hown hK hP 0 rfl rfl 14 (by decide) (hW _ k_213) (fun _ h9 => h9) rfl d_Mo_holder_70 ?_
              refine lv_iload_n hx hb d_Mo_holder_73 rfl (lv_at hl 3 rfl) ?_
              refine va_iald hx hb hK hP 10 9 rfl rfl (LA.ix hlp61 c_4 hg1) d_Mo_holder_74 ?_
              refine lv_iload_n hx hb d_Mo_holder_75 rfl (lv_at hl 1 rfl) ?_
              refine lv_icmp_ne (tgt := 115) hx hb d_Mo_holder_76 (by decide) (fun c_5 => ?_) (fun c_5 => ?_)
              · have hv := hv.trans (if_neg c_5)
                refine lv_iinc (v := x3 + 1) (lv' := [(3, .int (x3 + 1)), (0, .ref (r 0)), (1, .int pc), (2, .int tm)]) hx hb d_Mo_holder_115 hl (k := 3) rfl rfl (by decide) rfl (fun ls hl => ?_)
                refine lv_goto (tgt := 61) hx hb d_Mo_holder_118 (by decide) ?_
                exact ih61 (x3 + 1) ls (LA.s hlp61 c_4 hg1) hv (lv_sub hl [1, 2, 3, 0] rfl)
              · have hv := hv.trans (if_pos c_5)
                refine lv_aload_n hx hb d_Mo_holder_79 rfl (lv_at hl 0 rfl) ?_
                refine va_get (D := (dC, dI)) (ci := 3) (v := .ref (r 14)) (C := R_Mo) (T := F_Mo) (N := 19) hx hb hW i_Mo hown hK hP 0 rfl rfl 18 (by decide) (hW _ k_216) (fun _ h9 => h9) rfl d_Mo_holder_80 ?_
                refine lv_iload_n hx hb d_Mo_holder_83 rfl (lv_at hl 3 rfl) ?_
                refine va_iald hx hb hK hP 14 13 rfl rfl (LA.ix hlp61 c_4 hg1) d_Mo_holder_84 ?_
                refine lv_if_ne (tgt := 115) hx hb d_Mo_holder_85 (by decide) (fun c_6 => ?_) (fun c_6 => ?_)
                · have hv := hv.trans (if_neg c_6)
                  refine lv_iinc (v := x3 + 1) (lv' := [(3, .int (x3 + 1)), (0, .ref (r 0)), (1, .int pc), (2, .int tm)]) hx hb d_Mo_holder_115 hl (k := 3) rfl rfl (by decide) rfl (fun ls hl => ?_)
                  refine lv_goto (tgt := 61) hx hb d_Mo_holder_118 (by decide) ?_
                  exact ih61 (x3 + 1) ls (LA.s hlp61 c_4 hg1) hv (lv_sub hl [1, 2, 3, 0] rfl)
                · have hv := hv.trans (if_pos c_6)
                  refine lv_aload_n hx hb d_Mo_holder_88 rfl (lv_at hl 0 rfl) ?_
                  refine va_get (D := (dC, dI)) (ci := 3) (v := .ref (r 11)) (C := R_Mo) (T := F_Mo) (N := 19) hx hb hW i_Mo hown hK hP 0 rfl rfl 15 (by decide) (hW _ k_214) (fun _ h9 => h9) rfl d_Mo_holder_89 ?_
                  refine lv_iload_n hx hb d_Mo_holder_92 rfl (lv_at hl 3 rfl) ?_
                  refine va_iald hx hb hK hP 11 10 rfl rfl (LA.ix hlp61 c_4 hg1) d_Mo_holder_93 ?_
                  refine lv_iload_n hx hb d_Mo_holder_94 rfl (lv_at hl 2 rfl) ?_
                  refine lv_icmp_gt (tgt := 115) hx hb d_Mo_holder_95 (by decide) (fun c_7 => ?_) (fun c_7 => ?_)
                  · have hv := hv.trans (if_pos c_7)
                    refine lv_iinc (v := x3 + 1) (lv' := [(3, .int (x3 + 1)), (0, .ref (r 0)), (1, .int pc), (2, .int tm)]) hx hb d_Mo_holder_115 hl (k := 3) rfl rfl (by decide) rfl (fun ls hl => ?_)
                    refine lv_goto (tgt := 61) hx hb d_Mo_holder_118 (by decide) ?_
                    exact ih61 (x3 + 1) ls (LA.s hlp61 c_4 hg1) hv (lv_sub hl [1, 2, 3, 0] rfl)
                  · have hv := hv.trans (if_neg c_7)
                    refine lv_iload_n hx hb d_Mo_holder_98 rfl (lv_at hl 2 rfl) ?_
                    refine lv_aload_n hx hb d_Mo_holder_99 rfl (lv_at hl 0 rfl) ?_
                    refine va_get (D := (dC, dI)) (ci := 3) (v := .ref (r 12)) (C := R_Mo) (T := F_Mo) (N := 19) hx hb hW i_Mo hown hK hP 0 rfl rfl 16 (by decide) (hW _ k_215) (fun _ h9 => h9) rfl d_Mo_holder_100 ?_
                    refine lv_iload_n hx hb d_Mo_holder_103 rfl (lv_at hl 3 rfl) ?_
                    refine va_iald hx hb hK hP 12 11 rfl rfl (LA.ix hlp61 c_4 hg1) d_Mo_holder_104 ?_
                    refine lv_icmp_ge (tgt := 115) hx hb d_Mo_holder_105 (by decide) (fun c_8 => ?_) (fun c_8 => ?_)
                    · have hv := hv.trans (if_pos c_8)
                      refine lv_iinc (v := x3 + 1) (lv' := [(3, .int (x3 + 1)), (0, .ref (r 0)), (1, .int pc), (2, .int tm)]) hx hb d_Mo_holder_115 hl (k := 3) rfl rfl (by decide) rfl (fun ls hl => ?_)
                      refine lv_goto (tgt := 61) hx hb d_Mo_holder_118 (by decide) ?_
                      exact ih61 (x3 + 1) ls (LA.s hlp61 c_4 hg1) hv (lv_sub hl [1, 2, 3, 0] rfl)
                    · have hv := hv.trans (if_neg c_8)
                      refine lv_aload_n hx hb d_Mo_holder_108 rfl (lv_at hl 0 rfl) ?_
                      refine va_get (D := (dC, dI)) (ci := 3) (v := .ref (r 9)) (C := R_Mo) (T := F_Mo) (N := 19) hx hb hW i_Mo hown hK hP 0 rfl rfl 13 (by decide) (hW _ k_217) (fun _ h9 => h9) rfl d_Mo_holder_109 ?_
                      refine lv_iload_n hx hb d_Mo_holder_112 rfl (lv_at hl 3 rfl) ?_
                      refine va_iald hx hb hK hP 9 8 rfl rfl (LA.ix hlp61 c_4 hg1) d_Mo_holder_113 ?_
                      exact W.iret (v := A 8 x3.toNatClampNeg) hx hb hr (fun t ht hW9 => ⟨⟨A 8 x3.toNatClampNeg, ((uF F 0 0), A), rfl, hv.symm, by rw [ht]; exact hP, va_K.moved hW9.alike hK, hD⟩, hS.F ht⟩) hS.2.2 d_Mo_holder_114
        exact loop61 64 1 ls (LA.i hg0 hg1) hv (lv_sub hl [1, 2, 3, 0] rfl)
      · have hv := hv.trans (if_neg c_3)
        refine lv_aload_n hx hb d_Mo_holder_53 rfl (lv_at hl 0 rfl) ?_
        refine lv_iload_n hx hb d_Mo_holder_54 rfl (lv_at hl 1 rfl) ?_
        refine rdV ⟨hx, hb, hml, hown, hW⟩ (c_Mo_standing l dC dI r k (uF F 0 0) A pc hI ) (cwV 1 hW (gIn k_204 k_205 k_206 k_193 k_207) rfl rfl rfl (by decide +kernel) ⟨Nat.le_of_ble_eq_true rfl, Nat.le_of_ble_eq_true rfl⟩) hK hP (va_recv hK hP (ci := 3) (q0 := 0) rfl rfl) rfl hl.1 rfl (Nat.le_of_ble_eq_true rfl) d_Mo_holder_55 ⟨Nat.zero_le _, Nat.zero_le _⟩ ?_
        exact W.iret (v := f_Mo_standing (uF F 0 0) A pc) hx hb hr (fun t ht hW9 => ⟨⟨f_Mo_standing (uF F 0 0) A pc, ((uF F 0 0), A), rfl, hv.symm, by rw [ht]; exact hP, va_K.moved hW9.alike hK, hD⟩, hS.F ht⟩) hS.2.2 d_Mo_holder_58
    · have hv := hv.trans (if_pos c_2)
      refine lv_iconst (v := 2) hx hb d_Mo_holder_27 (by decide) ?_
      refine lv_goto (tgt := 32) hx hb d_Mo_holder_28 (by decide) ?_
      refine va_put (D := (dC, dI)) (ci := 3) (v := .int 2) (ty := .int) (C := R_Mo) (T := F_Mo) (N := 19) hx hb hW i_Mo t_Mo t_Mo_ok n_Mo hown hK hP hD hS 0 rfl rfl 0 (by decide) (hW _ k_189) (fun _ h9 => h9) rfl (by decide +kernel) rfl rfl (Nat.le_of_ble_eq_true rfl) d_Mo_holder_32 (fun H locs hP hD hS => ?_)
      have hP := pMF_0 hP
      have hD := dMF_0 hD
      refine lv_aload_n hx hb d_Mo_holder_35 rfl (lv_at hl 0 rfl) ?_
      refine va_get (D := (dC, dI)) (ci := 3) (v := .int 2) (C := R_Mo) (T := F_Mo) (N := 19) hx hb hW i_Mo hown hK hP 0 rfl rfl 0 (by decide) (hW _ k_189) (fun _ h9 => h9) rfl d_Mo_holder_36 ?_
      refine lv_if_le (tgt := 44) hx hb d_Mo_holder_39 (by decide) (fun h9 => absurd h9 (by decide)) (fun _ => ?_)
      refine lv_iconst (v := 0) hx hb d_Mo_holder_42 (by decide) ?_
      exact W.iret (v := 0) hx hb hr (fun t ht hW9 => ⟨⟨0, ((uF F 0 2), A), rfl, hv.symm, by rw [ht]; exact hP, va_K.moved hW9.alike hK, hD⟩, hS.F ht⟩) hS.2.2 d_Mo_holder_43
  · have hv := hv.trans (if_pos c_1)
    refine lv_iconst (v := 1) hx hb d_Mo_holder_9 (by decide) ?_
    refine lv_goto (tgt := 32) hx hb d_Mo_holder_10 (by decide) ?_
    refine va_put (D := (dC, dI)) (ci := 3) (v := .int 1) (ty := .int) (C := R_Mo) (T := F_Mo) (N := 19) hx hb hW i_Mo t_Mo t_Mo_ok n_Mo hown hK hP hD hS 0 rfl rfl 0 (by decide) (hW _ k_189) (fun _ h9 => h9) rfl (by decide +kernel) rfl rfl (Nat.le_of_ble_eq_true rfl) d_Mo_holder_32 (fun H locs hP hD hS => ?_)
    have hP := pMF_0 hP
    have hD := dMF_0 hD
    refine lv_aload_n hx hb d_Mo_holder_35 rfl (lv_at hl 0 rfl) ?_
    refine va_get (D := (dC, dI)) (ci := 3) (v := .int 1) (C := R_Mo) (T := F_Mo) (N := 19) hx hb hW i_Mo hown hK hP 0 rfl rfl 0 (by decide) (hW _ k_189) (fun _ h9 => h9) rfl d_Mo_holder_36 ?_
    refine lv_if_le (tgt := 44) hx hb d_Mo_holder_39 (by decide) (fun h9 => absurd h9 (by decide)) (fun _ => ?_)
    refine lv_iconst (v := 0) hx hb d_Mo_holder_42 (by decide) ?_
    exact W.iret (v := 0) hx hb hr (fun t ht hW9 => ⟨⟨0, ((uF F 0 1), A), rfl, hv.symm, by rw [ht]; exact hP, va_K.moved hW9.alike hK, hD⟩, hS.F ht⟩) hS.2.2 d_Mo_holder_43
def f_Mo_told (F : Nat → Int32) (A : Nat → Nat → Int32) (rb wh : Int32) : Int32 × SC := if f_Mo_isRobot F A rb = 0 then (0, (uF F 0 1), A) else (if f_Mo_in wh 0 6 = 0 then (0, (uF F 0 2), A) else (if wh = 0 then (A 2 rb.toNatClampNeg, (uF F 0 0), A) else (if wh = 1 then (A 4 rb.toNatClampNeg, (uF F 0 0), A) else (if wh = 2 then (A 5 rb.toNatClampNeg, (uF F 0 0), A) else (if wh = 3 then (f_Mo_liveOf (uF F 0 0) A rb, (uF F 0 0), A) else (if wh = 6 then (A 6 rb.toNatClampNeg, (uF F 0 0), A) else (if wh = 4 then (if A 7 rb.toNatClampNeg = 0 then (0, (uF F 0 0), A) else (1, (uF F 0 0), A)) else (if f_Mo_isSilent (uF F 0 0) A rb = 0 then (0, (uF F 0 0), A) else (1, (uF F 0 0), A)))))))))
set_option maxHeartbeats 4000000 in
set_option maxRecDepth 100000 in
theorem c_Mo_told (l : Launch) (dC : Nat → ClassId) (dI : Nat → Nat → Nat) (r : Nat → Nat) (k : Nat → ClassId) (F : Nat → Int32) (A : Nat → Nat → Int32) (sz : Nat) (rb wh : Int32) (hI : SI F) : Met l y_Mo_told w_Mo_told ({ frames := 2, cells := 0, slots := 0, locals := 43 }) (va_Pc [.ref (r 0), .int rb, .int wh] (SP (dC, dI) (wM r k F A) (tM k) sz)) (va_Qi (fun v (u : SC) => (v, u) = f_Mo_told F A rb wh) (fun (u : SC) t => aW (dC, dI) (tM k) (va_A (wM r k F A) sz) (wM r k u.1 u.2) t) (va_A (wM r k F A) sz)) 0 0 (va_A (wM r k F A) sz) := by
  refine Met.ofW (cc := b_Mo_told) (maxL := 3) (ret := (some .int)) (by decide) rfl ?_
  intro p e s m args below meth c s₁ B hml hv0
  obtain ⟨rfl, hsz, hP, hK, hD0⟩ := hv0
  have hx := B.exec
  have hb := B.bytes
  have hr := B.returns
  have hts := atoms_spec (ws := w_Mo_told) B.pre
  have hW : ∀ w ∈ WALL, w.before ([.ref (r 0), .int rb, .int wh] : List Value).toArray s = true := fun w h => hts w (List.mem_cons_of_mem _ h)
  have hown : s.vm.findClass R_Mo = some m.cls := findClass_of_methodNamed B.named
  have hlocks := B.notSynchronized
  subst hsz
  have hD := hD0.self (sz := s.heap.size)
  generalize hAe : va_A (wM r k F A) s.heap.size = Ad at hD ⊢
  have hA : ∀ q : Nat, s.heap.size ≤ q → Ad q := fun q h => by rw [← hAe]; exact Or.inr h
  have hS : va_S Ad s.heap s.heap [] := va_S.rf
  have hl := lv_entry ([.ref (r 0), .int rb, .int wh]) (n := 3) (Nat.le_of_ble_eq_true rfl)
  rw [lg_entry_eq]
  generalize (lg_sl ([.ref (r 0), .int rb, .int wh]) ++ List.replicate (3 - (lg_sl ([.ref (r 0), .int rb, .int wh])).length) Slot.unset).toArray = ls at hl ⊢
  have hl : lv_has ls 3 [(0, .ref (r 0)), (1, .int rb), (2, .int wh)] := hl
  obtain ⟨⟨hp0, hp1⟩, ⟨hr0, hr1⟩, hg0, hg1⟩ := id hI; have hr2 : (F 3).toInt ≤ 60 := Int.le_trans hr1 (by decide); have hp2 : (F 2).toInt ≤ 60 := Int.le_trans hp1 (by decide)
  have hv := f_Mo_told.eq_1 F A rb wh
  refine lv_aload_n hx hb d_Mo_told_0 rfl (lv_at hl 0 rfl) ?_
  refine lv_aload_n hx hb d_Mo_told_1 rfl (lv_at hl 0 rfl) ?_
  refine lv_iload_n hx hb d_Mo_told_2 rfl (lv_at hl 1 rfl) ?_
  refine rdV ⟨hx, hb, hml, hown, hW⟩ (c_Mo_isRobot l dC dI r k F A rb  ) (cwV 1 hW (gIn k_222 k_223 k_224 k_193 k_225) rfl rfl rfl (by decide +kernel) ⟨Nat.le_of_ble_eq_true rfl, Nat.le_of_ble_eq_true rfl⟩) hK hP (va_recv hK hP (ci := 3) (q0 := 0) rfl rfl) rfl hl.1 rfl (Nat.le_of_ble_eq_true rfl) d_Mo_told_3 ⟨Nat.zero_le _, Nat.zero_le _⟩ ?_
  refine lv_if_ne (tgt := 13) hx hb d_Mo_told_6 (by decide) (fun c_1 => ?_) (fun c_1 => ?_)
  · have hv := hv.trans (if_neg c_1)
    refine lv_iload_n hx hb d_Mo_told_13 rfl (lv_at hl 2 rfl) ?_
    refine lv_iconst (v := 0) hx hb d_Mo_told_14 (by decide) ?_
    refine lv_bipush (v := 6) hx hb d_Mo_told_15 (by decide) ?_
    refine rdS (rest := [.ref (r 0)]) ⟨hx, hb, hml, hown, hW⟩ (c_Mo_in l wh 0 6) (va_cwS 3 hW (gInS k_191 k_192 k_193 k_194) rfl rfl rfl (by decide +kernel) ⟨Nat.le_of_ble_eq_true rfl, Nat.le_of_ble_eq_true rfl⟩) rfl hl.1 rfl (Nat.le_of_ble_eq_true rfl) d_Mo_told_17 ⟨Nat.zero_le _, Nat.zero_le _⟩ ?_
    refine lv_if_ne (tgt := 27) hx hb d_Mo_told_20 (by decide) (fun c_2 => ?_) (fun c_2 => ?_)
    · have hv := hv.trans (if_neg c_2)
      refine lv_iconst (v := 0) hx hb d_Mo_told_27 (by decide) ?_
      refine va_put (D := (dC, dI)) (ci := 3) (v := .int 0) (ty := .int) (C := R_Mo) (T := F_Mo) (N := 19) hx hb hW i_Mo t_Mo t_Mo_ok n_Mo hown hK hP hD hS 0 rfl rfl 0 (by decide) (hW _ k_189) (fun _ h9 => h9) rfl (by decide +kernel) rfl rfl (Nat.le_of_ble_eq_true rfl) d_Mo_told_28 (fun H locs hP hD hS => ?_)
      have hP := pMF_0 hP
      have hD := dMF_0 hD
      refine lv_aload_n hx hb d_Mo_told_31 rfl (lv_at hl 0 rfl) ?_
      refine va_get (D := (dC, dI)) (ci := 3) (v := .int 0) (C := R_Mo) (T := F_Mo) (N := 19) hx hb hW i_Mo hown hK hP 0 rfl rfl 0 (by decide) (hW _ k_189) (fun _ h9 => h9) rfl d_Mo_told_32 ?_
      refine lv_if_le (tgt := 40) hx hb d_Mo_told_35 (by decide) (fun _ => ?_) (fun h9 => absurd h9 (by decide))
      refine lv_iload_n hx hb d_Mo_told_40 rfl (lv_at hl 2 rfl) ?_
      refine lv_if_ne (tgt := 51) hx hb d_Mo_told_41 (by decide) (fun c_3 => ?_) (fun c_3 => ?_)
      · have hv := hv.trans (if_neg c_3)
        refine lv_iload_n hx hb d_Mo_told_51 rfl (lv_at hl 2 rfl) ?_
        refine lv_iconst (v := 1) hx hb d_Mo_told_52 (by decide) ?_
        refine lv_icmp_ne (tgt := 63) hx hb d_Mo_told_53 (by decide) (fun c_4 => ?_) (fun c_4 => ?_)
        · have hv := hv.trans (if_neg c_4)
          refine lv_iload_n hx hb d_Mo_told_63 rfl (lv_at hl 2 rfl) ?_
          refine lv_iconst (v := 2) hx hb d_Mo_told_64 (by decide) ?_
          refine lv_icmp_ne (tgt := 75) hx hb d_Mo_told_65 (by decide) (fun c_5 => ?_) (fun c_5 => ?_)
          · have hv := hv.trans (if_neg c_5)
            refine lv_iload_n hx hb d_Mo_told_75 rfl (lv_at hl 2 rfl) ?_
            refine lv_iconst (v := 3) hx hb d_Mo_told_76 (by decide) ?_
            refine lv_icmp_ne (tgt := 86) hx hb d_Mo_told_77 (by decide) (fun c_6 => ?_) (fun c_6 => ?_)
            · have hv := hv.trans (if_neg c_6)
              refine lv_iload_n hx hb d_Mo_told_86 rfl (lv_at hl 2 rfl) ?_
              refine lv_bipush (v := 6) hx hb d_Mo_told_87 (by decide) ?_
              refine lv_icmp_ne (tgt := 99) hx hb d_Mo_told_89 (by decide) (fun c_7 => ?_) (fun c_7 => ?_)
              · have hv := hv.trans (if_neg c_7)
                refine lv_iload_n hx hb d_Mo_told_99 rfl (lv_at hl 2 rfl) ?_
                refine lv_iconst (v := 4) hx hb d_Mo_told_100 (by decide) ?_
                refine lv_icmp_ne (tgt := 116) hx hb d_Mo_told_101 (by decide) (fun c_8 => ?_) (fun c_8 => ?_)
                · have hv := hv.trans (if_neg c_8)
                  refine lv_aload_n hx hb d_Mo_told_116 rfl (lv_at hl 0 rfl) ?_
                  refine lv_iload_n hx hb d_Mo_told_117 rfl (lv_at hl 1 rfl) ?_
                  refine rdV ⟨hx, hb, hml, hown, hW⟩ (c_Mo_isSilent l dC dI r k (uF F 0 0) A rb  (mxR hI c_1)) (cwV 1 hW (gIn k_227 k_228 k_229 k_193 k_230) rfl rfl rfl (by decide +kernel) ⟨Nat.le_of_ble_eq_true rfl, Nat.le_of_ble_eq_true rfl⟩) hK hP (va_recv hK hP (ci := 3) (q0 := 0) rfl rfl) rfl hl.1 rfl (Nat.le_of_ble_eq_true rfl) d_Mo_told_118 ⟨Nat.zero_le _, Nat.zero_le _⟩ ?_
                  refine lv_if_eq (tgt := 128) hx hb d_Mo_told_121 (by decide) (fun c_9 => ?_) (fun c_9 => ?_)
                  · have hv := hv.trans (if_pos c_9)
                    refine lv_iconst (v := 0) hx hb d_Mo_told_128 (by decide) ?_
                    exact W.iret (v := 0) hx hb hr (fun t ht hW9 => ⟨⟨0, ((uF F 0 0), A), rfl, hv.symm, by rw [ht]; exact hP, va_K.moved hW9.alike hK, hD⟩, hS.F ht⟩) hS.2.2 d_Mo_told_129
                  · have hv := hv.trans (if_neg c_9)
                    refine lv_iconst (v := 1) hx hb d_Mo_told_124 (by decide) ?_
                    refine lv_goto (tgt := 129) hx hb d_Mo_told_125 (by decide) ?_
                    exact W.iret (v := 1) hx hb hr (fun t ht hW9 => ⟨⟨1, ((uF F 0 0), A), rfl, hv.symm, by rw [ht]; exact hP, va_K.moved hW9.alike hK, hD⟩, hS.F ht⟩) hS.2.2 d_Mo_told_129
                · have hv := hv.trans (if_pos c_8)
                  refine lv_aload_n hx hb d_Mo_told_104 rfl (lv_at hl 0 rfl) ?_
                  refine va_get (D := (dC, dI)) (ci := 3) (v := .ref (r 8)) (C := R_Mo) (T := F_Mo) (N := 19) hx hb hW i_Mo hown hK hP 0 rfl rfl 11 (by decide) (hW _ k_226) (fun _ h9 => h9) rfl d_Mo_told_105 ?_
                  refine lv_iload_n hx hb d_Mo_told_108 rfl (lv_at hl 1 rfl) ?_
                  refine va_zald hx hb hK hP 8 7 rfl rfl (mxR hI c_1) d_Mo_told_109 ?_
                  refine lv_if_eq (tgt := 128) hx hb d_Mo_told_110 (by decide) (fun c_10 => ?_) (fun c_10 => ?_)
                  · have hv := hv.trans (if_pos c_10)
                    refine lv_iconst (v := 0) hx hb d_Mo_told_128 (by decide) ?_
                    exact W.iret (v := 0) hx hb hr (fun t ht hW9 => ⟨⟨0, ((uF F 0 0), A), rfl, hv.symm, by rw [ht]; exact hP, va_K.moved hW9.alike hK, hD⟩, hS.F ht⟩) hS.2.2 d_Mo_told_129
                  · have hv := hv.trans (if_neg c_10)
                    refine lv_goto (tgt := 124) hx hb d_Mo_told_113 (by decide) ?_
                    refine lv_iconst (v := 1) hx hb d_Mo_told_124 (by decide) ?_
                    refine lv_goto (tgt := 129) hx hb d_Mo_told_125 (by decide) ?_
                    exact W.iret (v := 1) hx hb hr (fun t ht hW9 => ⟨⟨1, ((uF F 0 0), A), rfl, hv.symm, by rw [ht]; exact hP, va_K.moved hW9.alike hK, hD⟩, hS.F ht⟩) hS.2.2 d_Mo_told_129
              · have hv := hv.trans (if_pos c_7)
                refine lv_aload_n hx hb d_Mo_told_92 rfl (lv_at hl 0 rfl) ?_
                refine va_get (D := (dC, dI)) (ci := 3) (v := .ref (r 7)) (C := R_Mo) (T := F_Mo) (N := 19) hx hb hW i_Mo hown hK hP 0 rfl rfl 10 (by decide) (hW _ k_211) (fun _ h9 => h9) rfl d_Mo_told_93 ?_
                refine lv_iload_n hx hb d_Mo_told_96 rfl (lv_at hl 1 rfl) ?_
                refine va_iald hx hb hK hP 7 6 rfl rfl (mxR hI c_1) d_Mo_told_97 ?_
                exact W.iret (v := A 6 rb.toNatClampNeg) hx hb hr (fun t ht hW9 => ⟨⟨A 6 rb.toNatClampNeg, ((uF F 0 0), A), rfl, hv.symm, by rw [ht]; exact hP, va_K.moved hW9.alike hK, hD⟩, hS.F ht⟩) hS.2.2 d_Mo_told_98
            · have hv := hv.trans (if_pos c_6)
              refine lv_aload_n hx hb d_Mo_told_80 rfl (lv_at hl 0 rfl) ?_
              refine lv_iload_n hx hb d_Mo_told_81 rfl (lv_at hl 1 rfl) ?_
              refine rdV ⟨hx, hb, hml, hown, hW⟩ (c_Mo_liveOf l dC dI r k (uF F 0 0) A rb hI ) (cwV 1 hW (gIn k_244 k_245 k_246 k_193 k_247) rfl rfl rfl (by decide +kernel) ⟨Nat.le_of_ble_eq_true rfl, Nat.le_of_ble_eq_true rfl⟩) hK hP (va_recv hK hP (ci := 3) (q0 := 0) rfl rfl) rfl hl.1 rfl (Nat.le_of_ble_eq_true rfl) d_Mo_told_82 ⟨Nat.zero_le _, Nat.zero_le _⟩ ?_
              exact W.iret (v := f_Mo_liveOf (uF F 0 0) A rb) hx hb hr (fun t ht hW9 => ⟨⟨f_Mo_liveOf (uF F 0 0) A rb, ((uF F 0 0), A), rfl, hv.symm, by rw [ht]; exact hP, va_K.moved hW9.alike hK, hD⟩, hS.F ht⟩) hS.2.2 d_Mo_told_85
          · have hv := hv.trans (if_pos c_5)
            refine lv_aload_n hx hb d_Mo_told_68 rfl (lv_at hl 0 rfl) ?_
            refine va_get (D := (dC, dI)) (ci := 3) (v := .ref (r 6)) (C := R_Mo) (T := F_Mo) (N := 19) hx hb hW i_Mo hown hK hP 0 rfl rfl 9 (by decide) (hW _ k_210) (fun _ h9 => h9) rfl d_Mo_told_69 ?_
            refine lv_iload_n hx hb d_Mo_told_72 rfl (lv_at hl 1 rfl) ?_
            refine va_iald hx hb hK hP 6 5 rfl rfl (mxR hI c_1) d_Mo_told_73 ?_
            exact W.iret (v := A 5 rb.toNatClampNeg) hx hb hr (fun t ht hW9 => ⟨⟨A 5 rb.toNatClampNeg, ((uF F 0 0), A), rfl, hv.symm, by rw [ht]; exact hP, va_K.moved hW9.alike hK, hD⟩, hS.F ht⟩) hS.2.2 d_Mo_told_74
        · have hv := hv.trans (if_pos c_4)
          refine lv_aload_n hx hb d_Mo_told_56 rfl (lv_at hl 0 rfl) ?_
          refine va_get (D := (dC, dI)) (ci := 3) (v := .ref (r 5)) (C := R_Mo) (T := F_Mo) (N := 19) hx hb hW i_Mo hown hK hP 0 rfl rfl 8 (by decide) (hW _ k_203) (fun _ h9 => h9) rfl d_Mo_told_57 ?_
          refine lv_iload_n hx hb d_Mo_told_60 rfl (lv_at hl 1 rfl) ?_
          refine va_iald hx hb hK hP 5 4 rfl rfl (mxR hI c_1) d_Mo_told_61 ?_
          exact W.iret (v := A 4 rb.toNatClampNeg) hx hb hr (fun t ht hW9 => ⟨⟨A 4 rb.toNatClampNeg, ((uF F 0 0), A), rfl, hv.symm, by rw [ht]; exact hP, va_K.moved hW9.alike hK, hD⟩, hS.F ht⟩) hS.2.2 d_Mo_told_62
      · have hv := hv.trans (if_pos c_3)
        refine lv_aload_n hx hb d_Mo_told_44 rfl (lv_at hl 0 rfl) ?_
        refine va_get (D := (dC, dI)) (ci := 3) (v := .ref (r 3)) (C := R_Mo) (T := F_Mo) (N := 19) hx hb hW i_Mo hown hK hP 0 rfl rfl 6 (by decide) (hW _ k_202) (fun _ h9 => h9) rfl d_Mo_told_45 ?_
        refine lv_iload_n hx hb d_Mo_told_48 rfl (lv_at hl 1 rfl) ?_
        refine va_iald hx hb hK hP 3 2 rfl rfl (mxR hI c_1) d_Mo_told_49 ?_
        exact W.iret (v := A 2 rb.toNatClampNeg) hx hb hr (fun t ht hW9 => ⟨⟨A 2 rb.toNatClampNeg, ((uF F 0 0), A), rfl, hv.symm, by rw [ht]; exact hP, va_K.moved hW9.alike hK, hD⟩, hS.F ht⟩) hS.2.2 d_Mo_told_50
    · have hv := hv.trans (if_pos c_2)
      refine lv_iconst (v := 2) hx hb d_Mo_told_23 (by decide) ?_
      refine lv_goto (tgt := 28) hx hb d_Mo_told_24 (by decide) ?_
      refine va_put (D := (dC, dI)) (ci := 3) (v := .int 2) (ty := .int) (C := R_Mo) (T := F_Mo) (N := 19) hx hb hW i_Mo t_Mo t_Mo_ok n_Mo hown hK hP hD hS 0 rfl rfl 0 (by decide) (hW _ k_189) (fun _ h9 => h9) rfl (by decide +kernel) rfl rfl (Nat.le_of_ble_eq_true rfl) d_Mo_told_28 (fun H locs hP hD hS => ?_)
      have hP := pMF_0 hP
      have hD := dMF_0 hD
      refine lv_aload_n hx hb d_Mo_told_31 rfl (lv_at hl 0 rfl) ?_
      refine va_get (D := (dC, dI)) (ci := 3) (v := .int 2) (C := R_Mo) (T := F_Mo) (N := 19) hx hb hW i_Mo hown hK hP 0 rfl rfl 0 (by decide) (hW _ k_189) (fun _ h9 => h9) rfl d_Mo_told_32 ?_
      refine lv_if_le (tgt := 40) hx hb d_Mo_told_35 (by decide) (fun h9 => absurd h9 (by decide)) (fun _ => ?_)
      refine lv_iconst (v := 0) hx hb d_Mo_told_38 (by decide) ?_
      exact W.iret (v := 0) hx hb hr (fun t ht hW9 => ⟨⟨0, ((uF F 0 2), A), rfl, hv.symm, by rw [ht]; exact hP, va_K.moved hW9.alike hK, hD⟩, hS.F ht⟩) hS.2.2 d_Mo_told_39
  · have hv := hv.trans (if_pos c_1)
    refine lv_iconst (v := 1) hx hb d_Mo_told_9 (by decide) ?_
    refine lv_goto (tgt := 28) hx hb d_Mo_told_10 (by decide) ?_
    refine va_put (D := (dC, dI)) (ci := 3) (v := .int 1) (ty := .int) (C := R_Mo) (T := F_Mo) (N := 19) hx hb hW i_Mo t_Mo t_Mo_ok n_Mo hown hK hP hD hS 0 rfl rfl 0 (by decide) (hW _ k_189) (fun _ h9 => h9) rfl (by decide +kernel) rfl rfl (Nat.le_of_ble_eq_true rfl) d_Mo_told_28 (fun H locs hP hD hS => ?_)
    have hP := pMF_0 hP
    have hD := dMF_0 hD
    refine lv_aload_n hx hb d_Mo_told_31 rfl (lv_at hl 0 rfl) ?_
    refine va_get (D := (dC, dI)) (ci := 3) (v := .int 1) (C := R_Mo) (T := F_Mo) (N := 19) hx hb hW i_Mo hown hK hP 0 rfl rfl 0 (by decide) (hW _ k_189) (fun _ h9 => h9) rfl d_Mo_told_32 ?_
    refine lv_if_le (tgt := 40) hx hb d_Mo_told_35 (by decide) (fun h9 => absurd h9 (by decide)) (fun _ => ?_)
    refine lv_iconst (v := 0) hx hb d_Mo_told_38 (by decide) ?_
    exact W.iret (v := 0) hx hb hr (fun t ht hW9 => ⟨⟨0, ((uF F 0 1), A), rfl, hv.symm, by rw [ht]; exact hP, va_K.moved hW9.alike hK, hD⟩, hS.F ht⟩) hS.2.2 d_Mo_told_39
def f_Mo_grant (F : Nat → Int32) (A : Nat → Nat → Int32) (gr wh : Int32) : Int32 × SC := if f_Mo_isGrant F A gr = 0 then (0, (uF F 0 1), A) else (if f_Mo_in wh 0 5 = 0 then (0, (uF F 0 2), A) else (if wh = 0 then (A 8 gr.toNatClampNeg, (uF F 0 0), A) else (if wh = 1 then (A 9 gr.toNatClampNeg, (uF F 0 0), A) else (if wh = 2 then (A 10 gr.toNatClampNeg, (uF F 0 0), A) else (if wh = 3 then (A 11 gr.toNatClampNeg, (uF F 0 0), A) else (if wh = 4 then (A 12 gr.toNatClampNeg, (uF F 0 0), A) else (A 13 gr.toNatClampNeg, (uF F 0 0), A)))))))
set_option maxHeartbeats 4000000 in
set_option maxRecDepth 100000 in
theorem c_Mo_grant (l : Launch) (dC : Nat → ClassId) (dI : Nat → Nat → Nat) (r : Nat → Nat) (k : Nat → ClassId) (F : Nat → Int32) (A : Nat → Nat → Int32) (sz : Nat) (gr wh : Int32) (hI : SI F) : Met l y_Mo_grant w_Mo_grant ({ frames := 2, cells := 0, slots := 0, locals := 43 }) (va_Pc [.ref (r 0), .int gr, .int wh] (SP (dC, dI) (wM r k F A) (tM k) sz)) (va_Qi (fun v (u : SC) => (v, u) = f_Mo_grant F A gr wh) (fun (u : SC) t => aW (dC, dI) (tM k) (va_A (wM r k F A) sz) (wM r k u.1 u.2) t) (va_A (wM r k F A) sz)) 0 0 (va_A (wM r k F A) sz) := by
  refine Met.ofW (cc := b_Mo_grant) (maxL := 3) (ret := (some .int)) (by decide) rfl ?_
  intro p e s m args below meth c s₁ B hml hv0
  obtain ⟨rfl, hsz, hP, hK, hD0⟩ := hv0
  have hx := B.exec
  have hb := B.bytes
  have hr := B.returns
  have hts := atoms_spec (ws := w_Mo_grant) B.pre
  have hW : ∀ w ∈ WALL, w.before ([.ref (r 0), .int gr, .int wh] : List Value).toArray s = true := fun w h => hts w (List.mem_cons_of_mem _ h)
  have hown : s.vm.findClass R_Mo = some m.cls := findClass_of_methodNamed B.named
  have hlocks := B.notSynchronized
  subst hsz
  have hD := hD0.self (sz := s.heap.size)
  generalize hAe : va_A (wM r k F A) s.heap.size = Ad at hD ⊢
  have hA : ∀ q : Nat, s.heap.size ≤ q → Ad q := fun q h => by rw [← hAe]; exact Or.inr h
  have hS : va_S Ad s.heap s.heap [] := va_S.rf
  have hl := lv_entry ([.ref (r 0), .int gr, .int wh]) (n := 3) (Nat.le_of_ble_eq_true rfl)
  rw [lg_entry_eq]
  generalize (lg_sl ([.ref (r 0), .int gr, .int wh]) ++ List.replicate (3 - (lg_sl ([.ref (r 0), .int gr, .int wh])).length) Slot.unset).toArray = ls at hl ⊢
  have hl : lv_has ls 3 [(0, .ref (r 0)), (1, .int gr), (2, .int wh)] := hl
  obtain ⟨⟨hp0, hp1⟩, ⟨hr0, hr1⟩, hg0, hg1⟩ := id hI; have hr2 : (F 3).toInt ≤ 60 := Int.le_trans hr1 (by decide); have hp2 : (F 2).toInt ≤ 60 := Int.le_trans hp1 (by decide)
  have hv := f_Mo_grant.eq_1 F A gr wh
  refine lv_aload_n hx hb d_Mo_grant_0 rfl (lv_at hl 0 rfl) ?_
  refine lv_aload_n hx hb d_Mo_grant_1 rfl (lv_at hl 0 rfl) ?_
  refine lv_iload_n hx hb d_Mo_grant_2 rfl (lv_at hl 1 rfl) ?_
  refine rdV ⟨hx, hb, hml, hown, hW⟩ (c_Mo_isGrant l dC dI r k F A gr  ) (cwV 1 hW (gIn k_240 k_241 k_242 k_193 k_243) rfl rfl rfl (by decide +kernel) ⟨Nat.le_of_ble_eq_true rfl, Nat.le_of_ble_eq_true rfl⟩) hK hP (va_recv hK hP (ci := 3) (q0 := 0) rfl rfl) rfl hl.1 rfl (Nat.le_of_ble_eq_true rfl) d_Mo_grant_3 ⟨Nat.zero_le _, Nat.zero_le _⟩ ?_
  refine lv_if_ne (tgt := 13) hx hb d_Mo_grant_6 (by decide) (fun c_1 => ?_) (fun c_1 => ?_)
  · have hv := hv.trans (if_neg c_1)
    refine lv_iload_n hx hb d_Mo_grant_13 rfl (lv_at hl 2 rfl) ?_
    refine lv_iconst (v := 0) hx hb d_Mo_grant_14 (by decide) ?_
    refine lv_iconst (v := 5) hx hb d_Mo_grant_15 (by decide) ?_
    refine rdS (rest := [.ref (r 0)]) ⟨hx, hb, hml, hown, hW⟩ (c_Mo_in l wh 0 5) (va_cwS 3 hW (gInS k_191 k_192 k_193 k_194) rfl rfl rfl (by decide +kernel) ⟨Nat.le_of_ble_eq_true rfl, Nat.le_of_ble_eq_true rfl⟩) rfl hl.1 rfl (Nat.le_of_ble_eq_true rfl) d_Mo_grant_16 ⟨Nat.zero_le _, Nat.zero_le _⟩ ?_
    refine lv_if_ne (tgt := 26) hx hb d_Mo_grant_19 (by decide) (fun c_2 => ?_) (fun c_2 => ?_)
    · have hv := hv.trans (if_neg c_2)
      refine lv_iconst (v := 0) hx hb d_Mo_grant_26 (by decide) ?_
      refine va_put (D := (dC, dI)) (ci := 3) (v := .int 0) (ty := .int) (C := R_Mo) (T := F_Mo) (N := 19) hx hb hW i_Mo t_Mo t_Mo_ok n_Mo hown hK hP hD hS 0 rfl rfl 0 (by decide) (hW _ k_189) (fun _ h9 => h9) rfl (by decide +kernel) rfl rfl (Nat.le_of_ble_eq_true rfl) d_Mo_grant_27 (fun H locs hP hD hS => ?_)
      have hP := pMF_0 hP
      have hD := dMF_0 hD
      refine lv_aload_n hx hb d_Mo_grant_30 rfl (lv_at hl 0 rfl) ?_
      refine va_get (D := (dC, dI)) (ci := 3) (v := .int 0) (C := R_Mo) (T := F_Mo) (N := 19) hx hb hW i_Mo hown hK hP 0 rfl rfl 0 (by decide) (hW _ k_189) (fun _ h9 => h9) rfl d_Mo_grant_31 ?_
      refine lv_if_le (tgt := 39) hx hb d_Mo_grant_34 (by decide) (fun _ => ?_) (fun h9 => absurd h9 (by decide))
      refine lv_iload_n hx hb d_Mo_grant_39 rfl (lv_at hl 2 rfl) ?_
      refine lv_if_ne (tgt := 50) hx hb d_Mo_grant_40 (by decide) (fun c_3 => ?_) (fun c_3 => ?_)
      · have hv := hv.trans (if_neg c_3)
        refine lv_iload_n hx hb d_Mo_grant_50 rfl (lv_at hl 2 rfl) ?_
        refine lv_iconst (v := 1) hx hb d_Mo_grant_51 (by decide) ?_
        refine lv_icmp_ne (tgt := 62) hx hb d_Mo_grant_52 (by decide) (fun c_4 => ?_) (fun c_4 => ?_)
        · have hv := hv.trans (if_neg c_4)
          refine lv_iload_n hx hb d_Mo_grant_62 rfl (lv_at hl 2 rfl) ?_
          refine lv_iconst (v := 2) hx hb d_Mo_grant_63 (by decide) ?_
          refine lv_icmp_ne (tgt := 74) hx hb d_Mo_grant_64 (by decide) (fun c_5 => ?_) (fun c_5 => ?_)
          · have hv := hv.trans (if_neg c_5)
            refine lv_iload_n hx hb d_Mo_grant_74 rfl (lv_at hl 2 rfl) ?_
            refine lv_iconst (v := 3) hx hb d_Mo_grant_75 (by decide) ?_
            refine lv_icmp_ne (tgt := 88) hx hb d_Mo_grant_76 (by decide) (fun c_6 => ?_) (fun c_6 => ?_)
            · have hv := hv.trans (if_neg c_6)
              refine lv_iload_n hx hb d_Mo_grant_88 rfl (lv_at hl 2 rfl) ?_
              refine lv_iconst (v := 4) hx hb d_Mo_grant_89 (by decide) ?_
              refine lv_icmp_ne (tgt := 102) hx hb d_Mo_grant_90 (by decide) (fun c_7 => ?_) (fun c_7 => ?_)
              · have hv := hv.trans (if_neg c_7)
                refine lv_aload_n hx hb d_Mo_grant_102 rfl (lv_at hl 0 rfl) ?_
                refine va_get (D := (dC, dI)) (ci := 3) (v := .ref (r 14)) (C := R_Mo) (T := F_Mo) (N := 19) hx hb hW i_Mo hown hK hP 0 rfl rfl 18 (by decide) (hW _ k_216) (fun _ h9 => h9) rfl d_Mo_grant_103 ?_
                refine lv_iload_n hx hb d_Mo_grant_106 rfl (lv_at hl 1 rfl) ?_
                refine va_iald hx hb hK hP 14 13 rfl rfl (mxG hI c_1) d_Mo_grant_107 ?_
                exact W.iret (v := A 13 gr.toNatClampNeg) hx hb hr (fun t ht hW9 => ⟨⟨A 13 gr.toNatClampNeg, ((uF F 0 0), A), rfl, hv.symm, by rw [ht]; exact hP, va_K.moved hW9.alike hK, hD⟩, hS.F ht⟩) hS.2.2 d_Mo_grant_108
              · have hv := hv.trans (if_pos c_7)
                refine lv_aload_n hx hb d_Mo_grant_93 rfl (lv_at hl 0 rfl) ?_
                refine va_get (D := (dC, dI)) (ci := 3) (v := .ref (r 13)) (C := R_Mo) (T := F_Mo) (N := 19) hx hb hW i_Mo hown hK hP 0 rfl rfl 17 (by decide) (hW _ k_235) (fun _ h9 => h9) rfl d_Mo_grant_94 ?_
                refine lv_iload_n hx hb d_Mo_grant_97 rfl (lv_at hl 1 rfl) ?_
                refine va_iald hx hb hK hP 13 12 rfl rfl (mxG hI c_1) d_Mo_grant_98 ?_
                refine lv_goto (tgt := 108) hx hb d_Mo_grant_99 (by decide) ?_
                exact W.iret (v := A 12 gr.toNatClampNeg) hx hb hr (fun t ht hW9 => ⟨⟨A 12 gr.toNatClampNeg, ((uF F 0 0), A), rfl, hv.symm, by rw [ht]; exact hP, va_K.moved hW9.alike hK, hD⟩, hS.F ht⟩) hS.2.2 d_Mo_grant_108
            · have hv := hv.trans (if_pos c_6)
              refine lv_aload_n hx hb d_Mo_grant_79 rfl (lv_at hl 0 rfl) ?_
              refine va_get (D := (dC, dI)) (ci := 3) (v := .ref (r 12)) (C := R_Mo) (T := F_Mo) (N := 19) hx hb hW i_Mo hown hK hP 0 rfl rfl 16 (by decide) (hW _ k_215) (fun _ h9 => h9) rfl d_Mo_grant_80 ?_
              refine lv_iload_n hx hb d_Mo_grant_83 rfl (lv_at hl 1 rfl) ?_
              refine va_iald hx hb hK hP 12 11 rfl rfl (mxG hI c_1) d_Mo_grant_84 ?_
              refine lv_goto (tgt := 108) hx hb d_Mo_grant_85 (by decide) ?_
              exact W.iret (v := A 11 gr.toNatClampNeg) hx hb hr (fun t ht hW9 => ⟨⟨A 11 gr.toNatClampNeg, ((uF F 0 0), A), rfl, hv.symm, by rw [ht]; exact hP, va_K.moved hW9.alike hK, hD⟩, hS.F ht⟩) hS.2.2 d_Mo_grant_108
          · have hv := hv.trans (if_pos c_5)
            refine lv_aload_n hx hb d_Mo_grant_67 rfl (lv_at hl 0 rfl) ?_
            refine va_get (D := (dC, dI)) (ci := 3) (v := .ref (r 11)) (C := R_Mo) (T := F_Mo) (N := 19) hx hb hW i_Mo hown hK hP 0 rfl rfl 15 (by decide) (hW _ k_214) (fun _ h9 => h9) rfl d_Mo_grant_68 ?_
            refine lv_iload_n hx hb d_Mo_grant_71 rfl (lv_at hl 1 rfl) ?_
            refine va_iald hx hb hK hP 11 10 rfl rfl (mxG hI c_1) d_Mo_grant_72 ?_
            exact W.iret (v := A 10 gr.toNatClampNeg) hx hb hr (fun t ht hW9 => ⟨⟨A 10 gr.toNatClampNeg, ((uF F 0 0), A), rfl, hv.symm, by rw [ht]; exact hP, va_K.moved hW9.alike hK, hD⟩, hS.F ht⟩) hS.2.2 d_Mo_grant_73
        · have hv := hv.trans (if_pos c_4)
          refine lv_aload_n hx hb d_Mo_grant_55 rfl (lv_at hl 0 rfl) ?_
          refine va_get (D := (dC, dI)) (ci := 3) (v := .ref (r 10)) (C := R_Mo) (T := F_Mo) (N := 19) hx hb hW i_Mo hown hK hP 0 rfl rfl 14 (by decide) (hW _ k_213) (fun _ h9 => h9) rfl d_Mo_grant_56 ?_
          refine lv_iload_n hx hb d_Mo_grant_59 rfl (lv_at hl 1 rfl) ?_
          refine va_iald hx hb hK hP 10 9 rfl rfl (mxG hI c_1) d_Mo_grant_60 ?_
          exact W.iret (v := A 9 gr.toNatClampNeg) hx hb hr (fun t ht hW9 => ⟨⟨A 9 gr.toNatClampNeg, ((uF F 0 0), A), rfl, hv.symm, by rw [ht]; exact hP, va_K.moved hW9.alike hK, hD⟩, hS.F ht⟩) hS.2.2 d_Mo_grant_61
      · have hv := hv.trans (if_pos c_3)
        refine lv_aload_n hx hb d_Mo_grant_43 rfl (lv_at hl 0 rfl) ?_
        refine va_get (D := (dC, dI)) (ci := 3) (v := .ref (r 9)) (C := R_Mo) (T := F_Mo) (N := 19) hx hb hW i_Mo hown hK hP 0 rfl rfl 13 (by decide) (hW _ k_217) (fun _ h9 => h9) rfl d_Mo_grant_44 ?_
        refine lv_iload_n hx hb d_Mo_grant_47 rfl (lv_at hl 1 rfl) ?_
        refine va_iald hx hb hK hP 9 8 rfl rfl (mxG hI c_1) d_Mo_grant_48 ?_
        exact W.iret (v := A 8 gr.toNatClampNeg) hx hb hr (fun t ht hW9 => ⟨⟨A 8 gr.toNatClampNeg, ((uF F 0 0), A), rfl, hv.symm, by rw [ht]; exact hP, va_K.moved hW9.alike hK, hD⟩, hS.F ht⟩) hS.2.2 d_Mo_grant_49
    · have hv := hv.trans (if_pos c_2)
      refine lv_iconst (v := 2) hx hb d_Mo_grant_22 (by decide) ?_
      refine lv_goto (tgt := 27) hx hb d_Mo_grant_23 (by decide) ?_
      refine va_put (D := (dC, dI)) (ci := 3) (v := .int 2) (ty := .int) (C := R_Mo) (T := F_Mo) (N := 19) hx hb hW i_Mo t_Mo t_Mo_ok n_Mo hown hK hP hD hS 0 rfl rfl 0 (by decide) (hW _ k_189) (fun _ h9 => h9) rfl (by decide +kernel) rfl rfl (Nat.le_of_ble_eq_true rfl) d_Mo_grant_27 (fun H locs hP hD hS => ?_)
      have hP := pMF_0 hP
      have hD := dMF_0 hD
      refine lv_aload_n hx hb d_Mo_grant_30 rfl (lv_at hl 0 rfl) ?_
      refine va_get (D := (dC, dI)) (ci := 3) (v := .int 2) (C := R_Mo) (T := F_Mo) (N := 19) hx hb hW i_Mo hown hK hP 0 rfl rfl 0 (by decide) (hW _ k_189) (fun _ h9 => h9) rfl d_Mo_grant_31 ?_
      refine lv_if_le (tgt := 39) hx hb d_Mo_grant_34 (by decide) (fun h9 => absurd h9 (by decide)) (fun _ => ?_)
      refine lv_iconst (v := 0) hx hb d_Mo_grant_37 (by decide) ?_
      exact W.iret (v := 0) hx hb hr (fun t ht hW9 => ⟨⟨0, ((uF F 0 2), A), rfl, hv.symm, by rw [ht]; exact hP, va_K.moved hW9.alike hK, hD⟩, hS.F ht⟩) hS.2.2 d_Mo_grant_38
  · have hv := hv.trans (if_pos c_1)
    refine lv_iconst (v := 1) hx hb d_Mo_grant_9 (by decide) ?_
    refine lv_goto (tgt := 27) hx hb d_Mo_grant_10 (by decide) ?_
    refine va_put (D := (dC, dI)) (ci := 3) (v := .int 1) (ty := .int) (C := R_Mo) (T := F_Mo) (N := 19) hx hb hW i_Mo t_Mo t_Mo_ok n_Mo hown hK hP hD hS 0 rfl rfl 0 (by decide) (hW _ k_189) (fun _ h9 => h9) rfl (by decide +kernel) rfl rfl (Nat.le_of_ble_eq_true rfl) d_Mo_grant_27 (fun H locs hP hD hS => ?_)
    have hP := pMF_0 hP
    have hD := dMF_0 hD
    refine lv_aload_n hx hb d_Mo_grant_30 rfl (lv_at hl 0 rfl) ?_
    refine va_get (D := (dC, dI)) (ci := 3) (v := .int 1) (C := R_Mo) (T := F_Mo) (N := 19) hx hb hW i_Mo hown hK hP 0 rfl rfl 0 (by decide) (hW _ k_189) (fun _ h9 => h9) rfl d_Mo_grant_31 ?_
    refine lv_if_le (tgt := 39) hx hb d_Mo_grant_34 (by decide) (fun h9 => absurd h9 (by decide)) (fun _ => ?_)
    refine lv_iconst (v := 0) hx hb d_Mo_grant_37 (by decide) ?_
    exact W.iret (v := 0) hx hb hr (fun t ht hW9 => ⟨⟨0, ((uF F 0 1), A), rfl, hv.symm, by rw [ht]; exact hP, va_K.moved hW9.alike hK, hD⟩, hS.F ht⟩) hS.2.2 d_Mo_grant_38
def f_Mo_count_L122 (F : Nat → Int32) (A : Nat → Nat → Int32) (wh : Int32) (x3 : Int32) (K : Int32 → Int32 → Int32 × SC) : Nat → Int32 → Int32 → Int32 × SC
  | 0, _, _ => (0, F, A)
  | n122 + 1, x2, x4 => if x3 ≤ x4 then (K x2 x4) else (if A 13 x3.toNatClampNeg = 0 then (if A 13 x4.toNatClampNeg = 0 then (if f_Mo_meet (uF F 0 0) A x3 x4 = 0 then (f_Mo_count_L122 F A wh x3 K n122 (x2 + 0) (x4 + 1)) else (f_Mo_count_L122 F A wh x3 K n122 (x2 + 1) (x4 + 1))) else (f_Mo_count_L122 F A wh x3 K n122 (x2 + 0) (x4 + 1))) else (f_Mo_count_L122 F A wh x3 K n122 (x2 + 0) (x4 + 1)))
def f_Mo_count_L105 (F : Nat → Int32) (A : Nat → Nat → Int32) (wh : Int32) : Nat → Int32 → Int32 → Int32 × SC
  | 0, _, _ => (0, F, A)
  | n105 + 1, x2, x3 => if F 4 < x3 then (if wh = 3 then (x2, (uF F 0 0), A) else (if wh = 5 then (x2, (uF F 0 0), A) else (if wh = 6 then (x2, (uF F 0 0), A) else ((-1), (uF F 0 0), A)))) else (if wh = 6 then (f_Mo_count_L122 F A wh x3 (fun x2 x4 => f_Mo_count_L105 F A wh n105 x2 (x3 + 1)) 64 x2 1) else (if wh = 3 then (x2, (uF F 0 0), A) else (if wh = 5 then (x2, (uF F 0 0), A) else ((-1), (uF F 0 0), A))))
def f_Mo_count_L105b (F : Nat → Int32) (A : Nat → Nat → Int32) (wh : Int32) : Nat → Int32 → Int32 → Int32 × SC
  | 0, _, _ => (0, F, A)
  | n105 + 1, x2, x3 => if F 4 < x3 then (if wh = 6 then (x2, (uF F 0 0), A) else ((-1), (uF F 0 0), A)) else (if wh = 6 then (f_Mo_count_L122 F A wh x3 (fun x2 x4 => f_Mo_count_L105b F A wh n105 x2 (x3 + 1)) 64 x2 1) else ((-1), (uF F 0 0), A))
def f_Mo_count_L48 (F : Nat → Int32) (A : Nat → Nat → Int32) (wh : Int32) : Nat → Int32 → Int32 → Int32 × SC
  | 0, _, _ => (0, F, A)
  | n48 + 1, x2, x3 => if F 3 ≤ x3 then (f_Mo_count_L105 F A wh 64 x2 1) else (if wh = 3 then (f_Mo_count_L48 F A wh n48 (x2 + (f_Mo_liveOf (uF F 0 0) A x3)) (x3 + 1)) else (if wh = 5 then (if A 5 x3.toNatClampNeg = (-1) then (f_Mo_count_L48 F A wh n48 (x2 + 0) (x3 + 1)) else (f_Mo_count_L48 F A wh n48 (x2 + 1) (x3 + 1))) else (f_Mo_count_L105b F A wh 64 x2 1)))
def f_Mo_count (F : Nat → Int32) (A : Nat → Nat → Int32) (wh : Int32) : Int32 × SC := if wh = 0 then (F 2, (uF F 0 0), A) else (if wh = 1 then (F 3, (uF F 0 0), A) else (if wh = 2 then (F 4, (uF F 0 0), A) else (if wh = 4 then (F 1, (uF F 0 0), A) else (f_Mo_count_L48 F A wh 64 0 0))))
set_option maxHeartbeats 4000000 in
set_option maxRecDepth 100000 in
theorem c_Mo_count (l : Launch) (dC : Nat → ClassId) (dI : Nat → Nat → Nat) (r : Nat → Nat) (k : Nat → ClassId) (F : Nat → Int32) (A : Nat → Nat → Int32) (sz : Nat) (wh : Int32) (hI : SI F) : Met l y_Mo_count w_Mo_count ({ frames := 1, cells := 0, slots := 0, locals := 23 }) (va_Pc [.ref (r 0), .int wh] (SP (dC, dI) (wM r k F A) (tM k) sz)) (va_Qi (fun v (u : SC) => (v, u) = f_Mo_count F A wh) (fun (u : SC) t => aW (dC, dI) (tM k) (va_A (wM r k F A) sz) (wM r k u.1 u.2) t) (va_A (wM r k F A) sz)) 0 0 (va_A (wM r k F A) sz) := by
  refine Met.ofW (cc := b_Mo_count) (maxL := 5) (ret := (some .int)) (by decide) rfl ?_
  intro p e s m args below meth c s₁ B hml hv0
  obtain ⟨rfl, hsz, hP, hK, hD0⟩ := hv0
  have hx := B.exec
  have hb := B.bytes
  have hr := B.returns
  have hts := atoms_spec (ws := w_Mo_count) B.pre
  have hW : ∀ w ∈ WALL, w.before ([.ref (r 0), .int wh] : List Value).toArray s = true := fun w h => hts w (List.mem_cons_of_mem _ h)
  have hown : s.vm.findClass R_Mo = some m.cls := findClass_of_methodNamed B.named
  have hlocks := B.notSynchronized
  subst hsz
  have hD := hD0.self (sz := s.heap.size)
  generalize hAe : va_A (wM r k F A) s.heap.size = Ad at hD ⊢
  have hA : ∀ q : Nat, s.heap.size ≤ q → Ad q := fun q h => by rw [← hAe]; exact Or.inr h
  have hS : va_S Ad s.heap s.heap [] := va_S.rf
  have hl := lv_entry ([.ref (r 0), .int wh]) (n := 5) (Nat.le_of_ble_eq_true rfl)
  rw [lg_entry_eq]
  generalize (lg_sl ([.ref (r 0), .int wh]) ++ List.replicate (5 - (lg_sl ([.ref (r 0), .int wh])).length) Slot.unset).toArray = ls at hl ⊢
  have hl : lv_has ls 5 [(0, .ref (r 0)), (1, .int wh)] := hl
  obtain ⟨⟨hp0, hp1⟩, ⟨hr0, hr1⟩, hg0, hg1⟩ := id hI; have hr2 : (F 3).toInt ≤ 60 := Int.le_trans hr1 (by decide); have hp2 : (F 2).toInt ≤ 60 := Int.le_trans hp1 (by decide)
  have hv := f_Mo_count.eq_1 F A wh
  refine lv_aload_n hx hb d_Mo_count_0 rfl (lv_at hl 0 rfl) ?_
  refine lv_iconst (v := 0) hx hb d_Mo_count_1 (by decide) ?_
  refine va_put (D := (dC, dI)) (ci := 3) (v := .int 0) (ty := .int) (C := R_Mo) (T := F_Mo) (N := 19) hx hb hW i_Mo t_Mo t_Mo_ok n_Mo hown hK hP hD hS 0 rfl rfl 0 (by decide) (hW _ k_189) (fun _ h9 => h9) rfl (by decide +kernel) rfl rfl (Nat.le_of_ble_eq_true rfl) d_Mo_count_2 (fun H locs hP hD hS => ?_)
  have hP := pMF_0 hP
  have hD := dMF_0 hD
  refine lv_iload_n hx hb d_Mo_count_5 rfl (lv_at hl 1 rfl) ?_
  refine lv_if_ne (tgt := 14) hx hb d_Mo_count_6 (by decide) (fun c_1 => ?_) (fun c_1 => ?_)
  · have hv := hv.trans (if_neg c_1)
    refine lv_iload_n hx hb d_Mo_count_14 rfl (lv_at hl 1 rfl) ?_
    refine lv_iconst (v := 1) hx hb d_Mo_count_15 (by decide) ?_
    refine lv_icmp_ne (tgt := 24) hx hb d_Mo_count_16 (by decide) (fun c_2 => ?_) (fun c_2 => ?_)
    · have hv := hv.trans (if_neg c_2)
      refine lv_iload_n hx hb d_Mo_count_24 rfl (lv_at hl 1 rfl) ?_
      refine lv_iconst (v := 2) hx hb d_Mo_count_25 (by decide) ?_
      refine lv_icmp_ne (tgt := 34) hx hb d_Mo_count_26 (by decide) (fun c_3 => ?_) (fun c_3 => ?_)
      · have hv := hv.trans (if_neg c_3)
        refine lv_iload_n hx hb d_Mo_count_34 rfl (lv_at hl 1 rfl) ?_
        refine lv_iconst (v := 4) hx hb d_Mo_count_35 (by decide) ?_
        refine lv_icmp_ne (tgt := 44) hx hb d_Mo_count_36 (by decide) (fun c_4 => ?_) (fun c_4 => ?_)
        · have hv := hv.trans (if_neg c_4)
          refine lv_iconst (v := 0) hx hb d_Mo_count_44 (by decide) ?_
          refine lv_istore_n (lv' := [(2, .int 0), (0, .ref (r 0)), (1, .int wh)]) hx hb d_Mo_count_45 rfl hl (by decide) rfl (fun ls hl => ?_)
          refine lv_iconst (v := 0) hx hb d_Mo_count_46 (by decide) ?_
          refine lv_istore_n (lv' := [(3, .int 0), (2, .int 0), (0, .ref (r 0)), (1, .int wh)]) hx hb d_Mo_count_47 rfl hl (by decide) rfl (fun ls hl => ?_)
          have loop48 : ∀ (n48 : Nat) (x2 : Int32) (x3 : Int32) (ls : Array Slot), LB (F 3) x3 n48 → f_Mo_count F A wh = f_Mo_count_L48 F A wh n48 x2 x3 → lv_has ls 5 [(0, .ref (r 0)), (1, .int wh), (2, .int x2), (3, .int x3)] → W p l e (headSpec w_Mo_count ({ frames := 1, cells := 0, slots := 0, locals := 23 })).room s m ([.ref (r 0), .int wh] : List Value).toArray below meth c H locs 0 0 (MQ below (va_Qi (fun v (u : SC) => (v, u) = f_Mo_count F A wh) (fun (u : SC) t => aW (dC, dI) (tM k) Ad (wM r k u.1 u.2) t) Ad) ([.ref (r 0), .int wh] : List Value).toArray s 0 0 Ad) (F0 m 48 ls []) := by
            intro n48
            induction n48 with
            | zero => intro x2 x3 ls hlp; exact (hlp.z).elim
            | succ n48 ih48 =>
              intro x2 x3 ls hlp48 hv hl
              rw [f_Mo_count_L48] at hv
              refine lv_iload_n hx hb d_Mo_count_48 rfl (lv_at hl 3 rfl) ?_
              refine lv_aload_n hx hb d_Mo_count_49 rfl (lv_at hl 0 rfl) ?_
              refine va_get (D := (dC, dI)) (ci := 3) (v := .int (F 3)) (C := R_Mo) (T := F_Mo) (N := 19) hx hb hW i_Mo hown hK hP 0 rfl rfl 5 (by decide) (hW _ k_195) (fun _ h9 => h9) rfl d_Mo_count_50 ?_
              refine lv_icmp_ge (tgt := 103) hx hb d_Mo_count_53 (by decide) (fun c_5 => ?_) (fun c_5 => ?_)
              · have hv := hv.trans (if_pos c_5)
                refine lv_iconst (v := 1) hx hb d_Mo_count_103 (by decide) ?_
                refine lv_istore_n (lv' := [(3, .int 1), (0, .ref (r 0)), (1, .int wh), (2, .int x2)]) hx hb d_Mo_count_104 rfl hl (by decide) rfl (fun ls hl => ?_)
                have loop105 : ∀ (n105 : Nat) (x2 : Int32) (x3 : Int32) (ls : Array Slot), LA (F 4) x3 n105 → f_Mo_count F A wh = f_Mo_count_L105 F A wh n105 x2 x3 → lv_has ls 5 [(0, .ref (r 0)), (1, .int wh), (2, .int x2), (3, .int x3)] → W p l e (headSpec w_Mo_count ({ frames := 1, cells := 0, slots := 0, locals := 23 })).room s m ([.ref (r 0), .int wh] : List Value).toArray below meth c H locs 0 0 (MQ below (va_Qi (fun v (u : SC) => (v, u) = f_Mo_count F A wh) (fun (u : SC) t => aW (dC, dI) (tM k) Ad (wM r k u.1 u.2) t) Ad) ([.ref (r 0), .int wh] : List Value).toArray s 0 0 Ad) (F0 m 105 ls []) := by
                  intro n105
                  induction n105 with
                  | zero => intro x2 x3 ls hlp; exact (hlp.z).elim
                  | succ n105 ih105 =>
                    intro x2 x3 ls hlp105 hv hl
                    rw [f_Mo_count_L105] at hv
                    refine lv_iload_n hx hb d_Mo_count_105 rfl (lv_at hl 3 rfl) ?_
                    refine lv_aload_n hx hb d_Mo_count_106 rfl (lv_at hl 0 rfl) ?_
                    refine va_get (D := (dC, dI)) (ci := 3) (v := .int (F 4)) (C := R_Mo) (T := F_Mo) (N := 19) hx hb hW i_Mo hown hK hP 0 rfl rfl 12 (by decide) (hW _ k_196) (fun _ h9 => h9) rfl d_Mo_count_107 ?_
                    refine lv_icmp_gt (tgt := 177) hx hb d_Mo_count_110 (by decide) (fun c_6 => ?_) (fun c_6 => ?_)
                    · have hv := hv.trans (if_pos c_6)
                      refine lv_iload_n hx hb d_Mo_count_177 rfl (lv_at hl 1 rfl) ?_
                      refine lv_iconst (v := 3) hx hb d_Mo_count_178 (by decide) ?_
                      refine lv_icmp_eq (tgt := 193) hx hb d_Mo_count_179 (by decide) (fun c_7 => ?_) (fun c_7 => ?_)
                      · have hv := hv.trans (if_pos c_7)
                        refine lv_iload_n hx hb d_Mo_count_193 rfl (lv_at hl 2 rfl) ?_
                        refine lv_goto (tgt := 198) hx hb d_Mo_count_194 (by decide) ?_
                        exact W.iret (v := x2) hx hb hr (fun t ht hW9 => ⟨⟨x2, ((uF F 0 0), A), rfl, hv.symm, by rw [ht]; exact hP, va_K.moved hW9.alike hK, hD⟩, hS.F ht⟩) hS.2.2 d_Mo_count_198
                      · have hv := hv.trans (if_neg c_7)
                        refine lv_iload_n hx hb d_Mo_count_182 rfl (lv_at hl 1 rfl) ?_
                        refine lv_iconst (v := 5) hx hb d_Mo_count_183 (by decide) ?_
                        refine lv_icmp_eq (tgt := 193) hx hb d_Mo_count_184 (by decide) (fun c_8 => ?_) (fun c_8 => ?_)
                        · have hv := hv.trans (if_pos c_8)
                          refine lv_iload_n hx hb d_Mo_count_193 rfl (lv_at hl 2 rfl) ?_
                          refine lv_goto (tgt := 198) hx hb d_Mo_count_194 (by decide) ?_
                          exact W.iret (v := x2) hx hb hr (fun t ht hW9 => ⟨⟨x2, ((uF F 0 0), A), rfl, hv.symm, by rw [ht]; exact hP, va_K.moved hW9.alike hK, hD⟩, hS.F ht⟩) hS.2.2 d_Mo_count_198
                        · have hv := hv.trans (if_neg c_8)
                          refine lv_iload_n hx hb d_Mo_count_187 rfl (lv_at hl 1 rfl) ?_
                          refine lv_bipush (v := 6) hx hb d_Mo_count_188 (by decide) ?_
                          refine lv_icmp_ne (tgt := 197) hx hb d_Mo_count_190 (by decide) (fun c_9 => ?_) (fun c_9 => ?_)
                          · have hv := hv.trans (if_neg c_9)
                            refine lv_iconst (v := (-1)) hx hb d_Mo_count_197 (by decide) ?_
                            exact W.iret (v := (-1)) hx hb hr (fun t ht hW9 => ⟨⟨(-1), ((uF F 0 0), A), rfl, hv.symm, by rw [ht]; exact hP, va_K.moved hW9.alike hK, hD⟩, hS.F ht⟩) hS.2.2 d_Mo_count_198
                          · have hv := hv.trans (if_pos c_9)
                            refine lv_iload_n hx hb d_Mo_count_193 rfl (lv_at hl 2 rfl) ?_
                            refine lv_goto (tgt := 198) hx hb d_Mo_count_194 (by decide) ?_
                            exact W.iret (v := x2) hx hb hr (fun t ht hW9 => ⟨⟨x2, ((uF F 0 0), A), rfl, hv.symm, by rw [ht]; exact hP, va_K.moved hW9.alike hK, hD⟩, hS.F ht⟩) hS.2.2 d_Mo_count_198
                    · have hv := hv.trans (if_neg c_6)
                      refine lv_iload_n hx hb d_Mo_count_113 rfl (lv_at hl 1 rfl) ?_
                      refine lv_bipush (v := 6) hx hb d_Mo_count_114 (by decide) ?_
                      refine lv_icmp_ne (tgt := 177) hx hb d_Mo_count_116 (by decide) (fun c_10 => ?_) (fun c_10 => ?_)
                      · have hv := hv.trans (if_neg c_10)
                        refine lv_iload_n hx hb d_Mo_count_177 rfl (lv_at hl 1 rfl) ?_
                        refine lv_iconst (v := 3) hx hb d_Mo_count_178 (by decide) ?_
                        refine lv_icmp_eq (tgt := 193) hx hb d_Mo_count_179 (by decide) (fun c_11 => ?_) (fun c_11 => ?_)
                        · have hv := hv.trans (if_pos c_11)
                          refine lv_iload_n hx hb d_Mo_count_193 rfl (lv_at hl 2 rfl) ?_
                          refine lv_goto (tgt := 198) hx hb d_Mo_count_194 (by decide) ?_
                          exact W.iret (v := x2) hx hb hr (fun t ht hW9 => ⟨⟨x2, ((uF F 0 0), A), rfl, hv.symm, by rw [ht]; exact hP, va_K.moved hW9.alike hK, hD⟩, hS.F ht⟩) hS.2.2 d_Mo_count_198
                        · have hv := hv.trans (if_neg c_11)
                          refine lv_iload_n hx hb d_Mo_count_182 rfl (lv_at hl 1 rfl) ?_
                          refine lv_iconst (v := 5) hx hb d_Mo_count_183 (by decide) ?_
                          refine lv_icmp_eq (tgt := 193) hx hb d_Mo_count_184 (by decide) (fun c_12 => ?_) (fun c_12 => ?_)
                          · have hv := hv.trans (if_pos c_12)
                            refine lv_iload_n hx hb d_Mo_count_193 rfl (lv_at hl 2 rfl) ?_
                            refine lv_goto (tgt := 198) hx hb d_Mo_count_194 (by decide) ?_
                            exact W.iret (v := x2) hx hb hr (fun t ht hW9 => ⟨⟨x2, ((uF F 0 0), A), rfl, hv.symm, by rw [ht]; exact hP, va_K.moved hW9.alike hK, hD⟩, hS.F ht⟩) hS.2.2 d_Mo_count_198
                          · have hv := hv.trans (if_neg c_12)
                            refine lv_iload_n hx hb d_Mo_count_187 rfl (lv_at hl 1 rfl) ?_
                            refine lv_bipush (v := 6) hx hb d_Mo_count_188 (by decide) ?_
                            refine lv_icmp_ne (tgt := 197) hx hb d_Mo_count_190 (by decide) (fun _ => ?_) (fun h9 => absurd h9 c_10)
                            refine lv_iconst (v := (-1)) hx hb d_Mo_count_197 (by decide) ?_
                            exact W.iret (v := (-1)) hx hb hr (fun t ht hW9 => ⟨⟨(-1), ((uF F 0 0), A), rfl, hv.symm, by rw [ht]; exact hP, va_K.moved hW9.alike hK, hD⟩, hS.F ht⟩) hS.2.2 d_Mo_count_198
                      · have hv := hv.trans (if_pos c_10)
                        refine lv_iconst (v := 1) hx hb d_Mo_count_119 (by decide) ?_
                        refine lv_istore (lv' := [(4, .int 1), (0, .ref (r 0)), (1, .int wh), (2, .int x2), (3, .int x3)]) hx hb d_Mo_count_120 hl (by decide) rfl (fun ls hl => ?_)
                        have loop122 : ∀ (n122 : Nat) (x2 : Int32) (x4 : Int32) (ls : Array Slot), LC x3 x4 n122 → f_Mo_count F A wh = f_Mo_count_L122 F A wh x3 (fun x2 x4 => f_Mo_count_L105 F A wh n105 x2 (x3 + 1)) n122 x2 x4 → lv_has ls 5 [(0, .ref (r 0)), (1, .int wh), (2, .int x2), (3, .int x3), (4, .int x4)] → W p l e (headSpec w_Mo_count ({ frames := 1, cells := 0, slots := 0, locals := 23 })).room s m ([.ref (r 0), .int wh] : List Value).toArray below meth c H locs 0 0 (MQ below (va_Qi (fun v (u : SC) => (v, u) = f_Mo_count F A wh) (fun (u : SC) t => aW (dC, dI) (tM k) Ad (wM r k u.1 u.2) t) Ad) ([.ref (r 0), .int wh] : List Value).toArray s 0 0 Ad) (F0 m 122 ls []) := by
                          intro n122
                          induction n122 with
                          | zero => intro x2 x4 ls hlp; exact (hlp.z).elim
                          | succ n122 ih122 =>
                            intro x2 x4 ls hlp122 hv hl
                            rw [f_Mo_count_L122] at hv
                            refine lv_iload hx hb d_Mo_count_122 (lv_at hl 4 rfl) ?_
                            refine lv_iload_n hx hb d_Mo_count_124 rfl (lv_at hl 3 rfl) ?_
                            refine lv_icmp_ge (tgt := 171) hx hb d_Mo_count_125 (by decide) (fun c_13 => ?_) (fun c_13 => ?_)
                            · have hv := hv.trans (if_pos c_13)
                              try dsimp only at hv
                              refine lv_iinc (v := x3 + 1) (lv' := [(3, .int (x3 + 1)), (0, .ref (r 0)), (1, .int wh), (2, .int x2), (4, .int x4)]) hx hb d_Mo_count_171 hl (k := 3) rfl rfl (by decide) rfl (fun ls hl => ?_)
                              refine lv_goto (tgt := 105) hx hb d_Mo_count_174 (by decide) ?_
                              exact ih105 x2 (x3 + 1) ls (LA.s hlp105 c_6 hg1) hv (lv_sub hl [1, 2, 3, 0] rfl)
                            · have hv := hv.trans (if_neg c_13)
                              refine lv_iload_n hx hb d_Mo_count_128 rfl (lv_at hl 2 rfl) ?_
                              refine lv_aload_n hx hb d_Mo_count_129 rfl (lv_at hl 0 rfl) ?_
                              refine va_get (D := (dC, dI)) (ci := 3) (v := .ref (r 14)) (C := R_Mo) (T := F_Mo) (N := 19) hx hb hW i_Mo hown hK hP 0 rfl rfl 18 (by decide) (hW _ k_216) (fun _ h9 => h9) rfl d_Mo_count_130 ?_
                              refine lv_iload_n hx hb d_Mo_count_133 rfl (lv_at hl 3 rfl) ?_
                              refine va_iald hx hb hK hP 14 13 rfl rfl (LA.ix hlp105 c_6 hg1) d_Mo_count_134 ?_
                              refine lv_if_ne (tgt := 162) hx hb d_Mo_count_135 (by decide) (fun c_14 => ?_) (fun c_14 => ?_)
                              · have hv := hv.trans (if_neg c_14)
                                refine lv_iconst (v := 0) hx hb d_Mo_count_162 (by decide) ?_
                                refine lv_iadd hx hb d_Mo_count_163 ?_
                                refine lv_istore_n (lv' := [(2, .int (x2 + 0)), (0, .ref (r 0)), (1, .int wh), (3, .int x3), (4, .int x4)]) hx hb d_Mo_count_164 rfl hl (by decide) rfl (fun ls hl => ?_)
                                refine lv_iinc (v := x4 + 1) (lv' := [(4, .int (x4 + 1)), (2, .int (x2 + 0)), (0, .ref (r 0)), (1, .int wh), (3, .int x3)]) hx hb d_Mo_count_165 hl (k := 4) rfl rfl (by decide) rfl (fun ls hl => ?_)
                                refine lv_goto (tgt := 122) hx hb d_Mo_count_168 (by decide) ?_
                                exact ih122 (x2 + 0) (x4 + 1) ls (LC.s hlp122 c_13 (LA.le61 hlp105 c_6 hg1)) hv (lv_sub hl [2, 3, 1, 4, 0] rfl)
                              · have hv := hv.trans (if_pos c_14)
                                refine lv_aload_n hx hb d_Mo_count_138 rfl (lv_at hl 0 rfl) ?_
                                refine va_get (D := (dC, dI)) (ci := 3) (v := .ref (r 14)) (C := R_Mo) (T := F_Mo) (N := 19) hx hb hW i_Mo hown hK hP 0 rfl rfl 18 (by decide) (hW _ k_216) (fun _ h9 => h9) rfl d_Mo_count_139 ?_
                                refine lv_iload hx hb d_Mo_count_142 (lv_at hl 4 rfl) ?_
                                refine va_iald hx hb hK hP 14 13 rfl rfl (LC.ix hlp122 c_13 (LA.le61 hlp105 c_6 hg1)) d_Mo_count_144 ?_
                                refine lv_if_ne (tgt := 162) hx hb d_Mo_count_145 (by decide) (fun c_15 => ?_) (fun c_15 => ?_)
                                · have hv := hv.trans (if_neg c_15)
                                  refine lv_iconst (v := 0) hx hb d_Mo_count_162 (by decide) ?_
                                  refine lv_iadd hx hb d_Mo_count_163 ?_
                                  refine lv_istore_n (lv' := [(2, .int (x2 + 0)), (0, .ref (r 0)), (1, .int wh), (3, .int x3), (4, .int x4)]) hx hb d_Mo_count_164 rfl hl (by decide) rfl (fun ls hl => ?_)
                                  refine lv_iinc (v := x4 + 1) (lv' := [(4, .int (x4 + 1)), (2, .int (x2 + 0)), (0, .ref (r 0)), (1, .int wh), (3, .int x3)]) hx hb d_Mo_count_165 hl (k := 4) rfl rfl (by decide) rfl (fun ls hl => ?_)
                                  refine lv_goto (tgt := 122) hx hb d_Mo_count_168 (by decide) ?_
                                  exact ih122 (x2 + 0) (x4 + 1) ls (LC.s hlp122 c_13 (LA.le61 hlp105 c_6 hg1)) hv (lv_sub hl [2, 3, 1, 4, 0] rfl)
                                · have hv := hv.trans (if_pos c_15)
                                  refine lv_aload_n hx hb d_Mo_count_148 rfl (lv_at hl 0 rfl) ?_
                                  refine lv_iload_n hx hb d_Mo_count_149 rfl (lv_at hl 3 rfl) ?_
                                  refine lv_iload hx hb d_Mo_count_150 (lv_at hl 4 rfl) ?_
                                  refine rdV ⟨hx, hb, hml, hown, hW⟩ (c_Mo_meet l dC dI r k (uF F 0 0) A x3 x4  (LA.ix hlp105 c_6 hg1) (LC.ix hlp122 c_13 (LA.le61 hlp105 c_6 hg1))) (cwV 2 hW (gIn k_218 k_219 k_220 k_193 k_221) rfl rfl rfl (by decide +kernel) ⟨Nat.le_of_ble_eq_true rfl, Nat.le_of_ble_eq_true rfl⟩) hK hP (va_recv hK hP (ci := 3) (q0 := 0) rfl rfl) rfl hl.1 rfl (Nat.le_of_ble_eq_true rfl) d_Mo_count_152 ⟨Nat.zero_le _, Nat.zero_le _⟩ ?_
                                  refine lv_if_eq (tgt := 162) hx hb d_Mo_count_155 (by decide) (fun c_16 => ?_) (fun c_16 => ?_)
                                  · have hv := hv.trans (if_pos c_16)
                                    refine lv_iconst (v := 0) hx hb d_Mo_count_162 (by decide) ?_
                                    refine lv_iadd hx hb d_Mo_count_163 ?_
                                    refine lv_istore_n (lv' := [(2, .int (x2 + 0)), (0, .ref (r 0)), (1, .int wh), (3, .int x3), (4, .int x4)]) hx hb d_Mo_count_164 rfl hl (by decide) rfl (fun ls hl => ?_)
                                    refine lv_iinc (v := x4 + 1) (lv' := [(4, .int (x4 + 1)), (2, .int (x2 + 0)), (0, .ref (r 0)), (1, .int wh), (3, .int x3)]) hx hb d_Mo_count_165 hl (k := 4) rfl rfl (by decide) rfl (fun ls hl => ?_)
                                    refine lv_goto (tgt := 122) hx hb d_Mo_count_168 (by decide) ?_
                                    exact ih122 (x2 + 0) (x4 + 1) ls (LC.s hlp122 c_13 (LA.le61 hlp105 c_6 hg1)) hv (lv_sub hl [2, 3, 1, 4, 0] rfl)
                                  · have hv := hv.trans (if_neg c_16)
                                    refine lv_iconst (v := 1) hx hb d_Mo_count_158 (by decide) ?_
                                    refine lv_goto (tgt := 163) hx hb d_Mo_count_159 (by decide) ?_
                                    refine lv_iadd hx hb d_Mo_count_163 ?_
                                    refine lv_istore_n (lv' := [(2, .int (x2 + 1)), (0, .ref (r 0)), (1, .int wh), (3, .int x3), (4, .int x4)]) hx hb d_Mo_count_164 rfl hl (by decide) rfl (fun ls hl => ?_)
                                    refine lv_iinc (v := x4 + 1) (lv' := [(4, .int (x4 + 1)), (2, .int (x2 + 1)), (0, .ref (r 0)), (1, .int wh), (3, .int x3)]) hx hb d_Mo_count_165 hl (k := 4) rfl rfl (by decide) rfl (fun ls hl => ?_)
                                    refine lv_goto (tgt := 122) hx hb d_Mo_count_168 (by decide) ?_
                                    exact ih122 (x2 + 1) (x4 + 1) ls (LC.s hlp122 c_13 (LA.le61 hlp105 c_6 hg1)) hv (lv_sub hl [2, 3, 1, 4, 0] rfl)
                        exact loop122 64 x2 1 ls (LC.i hlp105.1 (LA.le61 hlp105 c_6 hg1)) hv (lv_sub hl [1, 2, 3, 4, 0] rfl)
                exact loop105 64 x2 1 ls (LA.i hg0 hg1) hv (lv_sub hl [1, 2, 3, 0] rfl)
              · have hv := hv.trans (if_neg c_5)
                refine lv_iload_n hx hb d_Mo_count_56 rfl (lv_at hl 1 rfl) ?_
                refine lv_iconst (v := 3) hx hb d_Mo_count_57 (by decide) ?_
                refine lv_icmp_eq (tgt := 66) hx hb d_Mo_count_58 (by decide) (fun c_17 => ?_) (fun c_17 => ?_)
                · have hv := hv.trans (if_pos c_17)
                  refine lv_iload_n hx hb d_Mo_count_66 rfl (lv_at hl 2 rfl) ?_
                  refine lv_iload_n hx hb d_Mo_count_67 rfl (lv_at hl 1 rfl) ?_
                  refine lv_iconst (v := 3) hx hb d_Mo_count_68 (by decide) ?_
                  refine lv_icmp_ne (tgt := 80) hx hb d_Mo_count_69 (by decide) (fun h9 => absurd c_17 h9) (fun _ => ?_)
                  refine lv_aload_n hx hb d_Mo_count_72 rfl (lv_at hl 0 rfl) ?_
                  refine lv_iload_n hx hb d_Mo_count_73 rfl (lv_at hl 3 rfl) ?_
                  refine rdV ⟨hx, hb, hml, hown, hW⟩ (c_Mo_liveOf l dC dI r k (uF F 0 0) A x3 hI ) (cwV 1 hW (gIn k_244 k_245 k_246 k_193 k_247) rfl rfl rfl (by decide +kernel) ⟨Nat.le_of_ble_eq_true rfl, Nat.le_of_ble_eq_true rfl⟩) hK hP (va_recv hK hP (ci := 3) (q0 := 0) rfl rfl) rfl hl.1 rfl (Nat.le_of_ble_eq_true rfl) d_Mo_count_74 ⟨Nat.zero_le _, Nat.zero_le _⟩ ?_
                  refine lv_goto (tgt := 95) hx hb d_Mo_count_77 (by decide) ?_
                  refine lv_iadd hx hb d_Mo_count_95 ?_
                  refine lv_istore_n (lv' := [(2, .int (x2 + (f_Mo_liveOf (uF F 0 0) A x3))), (0, .ref (r 0)), (1, .int wh), (3, .int x3)]) hx hb d_Mo_count_96 rfl hl (by decide) rfl (fun ls hl => ?_)
                  refine lv_iinc (v := x3 + 1) (lv' := [(3, .int (x3 + 1)), (2, .int (x2 + (f_Mo_liveOf (uF F 0 0) A x3))), (0, .ref (r 0)), (1, .int wh)]) hx hb d_Mo_count_97 hl (k := 3) rfl rfl (by decide) rfl (fun ls hl => ?_)
                  refine lv_goto (tgt := 48) hx hb d_Mo_count_100 (by decide) ?_
                  exact ih48 (x2 + (f_Mo_liveOf (uF F 0 0) A x3)) (x3 + 1) ls (LB.s hlp48 c_5 hr2) hv (lv_sub hl [2, 3, 1, 0] rfl)
                · have hv := hv.trans (if_neg c_17)
                  refine lv_iload_n hx hb d_Mo_count_61 rfl (lv_at hl 1 rfl) ?_
                  refine lv_iconst (v := 5) hx hb d_Mo_count_62 (by decide) ?_
                  refine lv_icmp_ne (tgt := 103) hx hb d_Mo_count_63 (by decide) (fun c_18 => ?_) (fun c_18 => ?_)
                  · have hv := hv.trans (if_neg c_18)
                    refine lv_iconst (v := 1) hx hb d_Mo_count_103 (by decide) ?_
                    refine lv_istore_n (lv' := [(3, .int 1), (0, .ref (r 0)), (1, .int wh), (2, .int x2)]) hx hb d_Mo_count_104 rfl hl (by decide) rfl (fun ls hl => ?_)
                    have loop105 : ∀ (n105 : Nat) (x2 : Int32) (x3 : Int32) (ls : Array Slot), LA (F 4) x3 n105 → f_Mo_count F A wh = f_Mo_count_L105b F A wh n105 x2 x3 → lv_has ls 5 [(0, .ref (r 0)), (1, .int wh), (2, .int x2), (3, .int x3)] → W p l e (headSpec w_Mo_count ({ frames := 1, cells := 0, slots := 0, locals := 23 })).room s m ([.ref (r 0), .int wh] : List Value).toArray below meth c H locs 0 0 (MQ below (va_Qi (fun v (u : SC) => (v, u) = f_Mo_count F A wh) (fun (u : SC) t => aW (dC, dI) (tM k) Ad (wM r k u.1 u.2) t) Ad) ([.ref (r 0), .int wh] : List Value).toArray s 0 0 Ad) (F0 m 105 ls []) := by
                      intro n105
                      induction n105 with
                      | zero => intro x2 x3 ls hlp; exact (hlp.z).elim
                      | succ n105 ih105 =>
                        intro x2 x3 ls hlp105 hv hl
                        rw [f_Mo_count_L105b] at hv
                        refine lv_iload_n hx hb d_Mo_count_105 rfl (lv_at hl 3 rfl) ?_
                        refine lv_aload_n hx hb d_Mo_count_106 rfl (lv_at hl 0 rfl) ?_
                        refine va_get (D := (dC, dI)) (ci := 3) (v := .int (F 4)) (C := R_Mo) (T := F_Mo) (N := 19) hx hb hW i_Mo hown hK hP 0 rfl rfl 12 (by decide) (hW _ k_196) (fun _ h9 => h9) rfl d_Mo_count_107 ?_
                        refine lv_icmp_gt (tgt := 177) hx hb d_Mo_count_110 (by decide) (fun c_19 => ?_) (fun c_19 => ?_)
                        · have hv := hv.trans (if_pos c_19)
                          refine lv_iload_n hx hb d_Mo_count_177 rfl (lv_at hl 1 rfl) ?_
                          refine lv_iconst (v := 3) hx hb d_Mo_count_178 (by decide) ?_
                          refine lv_icmp_eq (tgt := 193) hx hb d_Mo_count_179 (by decide) (fun h9 => absurd h9 c_17) (fun _ => ?_)
                          refine lv_iload_n hx hb d_Mo_count_182 rfl (lv_at hl 1 rfl) ?_
                          refine lv_iconst (v := 5) hx hb d_Mo_count_183 (by decide) ?_
                          refine lv_icmp_eq (tgt := 193) hx hb d_Mo_count_184 (by decide) (fun h9 => absurd h9 c_18) (fun _ => ?_)
                          refine lv_iload_n hx hb d_Mo_count_187 rfl (lv_at hl 1 rfl) ?_
                          refine lv_bipush (v := 6) hx hb d_Mo_count_188 (by decide) ?_
                          refine lv_icmp_ne (tgt := 197) hx hb d_Mo_count_190 (by decide) (fun c_20 => ?_) (fun c_20 => ?_)
                          · have hv := hv.trans (if_neg c_20)
                            refine lv_iconst (v := (-1)) hx hb d_Mo_count_197 (by decide) ?_
                            exact W.iret (v := (-1)) hx hb hr (fun t ht hW9 => ⟨⟨(-1), ((uF F 0 0), A), rfl, hv.symm, by rw [ht]; exact hP, va_K.moved hW9.alike hK, hD⟩, hS.F ht⟩) hS.2.2 d_Mo_count_198
                          · have hv := hv.trans (if_pos c_20)
                            refine lv_iload_n hx hb d_Mo_count_193 rfl (lv_at hl 2 rfl) ?_
                            refine lv_goto (tgt := 198) hx hb d_Mo_count_194 (by decide) ?_
                            exact W.iret (v := x2) hx hb hr (fun t ht hW9 => ⟨⟨x2, ((uF F 0 0), A), rfl, hv.symm, by rw [ht]; exact hP, va_K.moved hW9.alike hK, hD⟩, hS.F ht⟩) hS.2.2 d_Mo_count_198
                        · have hv := hv.trans (if_neg c_19)
                          refine lv_iload_n hx hb d_Mo_count_113 rfl (lv_at hl 1 rfl) ?_
                          refine lv_bipush (v := 6) hx hb d_Mo_count_114 (by decide) ?_
                          refine lv_icmp_ne (tgt := 177) hx hb d_Mo_count_116 (by decide) (fun c_21 => ?_) (fun c_21 => ?_)
                          · have hv := hv.trans (if_neg c_21)
                            refine lv_iload_n hx hb d_Mo_count_177 rfl (lv_at hl 1 rfl) ?_
                            refine lv_iconst (v := 3) hx hb d_Mo_count_178 (by decide) ?_
                            refine lv_icmp_eq (tgt := 193) hx hb d_Mo_count_179 (by decide) (fun h9 => absurd h9 c_17) (fun _ => ?_)
                            refine lv_iload_n hx hb d_Mo_count_182 rfl (lv_at hl 1 rfl) ?_
                            refine lv_iconst (v := 5) hx hb d_Mo_count_183 (by decide) ?_
                            refine lv_icmp_eq (tgt := 193) hx hb d_Mo_count_184 (by decide) (fun h9 => absurd h9 c_18) (fun _ => ?_)
                            refine lv_iload_n hx hb d_Mo_count_187 rfl (lv_at hl 1 rfl) ?_
                            refine lv_bipush (v := 6) hx hb d_Mo_count_188 (by decide) ?_
                            refine lv_icmp_ne (tgt := 197) hx hb d_Mo_count_190 (by decide) (fun _ => ?_) (fun h9 => absurd h9 c_21)
                            refine lv_iconst (v := (-1)) hx hb d_Mo_count_197 (by decide) ?_
                            exact W.iret (v := (-1)) hx hb hr (fun t ht hW9 => ⟨⟨(-1), ((uF F 0 0), A), rfl, hv.symm, by rw [ht]; exact hP, va_K.moved hW9.alike hK, hD⟩, hS.F ht⟩) hS.2.2 d_Mo_count_198
                          · have hv := hv.trans (if_pos c_21)
                            refine lv_iconst (v := 1) hx hb d_Mo_count_119 (by decide) ?_
                            refine lv_istore (lv' := [(4, .int 1), (0, .ref (r 0)), (1, .int wh), (2, .int x2), (3, .int x3)]) hx hb d_Mo_count_120 hl (by decide) rfl (fun ls hl => ?_)
                            have loop122 : ∀ (n122 : Nat) (x2 : Int32) (x4 : Int32) (ls : Array Slot), LC x3 x4 n122 → f_Mo_count F A wh = f_Mo_count_L122 F A wh x3 (fun x2 x4 => f_Mo_count_L105b F A wh n105 x2 (x3 + 1)) n122 x2 x4 → lv_has ls 5 [(0, .ref (r 0)), (1, .int wh), (2, .int x2), (3, .int x3), (4, .int x4)] → W p l e (headSpec w_Mo_count ({ frames := 1, cells := 0, slots := 0, locals := 23 })).room s m ([.ref (r 0), .int wh] : List Value).toArray below meth c H locs 0 0 (MQ below (va_Qi (fun v (u : SC) => (v, u) = f_Mo_count F A wh) (fun (u : SC) t => aW (dC, dI) (tM k) Ad (wM r k u.1 u.2) t) Ad) ([.ref (r 0), .int wh] : List Value).toArray s 0 0 Ad) (F0 m 122 ls []) := by
                              intro n122
                              induction n122 with
                              | zero => intro x2 x4 ls hlp; exact (hlp.z).elim
                              | succ n122 ih122 =>
                                intro x2 x4 ls hlp122 hv hl
                                rw [f_Mo_count_L122] at hv
                                refine lv_iload hx hb d_Mo_count_122 (lv_at hl 4 rfl) ?_
                                refine lv_iload_n hx hb d_Mo_count_124 rfl (lv_at hl 3 rfl) ?_
                                refine lv_icmp_ge (tgt := 171) hx hb d_Mo_count_125 (by decide) (fun c_22 => ?_) (fun c_22 => ?_)
                                · have hv := hv.trans (if_pos c_22)
                                  try dsimp only at hv
                                  refine lv_iinc (v := x3 + 1) (lv' := [(3, .int (x3 + 1)), (0, .ref (r 0)), (1, .int wh), (2, .int x2), (4, .int x4)]) hx hb d_Mo_count_171 hl (k := 3) rfl rfl (by decide) rfl (fun ls hl => ?_)
                                  refine lv_goto (tgt := 105) hx hb d_Mo_count_174 (by decide) ?_
                                  exact ih105 x2 (x3 + 1) ls (LA.s hlp105 c_19 hg1) hv (lv_sub hl [1, 2, 3, 0] rfl)
                                · have hv := hv.trans (if_neg c_22)
                                  refine lv_iload_n hx hb d_Mo_count_128 rfl (lv_at hl 2 rfl) ?_
                                  refine lv_aload_n hx hb d_Mo_count_129 rfl (lv_at hl 0 rfl) ?_
                                  refine va_get (D := (dC, dI)) (ci := 3) (v := .ref (r 14)) (C := R_Mo) (T := F_Mo) (N := 19) hx hb hW i_Mo hown hK hP 0 rfl rfl 18 (by decide) (hW _ k_216) (fun _ h9 => h9) rfl d_Mo_count_130 ?_
                                  refine lv_iload_n hx hb d_Mo_count_133 rfl (lv_at hl 3 rfl) ?_
                                  refine va_iald hx hb hK hP 14 13 rfl rfl (LA.ix hlp105 c_19 hg1) d_Mo_count_134 ?_
                                  refine lv_if_ne (tgt := 162) hx hb d_Mo_count_135 (by decide) (fun c_23 => ?_) (fun c_23 => ?_)
                                  · have hv := hv.trans (if_neg c_23)
                                    refine lv_iconst (v := 0) hx hb d_Mo_count_162 (by decide) ?_
                                    refine lv_iadd hx hb d_Mo_count_163 ?_
                                    refine lv_istore_n (lv' := [(2, .int (x2 + 0)), (0, .ref (r 0)), (1, .int wh), (3, .int x3), (4, .int x4)]) hx hb d_Mo_count_164 rfl hl (by decide) rfl (fun ls hl => ?_)
                                    refine lv_iinc (v := x4 + 1) (lv' := [(4, .int (x4 + 1)), (2, .int (x2 + 0)), (0, .ref (r 0)), (1, .int wh), (3, .int x3)]) hx hb d_Mo_count_165 hl (k := 4) rfl rfl (by decide) rfl (fun ls hl => ?_)
                                    refine lv_goto (tgt := 122) hx hb d_Mo_count_168 (by decide) ?_
                                    exact ih122 (x2 + 0) (x4 + 1) ls (LC.s hlp122 c_22 (LA.le61 hlp105 c_19 hg1)) hv (lv_sub hl [2, 3, 1, 4, 0] rfl)
                                  · have hv := hv.trans (if_pos c_23)
                                    refine lv_aload_n hx hb d_Mo_count_138 rfl (lv_at hl 0 rfl) ?_
                                    refine va_get (D := (dC, dI)) (ci := 3) (v := .ref (r 14)) (C := R_Mo) (T := F_Mo) (N := 19) hx hb hW i_Mo hown hK hP 0 rfl rfl 18 (by decide) (hW _ k_216) (fun _ h9 => h9) rfl d_Mo_count_139 ?_
                                    refine lv_iload hx hb d_Mo_count_142 (lv_at hl 4 rfl) ?_
                                    refine va_iald hx hb hK hP 14 13 rfl rfl (LC.ix hlp122 c_22 (LA.le61 hlp105 c_19 hg1)) d_Mo_count_144 ?_
                                    refine lv_if_ne (tgt := 162) hx hb d_Mo_count_145 (by decide) (fun c_24 => ?_) (fun c_24 => ?_)
                                    · have hv := hv.trans (if_neg c_24)
                                      refine lv_iconst (v := 0) hx hb d_Mo_count_162 (by decide) ?_
                                      refine lv_iadd hx hb d_Mo_count_163 ?_
                                      refine lv_istore_n (lv' := [(2, .int (x2 + 0)), (0, .ref (r 0)), (1, .int wh), (3, .int x3), (4, .int x4)]) hx hb d_Mo_count_164 rfl hl (by decide) rfl (fun ls hl => ?_)
                                      refine lv_iinc (v := x4 + 1) (lv' := [(4, .int (x4 + 1)), (2, .int (x2 + 0)), (0, .ref (r 0)), (1, .int wh), (3, .int x3)]) hx hb d_Mo_count_165 hl (k := 4) rfl rfl (by decide) rfl (fun ls hl => ?_)
                                      refine lv_goto (tgt := 122) hx hb d_Mo_count_168 (by decide) ?_
                                      exact ih122 (x2 + 0) (x4 + 1) ls (LC.s hlp122 c_22 (LA.le61 hlp105 c_19 hg1)) hv (lv_sub hl [2, 3, 1, 4, 0] rfl)
                                    · have hv := hv.trans (if_pos c_24)
                                      refine lv_aload_n hx hb d_Mo_count_148 rfl (lv_at hl 0 rfl) ?_
                                      refine lv_iload_n hx hb d_Mo_count_149 rfl (lv_at hl 3 rfl) ?_
                                      refine lv_iload hx hb d_Mo_count_150 (lv_at hl 4 rfl) ?_
                                      refine rdV ⟨hx, hb, hml, hown, hW⟩ (c_Mo_meet l dC dI r k (uF F 0 0) A x3 x4  (LA.ix hlp105 c_19 hg1) (LC.ix hlp122 c_22 (LA.le61 hlp105 c_19 hg1))) (cwV 2 hW (gIn k_218 k_219 k_220 k_193 k_221) rfl rfl rfl (by decide +kernel) ⟨Nat.le_of_ble_eq_true rfl, Nat.le_of_ble_eq_true rfl⟩) hK hP (va_recv hK hP (ci := 3) (q0 := 0) rfl rfl) rfl hl.1 rfl (Nat.le_of_ble_eq_true rfl) d_Mo_count_152 ⟨Nat.zero_le _, Nat.zero_le _⟩ ?_
                                      refine lv_if_eq (tgt := 162) hx hb d_Mo_count_155 (by decide) (fun c_25 => ?_) (fun c_25 => ?_)
                                      · have hv := hv.trans (if_pos c_25)
                                        refine lv_iconst (v := 0) hx hb d_Mo_count_162 (by decide) ?_
                                        refine lv_iadd hx hb d_Mo_count_163 ?_
                                        refine lv_istore_n (lv' := [(2, .int (x2 + 0)), (0, .ref (r 0)), (1, .int wh), (3, .int x3), (4, .int x4)]) hx hb d_Mo_count_164 rfl hl (by decide) rfl (fun ls hl => ?_)
                                        refine lv_iinc (v := x4 + 1) (lv' := [(4, .int (x4 + 1)), (2, .int (x2 + 0)), (0, .ref (r 0)), (1, .int wh), (3, .int x3)]) hx hb d_Mo_count_165 hl (k := 4) rfl rfl (by decide) rfl (fun ls hl => ?_)
                                        refine lv_goto (tgt := 122) hx hb d_Mo_count_168 (by decide) ?_
                                        exact ih122 (x2 + 0) (x4 + 1) ls (LC.s hlp122 c_22 (LA.le61 hlp105 c_19 hg1)) hv (lv_sub hl [2, 3, 1, 4, 0] rfl)
                                      · have hv := hv.trans (if_neg c_25)
                                        refine lv_iconst (v := 1) hx hb d_Mo_count_158 (by decide) ?_
                                        refine lv_goto (tgt := 163) hx hb d_Mo_count_159 (by decide) ?_
                                        refine lv_iadd hx hb d_Mo_count_163 ?_
                                        refine lv_istore_n (lv' := [(2, .int (x2 + 1)), (0, .ref (r 0)), (1, .int wh), (3, .int x3), (4, .int x4)]) hx hb d_Mo_count_164 rfl hl (by decide) rfl (fun ls hl => ?_)
                                        refine lv_iinc (v := x4 + 1) (lv' := [(4, .int (x4 + 1)), (2, .int (x2 + 1)), (0, .ref (r 0)), (1, .int wh), (3, .int x3)]) hx hb d_Mo_count_165 hl (k := 4) rfl rfl (by decide) rfl (fun ls hl => ?_)
                                        refine lv_goto (tgt := 122) hx hb d_Mo_count_168 (by decide) ?_
                                        exact ih122 (x2 + 1) (x4 + 1) ls (LC.s hlp122 c_22 (LA.le61 hlp105 c_19 hg1)) hv (lv_sub hl [2, 3, 1, 4, 0] rfl)
                            exact loop122 64 x2 1 ls (LC.i hlp105.1 (LA.le61 hlp105 c_19 hg1)) hv (lv_sub hl [1, 2, 3, 4, 0] rfl)
                    exact loop105 64 x2 1 ls (LA.i hg0 hg1) hv (lv_sub hl [1, 2, 3, 0] rfl)
                  · have hv := hv.trans (if_pos c_18)
                    refine lv_iload_n hx hb d_Mo_count_66 rfl (lv_at hl 2 rfl) ?_
                    refine lv_iload_n hx hb d_Mo_count_67 rfl (lv_at hl 1 rfl) ?_
                    refine lv_iconst (v := 3) hx hb d_Mo_count_68 (by decide) ?_
                    refine lv_icmp_ne (tgt := 80) hx hb d_Mo_count_69 (by decide) (fun _ => ?_) (fun h9 => absurd h9 c_17)
                    refine lv_aload_n hx hb d_Mo_count_80 rfl (lv_at hl 0 rfl) ?_
                    refine va_get (D := (dC, dI)) (ci := 3) (v := .ref (r 6)) (C := R_Mo) (T := F_Mo) (N := 19) hx hb hW i_Mo hown hK hP 0 rfl rfl 9 (by decide) (hW _ k_210) (fun _ h9 => h9) rfl d_Mo_count_81 ?_
                    refine lv_iload_n hx hb d_Mo_count_84 rfl (lv_at hl 3 rfl) ?_
                    refine va_iald hx hb hK hP 6 5 rfl rfl (LB.ixn hlp48 c_5 hr1) d_Mo_count_85 ?_
                    refine lv_iconst (v := (-1)) hx hb d_Mo_count_86 (by decide) ?_
                    refine lv_icmp_ne (tgt := 94) hx hb d_Mo_count_87 (by decide) (fun c_26 => ?_) (fun c_26 => ?_)
                    · have hv := hv.trans (if_neg c_26)
                      refine lv_iconst (v := 1) hx hb d_Mo_count_94 (by decide) ?_
                      refine lv_iadd hx hb d_Mo_count_95 ?_
                      refine lv_istore_n (lv' := [(2, .int (x2 + 1)), (0, .ref (r 0)), (1, .int wh), (3, .int x3)]) hx hb d_Mo_count_96 rfl hl (by decide) rfl (fun ls hl => ?_)
                      refine lv_iinc (v := x3 + 1) (lv' := [(3, .int (x3 + 1)), (2, .int (x2 + 1)), (0, .ref (r 0)), (1, .int wh)]) hx hb d_Mo_count_97 hl (k := 3) rfl rfl (by decide) rfl (fun ls hl => ?_)
                      refine lv_goto (tgt := 48) hx hb d_Mo_count_100 (by decide) ?_
                      exact ih48 (x2 + 1) (x3 + 1) ls (LB.s hlp48 c_5 hr2) hv (lv_sub hl [2, 3, 1, 0] rfl)
                    · have hv := hv.trans (if_pos c_26)
                      refine lv_iconst (v := 0) hx hb d_Mo_count_90 (by decide) ?_
                      refine lv_goto (tgt := 95) hx hb d_Mo_count_91 (by decide) ?_
                      refine lv_iadd hx hb d_Mo_count_95 ?_
                      refine lv_istore_n (lv' := [(2, .int (x2 + 0)), (0, .ref (r 0)), (1, .int wh), (3, .int x3)]) hx hb d_Mo_count_96 rfl hl (by decide) rfl (fun ls hl => ?_)
                      refine lv_iinc (v := x3 + 1) (lv' := [(3, .int (x3 + 1)), (2, .int (x2 + 0)), (0, .ref (r 0)), (1, .int wh)]) hx hb d_Mo_count_97 hl (k := 3) rfl rfl (by decide) rfl (fun ls hl => ?_)
                      refine lv_goto (tgt := 48) hx hb d_Mo_count_100 (by decide) ?_
                      exact ih48 (x2 + 0) (x3 + 1) ls (LB.s hlp48 c_5 hr2) hv (lv_sub hl [2, 3, 1, 0] rfl)
          exact loop48 64 0 0 ls (LB.i hr0 hr2) hv (lv_sub hl [2, 3, 1, 0] rfl)
        · have hv := hv.trans (if_pos c_4)
          refine lv_aload_n hx hb d_Mo_count_39 rfl (lv_at hl 0 rfl) ?_
          refine va_get (D := (dC, dI)) (ci := 3) (v := .int (F 1)) (C := R_Mo) (T := F_Mo) (N := 19) hx hb hW i_Mo hown hK hP 0 rfl rfl 1 (by decide) (hW _ k_212) (fun _ h9 => h9) rfl d_Mo_count_40 ?_
          exact W.iret (v := F 1) hx hb hr (fun t ht hW9 => ⟨⟨F 1, ((uF F 0 0), A), rfl, hv.symm, by rw [ht]; exact hP, va_K.moved hW9.alike hK, hD⟩, hS.F ht⟩) hS.2.2 d_Mo_count_43
      · have hv := hv.trans (if_pos c_3)
        refine lv_aload_n hx hb d_Mo_count_29 rfl (lv_at hl 0 rfl) ?_
        refine va_get (D := (dC, dI)) (ci := 3) (v := .int (F 4)) (C := R_Mo) (T := F_Mo) (N := 19) hx hb hW i_Mo hown hK hP 0 rfl rfl 12 (by decide) (hW _ k_196) (fun _ h9 => h9) rfl d_Mo_count_30 ?_
        exact W.iret (v := F 4) hx hb hr (fun t ht hW9 => ⟨⟨F 4, ((uF F 0 0), A), rfl, hv.symm, by rw [ht]; exact hP, va_K.moved hW9.alike hK, hD⟩, hS.F ht⟩) hS.2.2 d_Mo_count_33
    · have hv := hv.trans (if_pos c_2)
      refine lv_aload_n hx hb d_Mo_count_19 rfl (lv_at hl 0 rfl) ?_
      refine va_get (D := (dC, dI)) (ci := 3) (v := .int (F 3)) (C := R_Mo) (T := F_Mo) (N := 19) hx hb hW i_Mo hown hK hP 0 rfl rfl 5 (by decide) (hW _ k_195) (fun _ h9 => h9) rfl d_Mo_count_20 ?_
      exact W.iret (v := F 3) hx hb hr (fun t ht hW9 => ⟨⟨F 3, ((uF F 0 0), A), rfl, hv.symm, by rw [ht]; exact hP, va_K.moved hW9.alike hK, hD⟩, hS.F ht⟩) hS.2.2 d_Mo_count_23
  · have hv := hv.trans (if_pos c_1)
    refine lv_aload_n hx hb d_Mo_count_9 rfl (lv_at hl 0 rfl) ?_
    refine va_get (D := (dC, dI)) (ci := 3) (v := .int (F 2)) (C := R_Mo) (T := F_Mo) (N := 19) hx hb hW i_Mo hown hK hP 0 rfl rfl 2 (by decide) (hW _ k_190) (fun _ h9 => h9) rfl d_Mo_count_10 ?_
    exact W.iret (v := F 2) hx hb hr (fun t ht hW9 => ⟨⟨F 2, ((uF F 0 0), A), rfl, hv.symm, by rw [ht]; exact hP, va_K.moved hW9.alike hK, hD⟩, hS.F ht⟩) hS.2.2 d_Mo_count_13
