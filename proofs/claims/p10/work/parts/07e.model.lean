def f_Mo_bestOf_L5 (F : Nat → Int32) (A : Nat → Nat → Int32) (rb pc : Int32) : Nat → Int32 → Int32 → Int32
  | 0, _, _ => 0
  | n5 + 1, x3, x4 => if F 4 < x4 then x3 else (if A 8 x4.toNatClampNeg = rb then (if A 9 x4.toNatClampNeg = pc then (if A 13 x4.toNatClampNeg = 0 then (if A 12 x4.toNatClampNeg ≤ x3 then (f_Mo_bestOf_L5 F A rb pc n5 x3 (x4 + 1)) else (f_Mo_bestOf_L5 F A rb pc n5 (A 12 x4.toNatClampNeg) (x4 + 1))) else (f_Mo_bestOf_L5 F A rb pc n5 x3 (x4 + 1))) else (f_Mo_bestOf_L5 F A rb pc n5 x3 (x4 + 1))) else (f_Mo_bestOf_L5 F A rb pc n5 x3 (x4 + 1)))
def f_Mo_bestOf (F : Nat → Int32) (A : Nat → Nat → Int32) (rb pc : Int32) : Int32 := f_Mo_bestOf_L5 F A rb pc 64 0 1
set_option maxHeartbeats 4000000 in
set_option maxRecDepth 100000 in
theorem c_Mo_bestOf (l : Launch) (dC : Nat → ClassId) (dI : Nat → Nat → Nat) (r : Nat → Nat) (k : Nat → ClassId) (F : Nat → Int32) (A : Nat → Nat → Int32) (rb pc : Int32) (hI : SI F) : Met l y_Mo_bestOf w_Mo_bestOf ({ frames := 0, cells := 0, slots := 0, locals := 0 }) (va_Pc [.ref (r 0), .int rb, .int pc] (RO (dC, dI) (wM r k F A) (tM k))) (vp_Si (fun v => v = f_Mo_bestOf F A rb pc)) 0 0 (fun _ => False) := by
  refine Met.ofW (cc := b_Mo_bestOf) (maxL := 5) (ret := (some .int)) (by decide) rfl ?_
  intro p e s m args below meth c s₁ B hml hv0
  obtain ⟨rfl, hP, hK⟩ := hv0
  have hx := B.exec
  have hb := B.bytes
  have hr := B.returns
  have hts := atoms_spec (ws := w_Mo_bestOf) B.pre
  have hW : ∀ w ∈ WALL, w.before ([.ref (r 0), .int rb, .int pc] : List Value).toArray s = true := fun w h => hts w (List.mem_cons_of_mem _ h)
  have hown : s.vm.findClass R_Mo = some m.cls := findClass_of_methodNamed B.named
  have hlocks := B.notSynchronized
  have hl := lv_entry ([.ref (r 0), .int rb, .int pc]) (n := 5) (Nat.le_of_ble_eq_true rfl)
  rw [lg_entry_eq]
  generalize (lg_sl ([.ref (r 0), .int rb, .int pc]) ++ List.replicate (5 - (lg_sl ([.ref (r 0), .int rb, .int pc])).length) Slot.unset).toArray = ls at hl ⊢
  have hl : lv_has ls 5 [(0, .ref (r 0)), (1, .int rb), (2, .int pc)] := hl
  obtain ⟨⟨hp0, hp1⟩, ⟨hr0, hr1⟩, hg0, hg1⟩ := id hI; have hr2 : (F 3).toInt ≤ 60 := Int.le_trans hr1 (by decide); have hp2 : (F 2).toInt ≤ 60 := Int.le_trans hp1 (by decide)
  have hv := f_Mo_bestOf.eq_1 F A rb pc
  refine lv_iconst (v := 0) hx hb d_Mo_bestOf_0 (by decide) ?_
  refine lv_istore_n (lv' := [(3, .int 0), (0, .ref (r 0)), (1, .int rb), (2, .int pc)]) hx hb d_Mo_bestOf_1 rfl hl (by decide) rfl (fun ls hl => ?_)
  refine lv_iconst (v := 1) hx hb d_Mo_bestOf_2 (by decide) ?_
  refine lv_istore (lv' := [(4, .int 1), (3, .int 0), (0, .ref (r 0)), (1, .int rb), (2, .int pc)]) hx hb d_Mo_bestOf_3 hl (by decide) rfl (fun ls hl => ?_)
  have loop5 : ∀ (n5 : Nat) (x3 : Int32) (x4 : Int32) (ls : Array Slot), LA (F 4) x4 n5 → f_Mo_bestOf F A rb pc = f_Mo_bestOf_L5 F A rb pc n5 x3 x4 → lv_has ls 5 [(0, .ref (r 0)), (1, .int rb), (2, .int pc), (3, .int x3), (4, .int x4)] → W p l e (headSpec w_Mo_bestOf ({ frames := 0, cells := 0, slots := 0, locals := 0 })).room s m ([.ref (r 0), .int rb, .int pc] : List Value).toArray below meth c s.heap [] 0 0 (MQ below (vp_Si (fun v => v = f_Mo_bestOf F A rb pc)) ([.ref (r 0), .int rb, .int pc] : List Value).toArray s 0 0 (fun _ => False)) (F0 m 5 ls []) := by
    intro n5
    induction n5 with
    | zero => intro x3 x4 ls hlp; exact (hlp.z).elim
    | succ n5 ih5 =>
      intro x3 x4 ls hlp5 hv hl
      rw [f_Mo_bestOf_L5] at hv
      refine lv_iload hx hb d_Mo_bestOf_5 (lv_at hl 4 rfl) ?_
      refine lv_aload_n hx hb d_Mo_bestOf_7 rfl (lv_at hl 0 rfl) ?_
      refine va_get (D := (dC, dI)) (ci := 3) (v := .int (F 4)) (C := R_Mo) (T := F_Mo) (N := 19) hx hb hW i_Mo hown hK hP 0 rfl rfl 12 (by decide) (hW _ k_196) (fun _ h9 => h9) rfl d_Mo_bestOf_8 ?_
      refine lv_icmp_gt (tgt := 71) hx hb d_Mo_bestOf_11 (by decide) (fun c_1 => ?_) (fun c_1 => ?_)
      · have hv := hv.trans (if_pos c_1)
        refine lv_iload_n hx hb d_Mo_bestOf_71 rfl (lv_at hl 3 rfl) ?_
        exact W.iret (v := x3) hx hb hr (fun t ht hW9 => ⟨x3, rfl, hv.symm, ht⟩) (fun q hq => nomatch hq) d_Mo_bestOf_72
      · have hv := hv.trans (if_neg c_1)
        refine lv_aload_n hx hb d_Mo_bestOf_14 rfl (lv_at hl 0 rfl) ?_
        refine va_get (D := (dC, dI)) (ci := 3) (v := .ref (r 9)) (C := R_Mo) (T := F_Mo) (N := 19) hx hb hW i_Mo hown hK hP 0 rfl rfl 13 (by decide) (hW _ k_217) (fun _ h9 => h9) rfl d_Mo_bestOf_15 ?_
        refine lv_iload hx hb d_Mo_bestOf_18 (lv_at hl 4 rfl) ?_
        refine va_iald hx hb hK hP 9 8 rfl rfl (LA.ix hlp5 c_1 hg1) d_Mo_bestOf_20 ?_
        refine lv_iload_n hx hb d_Mo_bestOf_21 rfl (lv_at hl 1 rfl) ?_
        refine lv_icmp_ne (tgt := 65) hx hb d_Mo_bestOf_22 (by decide) (fun c_2 => ?_) (fun c_2 => ?_)
        · have hv := hv.trans (if_neg c_2)
          refine lv_iinc (v := x4 + 1) (lv' := [(4, .int (x4 + 1)), (0, .ref (r 0)), (1, .int rb), (2, .int pc), (3, .int x3)]) hx hb d_Mo_bestOf_65 hl (k := 4) rfl rfl (by decide) rfl (fun ls hl => ?_)
          refine lv_goto (tgt := 5) hx hb d_Mo_bestOf_68 (by decide) ?_
          exact ih5 x3 (x4 + 1) ls (LA.s hlp5 c_1 hg1) hv (lv_sub hl [1, 2, 3, 4, 0] rfl)
        · have hv := hv.trans (if_pos c_2)
          refine lv_aload_n hx hb d_Mo_bestOf_25 rfl (lv_at hl 0 rfl) ?_
          refine va_get (D := (dC, dI)) (ci := 3) (v := .ref (r 10)) (C := R_Mo) (T := F_Mo) (N := 19) hx hb hW i_Mo hown hK hP 0 rfl rfl 14 (by decide) (hW _ k_213) (fun _ h9 => h9) rfl d_Mo_bestOf_26 ?_
          refine lv_iload hx hb d_Mo_bestOf_29 (lv_at hl 4 rfl) ?_
          refine va_iald hx hb hK hP 10 9 rfl rfl (LA.ix hlp5 c_1 hg1) d_Mo_bestOf_31 ?_
          refine lv_iload_n hx hb d_Mo_bestOf_32 rfl (lv_at hl 2 rfl) ?_
          refine lv_icmp_ne (tgt := 65) hx hb d_Mo_bestOf_33 (by decide) (fun c_3 => ?_) (fun c_3 => ?_)
          · have hv := hv.trans (if_neg c_3)
            refine lv_iinc (v := x4 + 1) (lv' := [(4, .int (x4 + 1)), (0, .ref (r 0)), (1, .int rb), (2, .int pc), (3, .int x3)]) hx hb d_Mo_bestOf_65 hl (k := 4) rfl rfl (by decide) rfl (fun ls hl => ?_)
            refine lv_goto (tgt := 5) hx hb d_Mo_bestOf_68 (by decide) ?_
            exact ih5 x3 (x4 + 1) ls (LA.s hlp5 c_1 hg1) hv (lv_sub hl [1, 2, 3, 4, 0] rfl)
          · have hv := hv.trans (if_pos c_3)
            refine lv_aload_n hx hb d_Mo_bestOf_36 rfl (lv_at hl 0 rfl) ?_
            refine va_get (D := (dC, dI)) (ci := 3) (v := .ref (r 14)) (C := R_Mo) (T := F_Mo) (N := 19) hx hb hW i_Mo hown hK hP 0 rfl rfl 18 (by decide) (hW _ k_216) (fun _ h9 => h9) rfl d_Mo_bestOf_37 ?_
            refine lv_iload hx hb d_Mo_bestOf_40 (lv_at hl 4 rfl) ?_
            refine va_iald hx hb hK hP 14 13 rfl rfl (LA.ix hlp5 c_1 hg1) d_Mo_bestOf_42 ?_
            refine lv_if_ne (tgt := 65) hx hb d_Mo_bestOf_43 (by decide) (fun c_4 => ?_) (fun c_4 => ?_)
            · have hv := hv.trans (if_neg c_4)
              refine lv_iinc (v := x4 + 1) (lv' := [(4, .int (x4 + 1)), (0, .ref (r 0)), (1, .int rb), (2, .int pc), (3, .int x3)]) hx hb d_Mo_bestOf_65 hl (k := 4) rfl rfl (by decide) rfl (fun ls hl => ?_)
              refine lv_goto (tgt := 5) hx hb d_Mo_bestOf_68 (by decide) ?_
              exact ih5 x3 (x4 + 1) ls (LA.s hlp5 c_1 hg1) hv (lv_sub hl [1, 2, 3, 4, 0] rfl)
            · have hv := hv.trans (if_pos c_4)
              refine lv_aload_n hx hb d_Mo_bestOf_46 rfl (lv_at hl 0 rfl) ?_
              refine va_get (D := (dC, dI)) (ci := 3) (v := .ref (r 13)) (C := R_Mo) (T := F_Mo) (N := 19) hx hb hW i_Mo hown hK hP 0 rfl rfl 17 (by decide) (hW _ k_235) (fun _ h9 => h9) rfl d_Mo_bestOf_47 ?_
              refine lv_iload hx hb d_Mo_bestOf_50 (lv_at hl 4 rfl) ?_
              refine va_iald hx hb hK hP 13 12 rfl rfl (LA.ix hlp5 c_1 hg1) d_Mo_bestOf_52 ?_
              refine lv_iload_n hx hb d_Mo_bestOf_53 rfl (lv_at hl 3 rfl) ?_
              refine lv_icmp_le (tgt := 65) hx hb d_Mo_bestOf_54 (by decide) (fun c_5 => ?_) (fun c_5 => ?_)
              · have hv := hv.trans (if_pos c_5)
                refine lv_iinc (v := x4 + 1) (lv' := [(4, .int (x4 + 1)), (0, .ref (r 0)), (1, .int rb), (2, .int pc), (3, .int x3)]) hx hb d_Mo_bestOf_65 hl (k := 4) rfl rfl (by decide) rfl (fun ls hl => ?_)
                refine lv_goto (tgt := 5) hx hb d_Mo_bestOf_68 (by decide) ?_
                exact ih5 x3 (x4 + 1) ls (LA.s hlp5 c_1 hg1) hv (lv_sub hl [1, 2, 3, 4, 0] rfl)
              · have hv := hv.trans (if_neg c_5)
                refine lv_aload_n hx hb d_Mo_bestOf_57 rfl (lv_at hl 0 rfl) ?_
                refine va_get (D := (dC, dI)) (ci := 3) (v := .ref (r 13)) (C := R_Mo) (T := F_Mo) (N := 19) hx hb hW i_Mo hown hK hP 0 rfl rfl 17 (by decide) (hW _ k_235) (fun _ h9 => h9) rfl d_Mo_bestOf_58 ?_
                refine lv_iload hx hb d_Mo_bestOf_61 (lv_at hl 4 rfl) ?_
                refine va_iald hx hb hK hP 13 12 rfl rfl (LA.ix hlp5 c_1 hg1) d_Mo_bestOf_63 ?_
                refine lv_istore_n (lv' := [(3, .int (A 12 x4.toNatClampNeg)), (0, .ref (r 0)), (1, .int rb), (2, .int pc), (4, .int x4)]) hx hb d_Mo_bestOf_64 rfl hl (by decide) rfl (fun ls hl => ?_)
                refine lv_iinc (v := x4 + 1) (lv' := [(4, .int (x4 + 1)), (3, .int (A 12 x4.toNatClampNeg)), (0, .ref (r 0)), (1, .int rb), (2, .int pc)]) hx hb d_Mo_bestOf_65 hl (k := 4) rfl rfl (by decide) rfl (fun ls hl => ?_)
                refine lv_goto (tgt := 5) hx hb d_Mo_bestOf_68 (by decide) ?_
                exact ih5 (A 12 x4.toNatClampNeg) (x4 + 1) ls (LA.s hlp5 c_1 hg1) hv (lv_sub hl [2, 3, 4, 1, 0] rfl)
  exact loop5 64 0 1 ls (LA.i hg0 hg1) hv (lv_sub hl [2, 3, 4, 1, 0] rfl)
def f_Mo_next_L21 (F : Nat → Int32) (A : Nat → Nat → Int32) (pc : Int32) : Nat → Int32 → Int32 → Int32 × SC
  | 0, _, _ => (0, F, A)
  | n21 + 1, x2, x3 => if F 3 ≤ x3 then (0, (uF F 0 1), A) else (0, (uF F 0 1), A)
def f_Mo_next_L21b (F : Nat → Int32) (A : Nat → Nat → Int32) (pc : Int32) : Nat → Int32 → Int32 → Int32 × SC
  | 0, _, _ => (0, F, A)
  | n21 + 1, x2, x3 => if F 3 ≤ x3 then (x2, (uF F 0 0), A) else (if A 5 x3.toNatClampNeg = pc then (if x2 = (-1) then (f_Mo_next_L21b F A pc n21 x3 (x3 + 1)) else (if f_Mo_bestOf (uF F 0 0) A x3 pc ≤ f_Mo_bestOf (uF F 0 0) A x2 pc then (f_Mo_next_L21b F A pc n21 x2 (x3 + 1)) else (f_Mo_next_L21b F A pc n21 x3 (x3 + 1)))) else (f_Mo_next_L21b F A pc n21 x2 (x3 + 1)))
def f_Mo_next (F : Nat → Int32) (A : Nat → Nat → Int32) (pc : Int32) : Int32 × SC := if f_Mo_isPiece F A pc = 0 then (f_Mo_next_L21 F A pc 64 (-1) 0) else (f_Mo_next_L21b F A pc 64 (-1) 0)
set_option maxHeartbeats 4000000 in
set_option maxRecDepth 100000 in
theorem c_Mo_next (l : Launch) (dC : Nat → ClassId) (dI : Nat → Nat → Nat) (r : Nat → Nat) (k : Nat → ClassId) (F : Nat → Int32) (A : Nat → Nat → Int32) (sz : Nat) (pc : Int32) (hI : SI F) : Met l y_Mo_next w_Mo_next ({ frames := 2, cells := 0, slots := 0, locals := 43 }) (va_Pc [.ref (r 0), .int pc] (SP (dC, dI) (wM r k F A) (tM k) sz)) (va_Qi (fun v (u : SC) => (v, u) = f_Mo_next F A pc) (fun (u : SC) t => aW (dC, dI) (tM k) (va_A (wM r k F A) sz) (wM r k u.1 u.2) t) (va_A (wM r k F A) sz)) 0 0 (va_A (wM r k F A) sz) := by
  refine Met.ofW (cc := b_Mo_next) (maxL := 4) (ret := (some .int)) (by decide) rfl ?_
  intro p e s m args below meth c s₁ B hml hv0
  obtain ⟨rfl, hsz, hP, hK, hD0⟩ := hv0
  have hx := B.exec
  have hb := B.bytes
  have hr := B.returns
  have hts := atoms_spec (ws := w_Mo_next) B.pre
  have hW : ∀ w ∈ WALL, w.before ([.ref (r 0), .int pc] : List Value).toArray s = true := fun w h => hts w (List.mem_cons_of_mem _ h)
  have hown : s.vm.findClass R_Mo = some m.cls := findClass_of_methodNamed B.named
  have hlocks := B.notSynchronized
  subst hsz
  have hD := hD0.self (sz := s.heap.size)
  generalize hAe : va_A (wM r k F A) s.heap.size = Ad at hD ⊢
  have hA : ∀ q : Nat, s.heap.size ≤ q → Ad q := fun q h => by rw [← hAe]; exact Or.inr h
  have hS : va_S Ad s.heap s.heap [] := va_S.rf
  have hl := lv_entry ([.ref (r 0), .int pc]) (n := 4) (Nat.le_of_ble_eq_true rfl)
  rw [lg_entry_eq]
  generalize (lg_sl ([.ref (r 0), .int pc]) ++ List.replicate (4 - (lg_sl ([.ref (r 0), .int pc])).length) Slot.unset).toArray = ls at hl ⊢
  have hl : lv_has ls 4 [(0, .ref (r 0)), (1, .int pc)] := hl
  obtain ⟨⟨hp0, hp1⟩, ⟨hr0, hr1⟩, hg0, hg1⟩ := id hI; have hr2 : (F 3).toInt ≤ 60 := Int.le_trans hr1 (by decide); have hp2 : (F 2).toInt ≤ 60 := Int.le_trans hp1 (by decide)
  have hv := f_Mo_next.eq_1 F A pc
  refine lv_aload_n hx hb d_Mo_next_0 rfl (lv_at hl 0 rfl) ?_
  refine lv_aload_n hx hb d_Mo_next_1 rfl (lv_at hl 0 rfl) ?_
  refine lv_iload_n hx hb d_Mo_next_2 rfl (lv_at hl 1 rfl) ?_
  refine rdV ⟨hx, hb, hml, hown, hW⟩ (c_Mo_isPiece l dC dI r k F A pc  ) (cwV 1 hW (gIn k_197 k_198 k_199 k_193 k_200) rfl rfl rfl (by decide +kernel) ⟨Nat.le_of_ble_eq_true rfl, Nat.le_of_ble_eq_true rfl⟩) hK hP (va_recv hK hP (ci := 3) (q0 := 0) rfl rfl) rfl hl.1 rfl (Nat.le_of_ble_eq_true rfl) d_Mo_next_3 ⟨Nat.zero_le _, Nat.zero_le _⟩ ?_
  refine lv_if_eq (tgt := 13) hx hb d_Mo_next_6 (by decide) (fun c_1 => ?_) (fun c_1 => ?_)
  · have hv := hv.trans (if_pos c_1)
    refine lv_iconst (v := 1) hx hb d_Mo_next_13 (by decide) ?_
    refine va_put (D := (dC, dI)) (ci := 3) (v := .int 1) (ty := .int) (C := R_Mo) (T := F_Mo) (N := 19) hx hb hW i_Mo t_Mo t_Mo_ok n_Mo hown hK hP hD hS 0 rfl rfl 0 (by decide) (hW _ k_189) (fun _ h9 => h9) rfl (by decide +kernel) rfl rfl (Nat.le_of_ble_eq_true rfl) d_Mo_next_14 (fun H locs hP hD hS => ?_)
    have hP := pMF_0 hP
    have hD := dMF_0 hD
    refine lv_iconst (v := (-1)) hx hb d_Mo_next_17 (by decide) ?_
    refine lv_istore_n (lv' := [(2, .int (-1)), (0, .ref (r 0)), (1, .int pc)]) hx hb d_Mo_next_18 rfl hl (by decide) rfl (fun ls hl => ?_)
    refine lv_iconst (v := 0) hx hb d_Mo_next_19 (by decide) ?_
    refine lv_istore_n (lv' := [(3, .int 0), (2, .int (-1)), (0, .ref (r 0)), (1, .int pc)]) hx hb d_Mo_next_20 rfl hl (by decide) rfl (fun ls hl => ?_)
    have loop21 : ∀ (n21 : Nat) (x2 : Int32) (x3 : Int32) (ls : Array Slot), LB (F 3) x3 n21 → f_Mo_next F A pc = f_Mo_next_L21 F A pc n21 x2 x3 → lv_has ls 4 [(0, .ref (r 0)), (1, .int pc), (2, .int x2), (3, .int x3)] → W p l e (headSpec w_Mo_next ({ frames := 2, cells := 0, slots := 0, locals := 43 })).room s m ([.ref (r 0), .int pc] : List Value).toArray below meth c H locs 0 0 (MQ below (va_Qi (fun v (u : SC) => (v, u) = f_Mo_next F A pc) (fun (u : SC) t => aW (dC, dI) (tM k) Ad (wM r k u.1 u.2) t) Ad) ([.ref (r 0), .int pc] : List Value).toArray s 0 0 Ad) (F0 m 21 ls []) := by
      intro n21
      induction n21 with
      | zero => intro x2 x3 ls hlp; exact (hlp.z).elim
      | succ n21 ih21 =>
        intro x2 x3 ls hlp21 hv hl
        rw [f_Mo_next_L21] at hv
        refine lv_iload_n hx hb d_Mo_next_21 rfl (lv_at hl 3 rfl) ?_
        refine lv_aload_n hx hb d_Mo_next_22 rfl (lv_at hl 0 rfl) ?_
        refine va_get (D := (dC, dI)) (ci := 3) (v := .int (F 3)) (C := R_Mo) (T := F_Mo) (N := 19) hx hb hW i_Mo hown hK hP 0 rfl rfl 5 (by decide) (hW _ k_195) (fun _ h9 => h9) rfl d_Mo_next_23 ?_
        refine lv_icmp_ge (tgt := 74) hx hb d_Mo_next_26 (by decide) (fun c_2 => ?_) (fun c_2 => ?_)
        · have hv := hv.trans (if_pos c_2)
          refine lv_aload_n hx hb d_Mo_next_74 rfl (lv_at hl 0 rfl) ?_
          refine va_get (D := (dC, dI)) (ci := 3) (v := .int 1) (C := R_Mo) (T := F_Mo) (N := 19) hx hb hW i_Mo hown hK hP 0 rfl rfl 0 (by decide) (hW _ k_189) (fun _ h9 => h9) rfl d_Mo_next_75 ?_
          refine lv_if_le (tgt := 85) hx hb d_Mo_next_78 (by decide) (fun h9 => absurd h9 (by decide)) (fun _ => ?_)
          refine lv_iconst (v := 0) hx hb d_Mo_next_81 (by decide) ?_
          refine lv_goto (tgt := 86) hx hb d_Mo_next_82 (by decide) ?_
          exact W.iret (v := 0) hx hb hr (fun t ht hW9 => ⟨⟨0, ((uF F 0 1), A), rfl, hv.symm, by rw [ht]; exact hP, va_K.moved hW9.alike hK, hD⟩, hS.F ht⟩) hS.2.2 d_Mo_next_86
        · have hv := hv.trans (if_neg c_2)
          refine lv_aload_n hx hb d_Mo_next_29 rfl (lv_at hl 0 rfl) ?_
          refine va_get (D := (dC, dI)) (ci := 3) (v := .int 1) (C := R_Mo) (T := F_Mo) (N := 19) hx hb hW i_Mo hown hK hP 0 rfl rfl 0 (by decide) (hW _ k_189) (fun _ h9 => h9) rfl d_Mo_next_30 ?_
          refine lv_if_ne (tgt := 74) hx hb d_Mo_next_33 (by decide) (fun _ => ?_) (fun h9 => absurd h9 (by decide))
          refine lv_aload_n hx hb d_Mo_next_74 rfl (lv_at hl 0 rfl) ?_
          refine va_get (D := (dC, dI)) (ci := 3) (v := .int 1) (C := R_Mo) (T := F_Mo) (N := 19) hx hb hW i_Mo hown hK hP 0 rfl rfl 0 (by decide) (hW _ k_189) (fun _ h9 => h9) rfl d_Mo_next_75 ?_
          refine lv_if_le (tgt := 85) hx hb d_Mo_next_78 (by decide) (fun h9 => absurd h9 (by decide)) (fun _ => ?_)
          refine lv_iconst (v := 0) hx hb d_Mo_next_81 (by decide) ?_
          refine lv_goto (tgt := 86) hx hb d_Mo_next_82 (by decide) ?_
          exact W.iret (v := 0) hx hb hr (fun t ht hW9 => ⟨⟨0, ((uF F 0 1), A), rfl, hv.symm, by rw [ht]; exact hP, va_K.moved hW9.alike hK, hD⟩, hS.F ht⟩) hS.2.2 d_Mo_next_86
    exact loop21 64 (-1) 0 ls (LB.i hr0 hr2) hv (lv_sub hl [2, 3, 1, 0] rfl)
  · have hv := hv.trans (if_neg c_1)
    refine lv_iconst (v := 0) hx hb d_Mo_next_9 (by decide) ?_
    refine lv_goto (tgt := 14) hx hb d_Mo_next_10 (by decide) ?_
    refine va_put (D := (dC, dI)) (ci := 3) (v := .int 0) (ty := .int) (C := R_Mo) (T := F_Mo) (N := 19) hx hb hW i_Mo t_Mo t_Mo_ok n_Mo hown hK hP hD hS 0 rfl rfl 0 (by decide) (hW _ k_189) (fun _ h9 => h9) rfl (by decide +kernel) rfl rfl (Nat.le_of_ble_eq_true rfl) d_Mo_next_14 (fun H locs hP hD hS => ?_)
    have hP := pMF_0 hP
    have hD := dMF_0 hD
    refine lv_iconst (v := (-1)) hx hb d_Mo_next_17 (by decide) ?_
    refine lv_istore_n (lv' := [(2, .int (-1)), (0, .ref (r 0)), (1, .int pc)]) hx hb d_Mo_next_18 rfl hl (by decide) rfl (fun ls hl => ?_)
    refine lv_iconst (v := 0) hx hb d_Mo_next_19 (by decide) ?_
    refine lv_istore_n (lv' := [(3, .int 0), (2, .int (-1)), (0, .ref (r 0)), (1, .int pc)]) hx hb d_Mo_next_20 rfl hl (by decide) rfl (fun ls hl => ?_)
    have loop21 : ∀ (n21 : Nat) (x2 : Int32) (x3 : Int32) (ls : Array Slot), LB (F 3) x3 n21 → f_Mo_next F A pc = f_Mo_next_L21b F A pc n21 x2 x3 → lv_has ls 4 [(0, .ref (r 0)), (1, .int pc), (2, .int x2), (3, .int x3)] → W p l e (headSpec w_Mo_next ({ frames := 2, cells := 0, slots := 0, locals := 43 })).room s m ([.ref (r 0), .int pc] : List Value).toArray below meth c H locs 0 0 (MQ below (va_Qi (fun v (u : SC) => (v, u) = f_Mo_next F A pc) (fun (u : SC) t => aW (dC, dI) (tM k) Ad (wM r k u.1 u.2) t) Ad) ([.ref (r 0), .int pc] : List Value).toArray s 0 0 Ad) (F0 m 21 ls []) := by
      intro n21
      induction n21 with
      | zero => intro x2 x3 ls hlp; exact (hlp.z).elim
      | succ n21 ih21 =>
        intro x2 x3 ls hlp21 hv hl
        rw [f_Mo_next_L21b] at hv
        refine lv_iload_n hx hb d_Mo_next_21 rfl (lv_at hl 3 rfl) ?_
        refine lv_aload_n hx hb d_Mo_next_22 rfl (lv_at hl 0 rfl) ?_
        refine va_get (D := (dC, dI)) (ci := 3) (v := .int (F 3)) (C := R_Mo) (T := F_Mo) (N := 19) hx hb hW i_Mo hown hK hP 0 rfl rfl 5 (by decide) (hW _ k_195) (fun _ h9 => h9) rfl d_Mo_next_23 ?_
        refine lv_icmp_ge (tgt := 74) hx hb d_Mo_next_26 (by decide) (fun c_3 => ?_) (fun c_3 => ?_)
        · have hv := hv.trans (if_pos c_3)
          refine lv_aload_n hx hb d_Mo_next_74 rfl (lv_at hl 0 rfl) ?_
          refine va_get (D := (dC, dI)) (ci := 3) (v := .int 0) (C := R_Mo) (T := F_Mo) (N := 19) hx hb hW i_Mo hown hK hP 0 rfl rfl 0 (by decide) (hW _ k_189) (fun _ h9 => h9) rfl d_Mo_next_75 ?_
          refine lv_if_le (tgt := 85) hx hb d_Mo_next_78 (by decide) (fun _ => ?_) (fun h9 => absurd h9 (by decide))
          refine lv_iload_n hx hb d_Mo_next_85 rfl (lv_at hl 2 rfl) ?_
          exact W.iret (v := x2) hx hb hr (fun t ht hW9 => ⟨⟨x2, ((uF F 0 0), A), rfl, hv.symm, by rw [ht]; exact hP, va_K.moved hW9.alike hK, hD⟩, hS.F ht⟩) hS.2.2 d_Mo_next_86
        · have hv := hv.trans (if_neg c_3)
          refine lv_aload_n hx hb d_Mo_next_29 rfl (lv_at hl 0 rfl) ?_
          refine va_get (D := (dC, dI)) (ci := 3) (v := .int 0) (C := R_Mo) (T := F_Mo) (N := 19) hx hb hW i_Mo hown hK hP 0 rfl rfl 0 (by decide) (hW _ k_189) (fun _ h9 => h9) rfl d_Mo_next_30 ?_
          refine lv_if_ne (tgt := 74) hx hb d_Mo_next_33 (by decide) (fun h9 => absurd h9 (by decide)) (fun _ => ?_)
          refine lv_aload_n hx hb d_Mo_next_36 rfl (lv_at hl 0 rfl) ?_
          refine va_get (D := (dC, dI)) (ci := 3) (v := .ref (r 6)) (C := R_Mo) (T := F_Mo) (N := 19) hx hb hW i_Mo hown hK hP 0 rfl rfl 9 (by decide) (hW _ k_210) (fun _ h9 => h9) rfl d_Mo_next_37 ?_
          refine lv_iload_n hx hb d_Mo_next_40 rfl (lv_at hl 3 rfl) ?_
          refine va_iald hx hb hK hP 6 5 rfl rfl (LB.ixn hlp21 c_3 hr1) d_Mo_next_41 ?_
          refine lv_iload_n hx hb d_Mo_next_42 rfl (lv_at hl 1 rfl) ?_
          refine lv_icmp_ne (tgt := 68) hx hb d_Mo_next_43 (by decide) (fun c_4 => ?_) (fun c_4 => ?_)
          · have hv := hv.trans (if_neg c_4)
            refine lv_iinc (v := x3 + 1) (lv' := [(3, .int (x3 + 1)), (0, .ref (r 0)), (1, .int pc), (2, .int x2)]) hx hb d_Mo_next_68 hl (k := 3) rfl rfl (by decide) rfl (fun ls hl => ?_)
            refine lv_goto (tgt := 21) hx hb d_Mo_next_71 (by decide) ?_
            exact ih21 x2 (x3 + 1) ls (LB.s hlp21 c_3 hr2) hv (lv_sub hl [1, 2, 3, 0] rfl)
          · have hv := hv.trans (if_pos c_4)
            refine lv_iload_n hx hb d_Mo_next_46 rfl (lv_at hl 2 rfl) ?_
            refine lv_iconst (v := (-1)) hx hb d_Mo_next_47 (by decide) ?_
            refine lv_icmp_eq (tgt := 66) hx hb d_Mo_next_48 (by decide) (fun c_5 => ?_) (fun c_5 => ?_)
            · have hv := hv.trans (if_pos c_5)
              refine lv_iload_n hx hb d_Mo_next_66 rfl (lv_at hl 3 rfl) ?_
              refine lv_istore_n (lv' := [(2, .int x3), (0, .ref (r 0)), (1, .int pc), (3, .int x3)]) hx hb d_Mo_next_67 rfl hl (by decide) rfl (fun ls hl => ?_)
              refine lv_iinc (v := x3 + 1) (lv' := [(3, .int (x3 + 1)), (2, .int x3), (0, .ref (r 0)), (1, .int pc)]) hx hb d_Mo_next_68 hl (k := 3) rfl rfl (by decide) rfl (fun ls hl => ?_)
              refine lv_goto (tgt := 21) hx hb d_Mo_next_71 (by decide) ?_
              exact ih21 x3 (x3 + 1) ls (LB.s hlp21 c_3 hr2) hv (lv_sub hl [2, 3, 1, 0] rfl)
            · have hv := hv.trans (if_neg c_5)
              refine lv_aload_n hx hb d_Mo_next_51 rfl (lv_at hl 0 rfl) ?_
              refine lv_iload_n hx hb d_Mo_next_52 rfl (lv_at hl 3 rfl) ?_
              refine lv_iload_n hx hb d_Mo_next_53 rfl (lv_at hl 1 rfl) ?_
              refine rdV ⟨hx, hb, hml, hown, hW⟩ (c_Mo_bestOf l dC dI r k (uF F 0 0) A x3 pc hI ) (cwV 2 hW (gIn k_248 k_249 k_250 k_193 k_251) rfl rfl rfl (by decide +kernel) ⟨Nat.le_of_ble_eq_true rfl, Nat.le_of_ble_eq_true rfl⟩) hK hP (va_recv hK hP (ci := 3) (q0 := 0) rfl rfl) rfl hl.1 rfl (Nat.le_of_ble_eq_true rfl) d_Mo_next_54 ⟨Nat.zero_le _, Nat.zero_le _⟩ ?_
              refine lv_aload_n hx hb d_Mo_next_57 rfl (lv_at hl 0 rfl) ?_
              refine lv_iload_n hx hb d_Mo_next_58 rfl (lv_at hl 2 rfl) ?_
              refine lv_iload_n hx hb d_Mo_next_59 rfl (lv_at hl 1 rfl) ?_
              refine rdV ⟨hx, hb, hml, hown, hW⟩ (c_Mo_bestOf l dC dI r k (uF F 0 0) A x2 pc hI ) (cwV 2 hW (gIn k_248 k_249 k_250 k_193 k_251) rfl rfl rfl (by decide +kernel) ⟨Nat.le_of_ble_eq_true rfl, Nat.le_of_ble_eq_true rfl⟩) hK hP (va_recv hK hP (ci := 3) (q0 := 0) rfl rfl) rfl hl.1 rfl (Nat.le_of_ble_eq_true rfl) d_Mo_next_60 ⟨Nat.zero_le _, Nat.zero_le _⟩ ?_
              refine lv_icmp_le (tgt := 68) hx hb d_Mo_next_63 (by decide) (fun c_6 => ?_) (fun c_6 => ?_)
              · have hv := hv.trans (if_pos c_6)
                refine lv_iinc (v := x3 + 1) (lv' := [(3, .int (x3 + 1)), (0, .ref (r 0)), (1, .int pc), (2, .int x2)]) hx hb d_Mo_next_68 hl (k := 3) rfl rfl (by decide) rfl (fun ls hl => ?_)
                refine lv_goto (tgt := 21) hx hb d_Mo_next_71 (by decide) ?_
                exact ih21 x2 (x3 + 1) ls (LB.s hlp21 c_3 hr2) hv (lv_sub hl [1, 2, 3, 0] rfl)
              · have hv := hv.trans (if_neg c_6)
                refine lv_iload_n hx hb d_Mo_next_66 rfl (lv_at hl 3 rfl) ?_
                refine lv_istore_n (lv' := [(2, .int x3), (0, .ref (r 0)), (1, .int pc), (3, .int x3)]) hx hb d_Mo_next_67 rfl hl (by decide) rfl (fun ls hl => ?_)
                refine lv_iinc (v := x3 + 1) (lv' := [(3, .int (x3 + 1)), (2, .int x3), (0, .ref (r 0)), (1, .int pc)]) hx hb d_Mo_next_68 hl (k := 3) rfl rfl (by decide) rfl (fun ls hl => ?_)
                refine lv_goto (tgt := 21) hx hb d_Mo_next_71 (by decide) ?_
                exact ih21 x3 (x3 + 1) ls (LB.s hlp21 c_3 hr2) hv (lv_sub hl [2, 3, 1, 0] rfl)
    exact loop21 64 (-1) 0 ls (LB.i hr0 hr2) hv (lv_sub hl [2, 3, 1, 0] rfl)
def f_Mo_zone_L73 (F : Nat → Int32) (A : Nat → Nat → Int32) (pc on : Int32) : Nat → (Nat → Nat → Int32) → Int32 → Int32 → Int32 × SC
  | 0, _, _, _ => (0, F, A)
  | n73 + 1, B, x3, x4 => if F 4 < x4 then (x3, (uF (uF F 0 0) 0 0), B) else (if on = 0 then (x3, (uF (uF F 0 0) 0 0), B) else (if B 9 x4.toNatClampNeg = pc then (if B 13 x4.toNatClampNeg = 0 then (f_Mo_zone_L73 F A pc on n73 (uA B 13 (upd (B 13) x4.toNatClampNeg 3)) (x3 + 1) (x4 + 1)) else (f_Mo_zone_L73 F A pc on n73 B x3 (x4 + 1))) else (f_Mo_zone_L73 F A pc on n73 B x3 (x4 + 1))))
def f_Mo_zone (F : Nat → Int32) (A : Nat → Nat → Int32) (pc on : Int32) : Int32 × SC := if f_Mo_isPiece F A pc = 0 then (0, (uF F 0 1), A) else (if A 0 pc.toNatClampNeg = on then (0, (uF (uF F 0 0) 0 2), A) else (if f_Mo_standing (uF F 0 0) A pc = (-1) then (f_Mo_zone_L73 F A pc on 64 (uA A 0 (upd (A 0) pc.toNatClampNeg (vp_nar .boolean on))) 0 1) else (0, (uF (uF F 0 0) 0 2), A)))
set_option maxHeartbeats 4000000 in
set_option maxRecDepth 100000 in
theorem c_Mo_zone (l : Launch) (dC : Nat → ClassId) (dI : Nat → Nat → Nat) (r : Nat → Nat) (k : Nat → ClassId) (F : Nat → Int32) (A : Nat → Nat → Int32) (sz : Nat) (pc on : Int32) (hI : SI F) : Met l y_Mo_zone w_Mo_zone ({ frames := 2, cells := 0, slots := 0, locals := 43 }) (va_Pc [.ref (r 0), .int pc, .int on] (SP (dC, dI) (wM r k F A) (tM k) sz)) (va_Qi (fun v (u : SC) => (v, u) = f_Mo_zone F A pc on) (fun (u : SC) t => aW (dC, dI) (tM k) (va_A (wM r k F A) sz) (wM r k u.1 u.2) t) (va_A (wM r k F A) sz)) 0 0 (va_A (wM r k F A) sz) := by
  refine Met.ofW (cc := b_Mo_zone) (maxL := 5) (ret := (some .int)) (by decide) rfl ?_
  intro p e s m args below meth c s₁ B hml hv0
  obtain ⟨rfl, hsz, hP, hK, hD0⟩ := hv0
  have hx := B.exec
  have hb := B.bytes
  have hr := B.returns
  have hts := atoms_spec (ws := w_Mo_zone) B.pre
  have hW : ∀ w ∈ WALL, w.before ([.ref (r 0), .int pc, .int on] : List Value).toArray s = true := fun w h => hts w (List.mem_cons_of_mem _ h)
  have hown : s.vm.findClass R_Mo = some m.cls := findClass_of_methodNamed B.named
  have hlocks := B.notSynchronized
  subst hsz
  have hD := hD0.self (sz := s.heap.size)
  generalize hAe : va_A (wM r k F A) s.heap.size = Ad at hD ⊢
  have hA : ∀ q : Nat, s.heap.size ≤ q → Ad q := fun q h => by rw [← hAe]; exact Or.inr h
  have hS : va_S Ad s.heap s.heap [] := va_S.rf
  have hl := lv_entry ([.ref (r 0), .int pc, .int on]) (n := 5) (Nat.le_of_ble_eq_true rfl)
  rw [lg_entry_eq]
  generalize (lg_sl ([.ref (r 0), .int pc, .int on]) ++ List.replicate (5 - (lg_sl ([.ref (r 0), .int pc, .int on])).length) Slot.unset).toArray = ls at hl ⊢
  have hl : lv_has ls 5 [(0, .ref (r 0)), (1, .int pc), (2, .int on)] := hl
  obtain ⟨⟨hp0, hp1⟩, ⟨hr0, hr1⟩, hg0, hg1⟩ := id hI; have hr2 : (F 3).toInt ≤ 60 := Int.le_trans hr1 (by decide); have hp2 : (F 2).toInt ≤ 60 := Int.le_trans hp1 (by decide)
  have hv := f_Mo_zone.eq_1 F A pc on
  refine lv_aload_n hx hb d_Mo_zone_0 rfl (lv_at hl 0 rfl) ?_
  refine lv_aload_n hx hb d_Mo_zone_1 rfl (lv_at hl 0 rfl) ?_
  refine lv_iload_n hx hb d_Mo_zone_2 rfl (lv_at hl 1 rfl) ?_
  refine rdV ⟨hx, hb, hml, hown, hW⟩ (c_Mo_isPiece l dC dI r k F A pc  ) (cwV 1 hW (gIn k_197 k_198 k_199 k_193 k_200) rfl rfl rfl (by decide +kernel) ⟨Nat.le_of_ble_eq_true rfl, Nat.le_of_ble_eq_true rfl⟩) hK hP (va_recv hK hP (ci := 3) (q0 := 0) rfl rfl) rfl hl.1 rfl (Nat.le_of_ble_eq_true rfl) d_Mo_zone_3 ⟨Nat.zero_le _, Nat.zero_le _⟩ ?_
  refine lv_if_ne (tgt := 13) hx hb d_Mo_zone_6 (by decide) (fun c_1 => ?_) (fun c_1 => ?_)
  · have hv := hv.trans (if_neg c_1)
    refine lv_iconst (v := 0) hx hb d_Mo_zone_13 (by decide) ?_
    refine va_put (D := (dC, dI)) (ci := 3) (v := .int 0) (ty := .int) (C := R_Mo) (T := F_Mo) (N := 19) hx hb hW i_Mo t_Mo t_Mo_ok n_Mo hown hK hP hD hS 0 rfl rfl 0 (by decide) (hW _ k_189) (fun _ h9 => h9) rfl (by decide +kernel) rfl rfl (Nat.le_of_ble_eq_true rfl) d_Mo_zone_14 (fun H locs hP hD hS => ?_)
    have hP := pMF_0 hP
    have hD := dMF_0 hD
    refine lv_aload_n hx hb d_Mo_zone_17 rfl (lv_at hl 0 rfl) ?_
    refine va_get (D := (dC, dI)) (ci := 3) (v := .int 0) (C := R_Mo) (T := F_Mo) (N := 19) hx hb hW i_Mo hown hK hP 0 rfl rfl 0 (by decide) (hW _ k_189) (fun _ h9 => h9) rfl d_Mo_zone_18 ?_
    refine lv_if_ne (tgt := 52) hx hb d_Mo_zone_21 (by decide) (fun h9 => absurd h9 (by decide)) (fun _ => ?_)
    refine lv_aload_n hx hb d_Mo_zone_24 rfl (lv_at hl 0 rfl) ?_
    refine lv_aload_n hx hb d_Mo_zone_25 rfl (lv_at hl 0 rfl) ?_
    refine va_get (D := (dC, dI)) (ci := 3) (v := .ref (r 1)) (C := R_Mo) (T := F_Mo) (N := 19) hx hb hW i_Mo hown hK hP 0 rfl rfl 3 (by decide) (hW _ k_208) (fun _ h9 => h9) rfl d_Mo_zone_26 ?_
    refine lv_iload_n hx hb d_Mo_zone_29 rfl (lv_at hl 1 rfl) ?_
    refine va_zald hx hb hK hP 1 0 rfl rfl (mxP hI c_1) d_Mo_zone_30 ?_
    refine lv_iload_n hx hb d_Mo_zone_31 rfl (lv_at hl 2 rfl) ?_
    refine lv_icmp_eq (tgt := 44) hx hb d_Mo_zone_32 (by decide) (fun c_2 => ?_) (fun c_2 => ?_)
    · have hv := hv.trans (if_pos c_2)
      refine lv_iconst (v := 2) hx hb d_Mo_zone_44 (by decide) ?_
      refine lv_goto (tgt := 49) hx hb d_Mo_zone_45 (by decide) ?_
      refine va_put (D := (dC, dI)) (ci := 3) (v := .int 2) (ty := .int) (C := R_Mo) (T := F_Mo) (N := 19) hx hb hW i_Mo t_Mo t_Mo_ok n_Mo hown hK hP hD hS 0 rfl rfl 0 (by decide) (hW _ k_189) (fun _ h9 => h9) rfl (by decide +kernel) rfl rfl (Nat.le_of_ble_eq_true rfl) d_Mo_zone_49 (fun H locs hP hD hS => ?_)
      have hP := pMF_0 hP
      have hD := dMF_0 hD
      refine lv_aload_n hx hb d_Mo_zone_52 rfl (lv_at hl 0 rfl) ?_
      refine va_get (D := (dC, dI)) (ci := 3) (v := .int 2) (C := R_Mo) (T := F_Mo) (N := 19) hx hb hW i_Mo hown hK hP 0 rfl rfl 0 (by decide) (hW _ k_189) (fun _ h9 => h9) rfl d_Mo_zone_53 ?_
      refine lv_if_le (tgt := 61) hx hb d_Mo_zone_56 (by decide) (fun h9 => absurd h9 (by decide)) (fun _ => ?_)
      refine lv_iconst (v := 0) hx hb d_Mo_zone_59 (by decide) ?_
      exact W.iret (v := 0) hx hb hr (fun t ht hW9 => ⟨⟨0, ((uF (uF F 0 0) 0 2), A), rfl, hv.symm, by rw [ht]; exact hP, va_K.moved hW9.alike hK, hD⟩, hS.F ht⟩) hS.2.2 d_Mo_zone_60
    · have hv := hv.trans (if_neg c_2)
      refine lv_aload_n hx hb d_Mo_zone_35 rfl (lv_at hl 0 rfl) ?_
      refine lv_iload_n hx hb d_Mo_zone_36 rfl (lv_at hl 1 rfl) ?_
      refine rdV ⟨hx, hb, hml, hown, hW⟩ (c_Mo_standing l dC dI r k (uF F 0 0) A pc hI ) (cwV 1 hW (gIn k_204 k_205 k_206 k_193 k_207) rfl rfl rfl (by decide +kernel) ⟨Nat.le_of_ble_eq_true rfl, Nat.le_of_ble_eq_true rfl⟩) hK hP (va_recv hK hP (ci := 3) (q0 := 0) rfl rfl) rfl hl.1 rfl (Nat.le_of_ble_eq_true rfl) d_Mo_zone_37 ⟨Nat.zero_le _, Nat.zero_le _⟩ ?_
      refine lv_iconst (v := (-1)) hx hb d_Mo_zone_40 (by decide) ?_
      refine lv_icmp_eq (tgt := 48) hx hb d_Mo_zone_41 (by decide) (fun c_3 => ?_) (fun c_3 => ?_)
      · have hv := hv.trans (if_pos c_3)
        refine lv_iconst (v := 0) hx hb d_Mo_zone_48 (by decide) ?_
        refine va_put (D := (dC, dI)) (ci := 3) (v := .int 0) (ty := .int) (C := R_Mo) (T := F_Mo) (N := 19) hx hb hW i_Mo t_Mo t_Mo_ok n_Mo hown hK hP hD hS 0 rfl rfl 0 (by decide) (hW _ k_189) (fun _ h9 => h9) rfl (by decide +kernel) rfl rfl (Nat.le_of_ble_eq_true rfl) d_Mo_zone_49 (fun H locs hP hD hS => ?_)
        have hP := pMF_0 hP
        have hD := dMF_0 hD
        refine lv_aload_n hx hb d_Mo_zone_52 rfl (lv_at hl 0 rfl) ?_
        refine va_get (D := (dC, dI)) (ci := 3) (v := .int 0) (C := R_Mo) (T := F_Mo) (N := 19) hx hb hW i_Mo hown hK hP 0 rfl rfl 0 (by decide) (hW _ k_189) (fun _ h9 => h9) rfl d_Mo_zone_53 ?_
        refine lv_if_le (tgt := 61) hx hb d_Mo_zone_56 (by decide) (fun _ => ?_) (fun h9 => absurd h9 (by decide))
        refine lv_aload_n hx hb d_Mo_zone_61 rfl (lv_at hl 0 rfl) ?_
        refine va_get (D := (dC, dI)) (ci := 3) (v := .ref (r 1)) (C := R_Mo) (T := F_Mo) (N := 19) hx hb hW i_Mo hown hK hP 0 rfl rfl 3 (by decide) (hW _ k_208) (fun _ h9 => h9) rfl d_Mo_zone_62 ?_
        refine lv_iload_n hx hb d_Mo_zone_65 rfl (lv_at hl 1 rfl) ?_
        refine lv_iload_n hx hb d_Mo_zone_66 rfl (lv_at hl 2 rfl) ?_
        refine va_zast hx hb hK hP hD hS 1 0 rfl rfl (mxP hI c_1) d_Mo_zone_67 (fun H locs hP hD hS => ?_)
        have hP := pMA_0 hP
        have hD := dMA_0 hD
        generalize hAg1 : (uA A 0 (upd (A 0) pc.toNatClampNeg (vp_nar .boolean on))) = A1_ at hP hD hv
        refine lv_iconst (v := 0) hx hb d_Mo_zone_68 (by decide) ?_
        refine lv_istore_n (lv' := [(3, .int 0), (0, .ref (r 0)), (1, .int pc), (2, .int on)]) hx hb d_Mo_zone_69 rfl hl (by decide) rfl (fun ls hl => ?_)
        refine lv_iconst (v := 1) hx hb d_Mo_zone_70 (by decide) ?_
        refine lv_istore (lv' := [(4, .int 1), (3, .int 0), (0, .ref (r 0)), (1, .int pc), (2, .int on)]) hx hb d_Mo_zone_71 hl (by decide) rfl (fun ls hl => ?_)
        have loop73 : ∀ (n73 : Nat) (x3 : Int32) (x4 : Int32) (B : Nat → Nat → Int32) (H : Heap) (locs : List Loc) (ls : Array Slot), LA (F 4) x4 n73 → f_Mo_zone F A pc on = f_Mo_zone_L73 F A pc on n73 B x3 x4 → va_P (dC, dI) classes (wM r k (uF (uF F 0 0) 0 0) B) H → va_D Ad (wM r k (uF (uF F 0 0) 0 0) B) → va_S Ad s.heap H locs → lv_has ls 5 [(0, .ref (r 0)), (1, .int pc), (2, .int on), (3, .int x3), (4, .int x4)] → W p l e (headSpec w_Mo_zone ({ frames := 2, cells := 0, slots := 0, locals := 43 })).room s m ([.ref (r 0), .int pc, .int on] : List Value).toArray below meth c H locs 0 0 (MQ below (va_Qi (fun v (u : SC) => (v, u) = f_Mo_zone F A pc on) (fun (u : SC) t => aW (dC, dI) (tM k) Ad (wM r k u.1 u.2) t) Ad) ([.ref (r 0), .int pc, .int on] : List Value).toArray s 0 0 Ad) (F0 m 73 ls []) := by
          intro n73
          induction n73 with
          | zero => intro x3 x4 B H locs ls hlp; exact (hlp.z).elim
          | succ n73 ih73 =>
            intro x3 x4 B H locs ls hlp73 hv hP hD hS hl
            rw [f_Mo_zone_L73] at hv
            refine lv_iload hx hb d_Mo_zone_73 (lv_at hl 4 rfl) ?_
            refine lv_aload_n hx hb d_Mo_zone_75 rfl (lv_at hl 0 rfl) ?_
            refine va_get (D := (dC, dI)) (ci := 3) (v := .int (F 4)) (C := R_Mo) (T := F_Mo) (N := 19) hx hb hW i_Mo hown hK hP 0 rfl rfl 12 (by decide) (hW _ k_196) (fun _ h9 => h9) rfl d_Mo_zone_76 ?_
            refine lv_icmp_gt (tgt := 127) hx hb d_Mo_zone_79 (by decide) (fun c_4 => ?_) (fun c_4 => ?_)
            · have hv := hv.trans (if_pos c_4)
              refine lv_iload_n hx hb d_Mo_zone_127 rfl (lv_at hl 3 rfl) ?_
              exact W.iret (v := x3) hx hb hr (fun t ht hW9 => ⟨⟨x3, ((uF (uF F 0 0) 0 0), B), rfl, hv.symm, by rw [ht]; exact hP, va_K.moved hW9.alike hK, hD⟩, hS.F ht⟩) hS.2.2 d_Mo_zone_128
            · have hv := hv.trans (if_neg c_4)
              refine lv_iload_n hx hb d_Mo_zone_82 rfl (lv_at hl 2 rfl) ?_
              refine lv_if_eq (tgt := 127) hx hb d_Mo_zone_83 (by decide) (fun c_5 => ?_) (fun c_5 => ?_)
              · have hv := hv.trans (if_pos c_5)
                refine lv_iload_n hx hb d_Mo_zone_127 rfl (lv_at hl 3 rfl) ?_
                exact W.iret (v := x3) hx hb hr (fun t ht hW9 => ⟨⟨x3, ((uF (uF F 0 0) 0 0), B), rfl, hv.symm, by rw [ht]; exact hP, va_K.moved hW9.alike hK, hD⟩, hS.F ht⟩) hS.2.2 d_Mo_zone_128
              · have hv := hv.trans (if_neg c_5)
                refine lv_aload_n hx hb d_Mo_zone_86 rfl (lv_at hl 0 rfl) ?_
                refine va_get (D := (dC, dI)) (ci := 3) (v := .ref (r 10)) (C := R_Mo) (T := F_Mo) (N := 19) hx hb hW i_Mo hown hK hP 0 rfl rfl 14 (by decide) (hW _ k_213) (fun _ h9 => h9) rfl d_Mo_zone_87 ?_
                refine lv_iload hx hb d_Mo_zone_90 (lv_at hl 4 rfl) ?_
                refine va_iald hx hb hK hP 10 9 rfl rfl (LA.ix hlp73 c_4 hg1) d_Mo_zone_92 ?_
                refine lv_iload_n hx hb d_Mo_zone_93 rfl (lv_at hl 1 rfl) ?_
                refine lv_icmp_ne (tgt := 121) hx hb d_Mo_zone_94 (by decide) (fun c_6 => ?_) (fun c_6 => ?_)
                · have hv := hv.trans (if_neg c_6)
                  refine lv_iinc (v := x4 + 1) (lv' := [(4, .int (x4 + 1)), (0, .ref (r 0)), (1, .int pc), (2, .int on), (3, .int x3)]) hx hb d_Mo_zone_121 hl (k := 4) rfl rfl (by decide) rfl (fun ls hl => ?_)
                  refine lv_goto (tgt := 73) hx hb d_Mo_zone_124 (by decide) ?_
                  exact ih73 x3 (x4 + 1) B H locs ls (LA.s hlp73 c_4 hg1) hv hP hD hS (lv_sub hl [1, 2, 3, 4, 0] rfl)
                · have hv := hv.trans (if_pos c_6)
                  refine lv_aload_n hx hb d_Mo_zone_97 rfl (lv_at hl 0 rfl) ?_
                  refine va_get (D := (dC, dI)) (ci := 3) (v := .ref (r 14)) (C := R_Mo) (T := F_Mo) (N := 19) hx hb hW i_Mo hown hK hP 0 rfl rfl 18 (by decide) (hW _ k_216) (fun _ h9 => h9) rfl d_Mo_zone_98 ?_
                  refine lv_iload hx hb d_Mo_zone_101 (lv_at hl 4 rfl) ?_
                  refine va_iald hx hb hK hP 14 13 rfl rfl (LA.ix hlp73 c_4 hg1) d_Mo_zone_103 ?_
                  refine lv_if_eq (tgt := 110) hx hb d_Mo_zone_104 (by decide) (fun c_7 => ?_) (fun c_7 => ?_)
                  · have hv := hv.trans (if_pos c_7)
                    refine lv_aload_n hx hb d_Mo_zone_110 rfl (lv_at hl 0 rfl) ?_
                    refine va_get (D := (dC, dI)) (ci := 3) (v := .ref (r 14)) (C := R_Mo) (T := F_Mo) (N := 19) hx hb hW i_Mo hown hK hP 0 rfl rfl 18 (by decide) (hW _ k_216) (fun _ h9 => h9) rfl d_Mo_zone_111 ?_
                    refine lv_iload hx hb d_Mo_zone_114 (lv_at hl 4 rfl) ?_
                    refine lv_iconst (v := 3) hx hb d_Mo_zone_116 (by decide) ?_
                    refine va_iast hx hb hK hP hD hS 14 13 rfl rfl (LA.ix hlp73 c_4 hg1) d_Mo_zone_117 (fun H locs hP hD hS => ?_)
                    have hP := pMA_13 hP
                    have hD := dMA_13 hD
                    generalize hAg2 : (uA B 13 (upd (B 13) x4.toNatClampNeg 3)) = A2_ at hP hD hv
                    refine lv_iinc (v := x3 + 1) (lv' := [(3, .int (x3 + 1)), (0, .ref (r 0)), (1, .int pc), (2, .int on), (4, .int x4)]) hx hb d_Mo_zone_118 hl (k := 3) rfl rfl (by decide) rfl (fun ls hl => ?_)
                    refine lv_iinc (v := x4 + 1) (lv' := [(4, .int (x4 + 1)), (3, .int (x3 + 1)), (0, .ref (r 0)), (1, .int pc), (2, .int on)]) hx hb d_Mo_zone_121 hl (k := 4) rfl rfl (by decide) rfl (fun ls hl => ?_)
                    refine lv_goto (tgt := 73) hx hb d_Mo_zone_124 (by decide) ?_
                    exact ih73 (x3 + 1) (x4 + 1) A2_ H locs ls (LA.s hlp73 c_4 hg1) hv hP hD hS (lv_sub hl [2, 3, 4, 1, 0] rfl)
                  · have hv := hv.trans (if_neg c_7)
                    refine lv_goto (tgt := 121) hx hb d_Mo_zone_107 (by decide) ?_
                    refine lv_iinc (v := x4 + 1) (lv' := [(4, .int (x4 + 1)), (0, .ref (r 0)), (1, .int pc), (2, .int on), (3, .int x3)]) hx hb d_Mo_zone_121 hl (k := 4) rfl rfl (by decide) rfl (fun ls hl => ?_)
                    refine lv_goto (tgt := 73) hx hb d_Mo_zone_124 (by decide) ?_
                    exact ih73 x3 (x4 + 1) B H locs ls (LA.s hlp73 c_4 hg1) hv hP hD hS (lv_sub hl [1, 2, 3, 4, 0] rfl)
        exact loop73 64 0 1 A1_ H locs ls (LA.i hg0 hg1) hv hP hD hS (lv_sub hl [2, 3, 4, 1, 0] rfl)
      · have hv := hv.trans (if_neg c_3)
        refine lv_iconst (v := 2) hx hb d_Mo_zone_44 (by decide) ?_
        refine lv_goto (tgt := 49) hx hb d_Mo_zone_45 (by decide) ?_
        refine va_put (D := (dC, dI)) (ci := 3) (v := .int 2) (ty := .int) (C := R_Mo) (T := F_Mo) (N := 19) hx hb hW i_Mo t_Mo t_Mo_ok n_Mo hown hK hP hD hS 0 rfl rfl 0 (by decide) (hW _ k_189) (fun _ h9 => h9) rfl (by decide +kernel) rfl rfl (Nat.le_of_ble_eq_true rfl) d_Mo_zone_49 (fun H locs hP hD hS => ?_)
        have hP := pMF_0 hP
        have hD := dMF_0 hD
        refine lv_aload_n hx hb d_Mo_zone_52 rfl (lv_at hl 0 rfl) ?_
        refine va_get (D := (dC, dI)) (ci := 3) (v := .int 2) (C := R_Mo) (T := F_Mo) (N := 19) hx hb hW i_Mo hown hK hP 0 rfl rfl 0 (by decide) (hW _ k_189) (fun _ h9 => h9) rfl d_Mo_zone_53 ?_
        refine lv_if_le (tgt := 61) hx hb d_Mo_zone_56 (by decide) (fun h9 => absurd h9 (by decide)) (fun _ => ?_)
        refine lv_iconst (v := 0) hx hb d_Mo_zone_59 (by decide) ?_
        exact W.iret (v := 0) hx hb hr (fun t ht hW9 => ⟨⟨0, ((uF (uF F 0 0) 0 2), A), rfl, hv.symm, by rw [ht]; exact hP, va_K.moved hW9.alike hK, hD⟩, hS.F ht⟩) hS.2.2 d_Mo_zone_60
  · have hv := hv.trans (if_pos c_1)
    refine lv_iconst (v := 1) hx hb d_Mo_zone_9 (by decide) ?_
    refine lv_goto (tgt := 14) hx hb d_Mo_zone_10 (by decide) ?_
    refine va_put (D := (dC, dI)) (ci := 3) (v := .int 1) (ty := .int) (C := R_Mo) (T := F_Mo) (N := 19) hx hb hW i_Mo t_Mo t_Mo_ok n_Mo hown hK hP hD hS 0 rfl rfl 0 (by decide) (hW _ k_189) (fun _ h9 => h9) rfl (by decide +kernel) rfl rfl (Nat.le_of_ble_eq_true rfl) d_Mo_zone_14 (fun H locs hP hD hS => ?_)
    have hP := pMF_0 hP
    have hD := dMF_0 hD
    refine lv_aload_n hx hb d_Mo_zone_17 rfl (lv_at hl 0 rfl) ?_
    refine va_get (D := (dC, dI)) (ci := 3) (v := .int 1) (C := R_Mo) (T := F_Mo) (N := 19) hx hb hW i_Mo hown hK hP 0 rfl rfl 0 (by decide) (hW _ k_189) (fun _ h9 => h9) rfl d_Mo_zone_18 ?_
    refine lv_if_ne (tgt := 52) hx hb d_Mo_zone_21 (by decide) (fun _ => ?_) (fun h9 => absurd h9 (by decide))
    refine lv_aload_n hx hb d_Mo_zone_52 rfl (lv_at hl 0 rfl) ?_
    refine va_get (D := (dC, dI)) (ci := 3) (v := .int 1) (C := R_Mo) (T := F_Mo) (N := 19) hx hb hW i_Mo hown hK hP 0 rfl rfl 0 (by decide) (hW _ k_189) (fun _ h9 => h9) rfl d_Mo_zone_53 ?_
    refine lv_if_le (tgt := 61) hx hb d_Mo_zone_56 (by decide) (fun h9 => absurd h9 (by decide)) (fun _ => ?_)
    refine lv_iconst (v := 0) hx hb d_Mo_zone_59 (by decide) ?_
    exact W.iret (v := 0) hx hb hr (fun t ht hW9 => ⟨⟨0, ((uF F 0 1), A), rfl, hv.symm, by rw [ht]; exact hP, va_K.moved hW9.alike hK, hD⟩, hS.F ht⟩) hS.2.2 d_Mo_zone_60
def f_Mo_halt_L76 (F : Nat → Int32) (A : Nat → Nat → Int32) (rb on : Int32) : Nat → (Nat → Nat → Int32) → Int32 → Int32 × SC
  | 0, _, _ => (0, F, A)
  | n76 + 1, B, x4 => if F 4 < x4 then (0, (uF (uF F 0 0) 0 0), B) else (0, (uF (uF F 0 0) 0 0), B)
def f_Mo_halt_L76b (F : Nat → Int32) (A : Nat → Nat → Int32) (rb on : Int32) (A1_ : Nat → Nat → Int32) : Nat → (Nat → Nat → Int32) → Int32 → Int32 × SC
  | 0, _, _ => (0, F, A)
  | n76 + 1, B, x4 => if F 4 < x4 then (f_Mo_liveOf (uF (uF F 0 0) 0 0) A1_ rb, (uF (uF F 0 0) 0 0), (uA B 5 (upd (B 5) rb.toNatClampNeg (-1)))) else (if B 8 x4.toNatClampNeg = rb then (if B 13 x4.toNatClampNeg = 0 then (f_Mo_halt_L76b F A rb on A1_ n76 (uA B 13 (upd (B 13) x4.toNatClampNeg 2)) (x4 + 1)) else (f_Mo_halt_L76b F A rb on A1_ n76 B (x4 + 1))) else (f_Mo_halt_L76b F A rb on A1_ n76 B (x4 + 1)))
def f_Mo_halt (F : Nat → Int32) (A : Nat → Nat → Int32) (rb on : Int32) : Int32 × SC := if f_Mo_isRobot F A rb = 0 then (0, (uF F 0 1), A) else (if A 7 rb.toNatClampNeg = on then (0, (uF (uF F 0 0) 0 2), A) else (if on = 0 then (f_Mo_halt_L76 F A rb on 64 (uA A 7 (upd (A 7) rb.toNatClampNeg (vp_nar .boolean on))) 1) else (f_Mo_halt_L76b F A rb on (uA A 7 (upd (A 7) rb.toNatClampNeg (vp_nar .boolean on))) 64 (uA A 7 (upd (A 7) rb.toNatClampNeg (vp_nar .boolean on))) 1)))
set_option maxHeartbeats 4000000 in
set_option maxRecDepth 100000 in
theorem c_Mo_halt (l : Launch) (dC : Nat → ClassId) (dI : Nat → Nat → Nat) (r : Nat → Nat) (k : Nat → ClassId) (F : Nat → Int32) (A : Nat → Nat → Int32) (sz : Nat) (rb on : Int32) (hI : SI F) : Met l y_Mo_halt w_Mo_halt ({ frames := 2, cells := 0, slots := 0, locals := 43 }) (va_Pc [.ref (r 0), .int rb, .int on] (SP (dC, dI) (wM r k F A) (tM k) sz)) (va_Qi (fun v (u : SC) => (v, u) = f_Mo_halt F A rb on) (fun (u : SC) t => aW (dC, dI) (tM k) (va_A (wM r k F A) sz) (wM r k u.1 u.2) t) (va_A (wM r k F A) sz)) 0 0 (va_A (wM r k F A) sz) := by
  refine Met.ofW (cc := b_Mo_halt) (maxL := 5) (ret := (some .int)) (by decide) rfl ?_
  intro p e s m args below meth c s₁ B hml hv0
  obtain ⟨rfl, hsz, hP, hK, hD0⟩ := hv0
  have hx := B.exec
  have hb := B.bytes
  have hr := B.returns
  have hts := atoms_spec (ws := w_Mo_halt) B.pre
  have hW : ∀ w ∈ WALL, w.before ([.ref (r 0), .int rb, .int on] : List Value).toArray s = true := fun w h => hts w (List.mem_cons_of_mem _ h)
  have hown : s.vm.findClass R_Mo = some m.cls := findClass_of_methodNamed B.named
  have hlocks := B.notSynchronized
  subst hsz
  have hD := hD0.self (sz := s.heap.size)
  generalize hAe : va_A (wM r k F A) s.heap.size = Ad at hD ⊢
  have hA : ∀ q : Nat, s.heap.size ≤ q → Ad q := fun q h => by rw [← hAe]; exact Or.inr h
  have hS : va_S Ad s.heap s.heap [] := va_S.rf
  have hl := lv_entry ([.ref (r 0), .int rb, .int on]) (n := 5) (Nat.le_of_ble_eq_true rfl)
  rw [lg_entry_eq]
  generalize (lg_sl ([.ref (r 0), .int rb, .int on]) ++ List.replicate (5 - (lg_sl ([.ref (r 0), .int rb, .int on])).length) Slot.unset).toArray = ls at hl ⊢
  have hl : lv_has ls 5 [(0, .ref (r 0)), (1, .int rb), (2, .int on)] := hl
  obtain ⟨⟨hp0, hp1⟩, ⟨hr0, hr1⟩, hg0, hg1⟩ := id hI; have hr2 : (F 3).toInt ≤ 60 := Int.le_trans hr1 (by decide); have hp2 : (F 2).toInt ≤ 60 := Int.le_trans hp1 (by decide)
  have hv := f_Mo_halt.eq_1 F A rb on
  refine lv_aload_n hx hb d_Mo_halt_0 rfl (lv_at hl 0 rfl) ?_
  refine lv_aload_n hx hb d_Mo_halt_1 rfl (lv_at hl 0 rfl) ?_
  refine lv_iload_n hx hb d_Mo_halt_2 rfl (lv_at hl 1 rfl) ?_
  refine rdV ⟨hx, hb, hml, hown, hW⟩ (c_Mo_isRobot l dC dI r k F A rb  ) (cwV 1 hW (gIn k_222 k_223 k_224 k_193 k_225) rfl rfl rfl (by decide +kernel) ⟨Nat.le_of_ble_eq_true rfl, Nat.le_of_ble_eq_true rfl⟩) hK hP (va_recv hK hP (ci := 3) (q0 := 0) rfl rfl) rfl hl.1 rfl (Nat.le_of_ble_eq_true rfl) d_Mo_halt_3 ⟨Nat.zero_le _, Nat.zero_le _⟩ ?_
  refine lv_if_ne (tgt := 13) hx hb d_Mo_halt_6 (by decide) (fun c_1 => ?_) (fun c_1 => ?_)
  · have hv := hv.trans (if_neg c_1)
    refine lv_iconst (v := 0) hx hb d_Mo_halt_13 (by decide) ?_
    refine va_put (D := (dC, dI)) (ci := 3) (v := .int 0) (ty := .int) (C := R_Mo) (T := F_Mo) (N := 19) hx hb hW i_Mo t_Mo t_Mo_ok n_Mo hown hK hP hD hS 0 rfl rfl 0 (by decide) (hW _ k_189) (fun _ h9 => h9) rfl (by decide +kernel) rfl rfl (Nat.le_of_ble_eq_true rfl) d_Mo_halt_14 (fun H locs hP hD hS => ?_)
    have hP := pMF_0 hP
    have hD := dMF_0 hD
    refine lv_aload_n hx hb d_Mo_halt_17 rfl (lv_at hl 0 rfl) ?_
    refine va_get (D := (dC, dI)) (ci := 3) (v := .int 0) (C := R_Mo) (T := F_Mo) (N := 19) hx hb hW i_Mo hown hK hP 0 rfl rfl 0 (by decide) (hW _ k_189) (fun _ h9 => h9) rfl d_Mo_halt_18 ?_
    refine lv_if_ne (tgt := 43) hx hb d_Mo_halt_21 (by decide) (fun h9 => absurd h9 (by decide)) (fun _ => ?_)
    refine lv_aload_n hx hb d_Mo_halt_24 rfl (lv_at hl 0 rfl) ?_
    refine lv_aload_n hx hb d_Mo_halt_25 rfl (lv_at hl 0 rfl) ?_
    refine va_get (D := (dC, dI)) (ci := 3) (v := .ref (r 8)) (C := R_Mo) (T := F_Mo) (N := 19) hx hb hW i_Mo hown hK hP 0 rfl rfl 11 (by decide) (hW _ k_226) (fun _ h9 => h9) rfl d_Mo_halt_26 ?_
    refine lv_iload_n hx hb d_Mo_halt_29 rfl (lv_at hl 1 rfl) ?_
    refine va_zald hx hb hK hP 8 7 rfl rfl (mxR hI c_1) d_Mo_halt_30 ?_
    refine lv_iload_n hx hb d_Mo_halt_31 rfl (lv_at hl 2 rfl) ?_
    refine lv_icmp_ne (tgt := 39) hx hb d_Mo_halt_32 (by decide) (fun c_2 => ?_) (fun c_2 => ?_)
    · have hv := hv.trans (if_neg c_2)
      refine lv_iconst (v := 0) hx hb d_Mo_halt_39 (by decide) ?_
      refine va_put (D := (dC, dI)) (ci := 3) (v := .int 0) (ty := .int) (C := R_Mo) (T := F_Mo) (N := 19) hx hb hW i_Mo t_Mo t_Mo_ok n_Mo hown hK hP hD hS 0 rfl rfl 0 (by decide) (hW _ k_189) (fun _ h9 => h9) rfl (by decide +kernel) rfl rfl (Nat.le_of_ble_eq_true rfl) d_Mo_halt_40 (fun H locs hP hD hS => ?_)
      have hP := pMF_0 hP
      have hD := dMF_0 hD
      refine lv_aload_n hx hb d_Mo_halt_43 rfl (lv_at hl 0 rfl) ?_
      refine va_get (D := (dC, dI)) (ci := 3) (v := .int 0) (C := R_Mo) (T := F_Mo) (N := 19) hx hb hW i_Mo hown hK hP 0 rfl rfl 0 (by decide) (hW _ k_189) (fun _ h9 => h9) rfl d_Mo_halt_44 ?_
      refine lv_if_le (tgt := 52) hx hb d_Mo_halt_47 (by decide) (fun _ => ?_) (fun h9 => absurd h9 (by decide))
      refine lv_aload_n hx hb d_Mo_halt_52 rfl (lv_at hl 0 rfl) ?_
      refine va_get (D := (dC, dI)) (ci := 3) (v := .ref (r 8)) (C := R_Mo) (T := F_Mo) (N := 19) hx hb hW i_Mo hown hK hP 0 rfl rfl 11 (by decide) (hW _ k_226) (fun _ h9 => h9) rfl d_Mo_halt_53 ?_
      refine lv_iload_n hx hb d_Mo_halt_56 rfl (lv_at hl 1 rfl) ?_
      refine lv_iload_n hx hb d_Mo_halt_57 rfl (lv_at hl 2 rfl) ?_
      refine va_zast hx hb hK hP hD hS 8 7 rfl rfl (mxR hI c_1) d_Mo_halt_58 (fun H locs hP hD hS => ?_)
      have hP := pMA_7 hP
      have hD := dMA_7 hD
      generalize hAg1 : (uA A 7 (upd (A 7) rb.toNatClampNeg (vp_nar .boolean on))) = A1_ at hP hD hv
      refine lv_iload_n hx hb d_Mo_halt_59 rfl (lv_at hl 2 rfl) ?_
      refine lv_if_eq (tgt := 71) hx hb d_Mo_halt_60 (by decide) (fun c_3 => ?_) (fun c_3 => ?_)
      · have hv := hv.trans (if_pos c_3)
        refine lv_iconst (v := 0) hx hb d_Mo_halt_71 (by decide) ?_
        refine lv_istore_n (lv' := [(3, .int 0), (0, .ref (r 0)), (1, .int rb), (2, .int on)]) hx hb d_Mo_halt_72 rfl hl (by decide) rfl (fun ls hl => ?_)
        refine lv_iconst (v := 1) hx hb d_Mo_halt_73 (by decide) ?_
        refine lv_istore (lv' := [(4, .int 1), (3, .int 0), (0, .ref (r 0)), (1, .int rb), (2, .int on)]) hx hb d_Mo_halt_74 hl (by decide) rfl (fun ls hl => ?_)
        have loop76 : ∀ (n76 : Nat) (x4 : Int32) (B : Nat → Nat → Int32) (H : Heap) (locs : List Loc) (ls : Array Slot), LA (F 4) x4 n76 → f_Mo_halt F A rb on = f_Mo_halt_L76 F A rb on n76 B x4 → va_P (dC, dI) classes (wM r k (uF (uF F 0 0) 0 0) B) H → va_D Ad (wM r k (uF (uF F 0 0) 0 0) B) → va_S Ad s.heap H locs → lv_has ls 5 [(0, .ref (r 0)), (1, .int rb), (2, .int on), (3, .int 0), (4, .int x4)] → W p l e (headSpec w_Mo_halt ({ frames := 2, cells := 0, slots := 0, locals := 43 })).room s m ([.ref (r 0), .int rb, .int on] : List Value).toArray below meth c H locs 0 0 (MQ below (va_Qi (fun v (u : SC) => (v, u) = f_Mo_halt F A rb on) (fun (u : SC) t => aW (dC, dI) (tM k) Ad (wM r k u.1 u.2) t) Ad) ([.ref (r 0), .int rb, .int on] : List Value).toArray s 0 0 Ad) (F0 m 76 ls []) := by
          intro n76
          induction n76 with
          | zero => intro x4 B H locs ls hlp; exact (hlp.z).elim
          | succ n76 ih76 =>
            intro x4 B H locs ls hlp76 hv hP hD hS hl
            rw [f_Mo_halt_L76] at hv
            refine lv_iload hx hb d_Mo_halt_76 (lv_at hl 4 rfl) ?_
            refine lv_aload_n hx hb d_Mo_halt_78 rfl (lv_at hl 0 rfl) ?_
            refine va_get (D := (dC, dI)) (ci := 3) (v := .int (F 4)) (C := R_Mo) (T := F_Mo) (N := 19) hx hb hW i_Mo hown hK hP 0 rfl rfl 12 (by decide) (hW _ k_196) (fun _ h9 => h9) rfl d_Mo_halt_79 ?_
            refine lv_icmp_gt (tgt := 124) hx hb d_Mo_halt_82 (by decide) (fun c_4 => ?_) (fun c_4 => ?_)
            · have hv := hv.trans (if_pos c_4)
              refine lv_iload_n hx hb d_Mo_halt_124 rfl (lv_at hl 2 rfl) ?_
              refine lv_if_eq (tgt := 135) hx hb d_Mo_halt_125 (by decide) (fun _ => ?_) (fun h9 => absurd c_3 h9)
              refine lv_iload_n hx hb d_Mo_halt_135 rfl (lv_at hl 3 rfl) ?_
              exact W.iret (v := 0) hx hb hr (fun t ht hW9 => ⟨⟨0, ((uF (uF F 0 0) 0 0), B), rfl, hv.symm, by rw [ht]; exact hP, va_K.moved hW9.alike hK, hD⟩, hS.F ht⟩) hS.2.2 d_Mo_halt_136
            · have hv := hv.trans (if_neg c_4)
              refine lv_iload_n hx hb d_Mo_halt_85 rfl (lv_at hl 2 rfl) ?_
              refine lv_if_eq (tgt := 124) hx hb d_Mo_halt_86 (by decide) (fun _ => ?_) (fun h9 => absurd c_3 h9)
              refine lv_iload_n hx hb d_Mo_halt_124 rfl (lv_at hl 2 rfl) ?_
              refine lv_if_eq (tgt := 135) hx hb d_Mo_halt_125 (by decide) (fun _ => ?_) (fun h9 => absurd c_3 h9)
              refine lv_iload_n hx hb d_Mo_halt_135 rfl (lv_at hl 3 rfl) ?_
              exact W.iret (v := 0) hx hb hr (fun t ht hW9 => ⟨⟨0, ((uF (uF F 0 0) 0 0), B), rfl, hv.symm, by rw [ht]; exact hP, va_K.moved hW9.alike hK, hD⟩, hS.F ht⟩) hS.2.2 d_Mo_halt_136
        exact loop76 64 1 A1_ H locs ls (LA.i hg0 hg1) hv hP hD hS (lv_sub hl [2, 3, 4, 1, 0] rfl)
      · have hv := hv.trans (if_neg c_3)
        refine lv_aload_n hx hb d_Mo_halt_63 rfl (lv_at hl 0 rfl) ?_
        refine lv_iload_n hx hb d_Mo_halt_64 rfl (lv_at hl 1 rfl) ?_
        refine rdV ⟨hx, hb, hml, hown, hW⟩ (c_Mo_liveOf l dC dI r k (uF (uF F 0 0) 0 0) A1_ rb hI ) (cwV 1 hW (gIn k_244 k_245 k_246 k_193 k_247) rfl rfl rfl (by decide +kernel) ⟨Nat.le_of_ble_eq_true rfl, Nat.le_of_ble_eq_true rfl⟩) hK hP (va_recv hK hP (ci := 3) (q0 := 0) rfl rfl) rfl hl.1 rfl (Nat.le_of_ble_eq_true rfl) d_Mo_halt_65 ⟨Nat.zero_le _, Nat.zero_le _⟩ ?_
        refine lv_goto (tgt := 72) hx hb d_Mo_halt_68 (by decide) ?_
        refine lv_istore_n (lv' := [(3, .int (f_Mo_liveOf (uF (uF F 0 0) 0 0) A1_ rb)), (0, .ref (r 0)), (1, .int rb), (2, .int on)]) hx hb d_Mo_halt_72 rfl hl (by decide) rfl (fun ls hl => ?_)
        refine lv_iconst (v := 1) hx hb d_Mo_halt_73 (by decide) ?_
        refine lv_istore (lv' := [(4, .int 1), (3, .int (f_Mo_liveOf (uF (uF F 0 0) 0 0) A1_ rb)), (0, .ref (r 0)), (1, .int rb), (2, .int on)]) hx hb d_Mo_halt_74 hl (by decide) rfl (fun ls hl => ?_)
        have loop76 : ∀ (n76 : Nat) (x4 : Int32) (B : Nat → Nat → Int32) (H : Heap) (locs : List Loc) (ls : Array Slot), LA (F 4) x4 n76 → f_Mo_halt F A rb on = f_Mo_halt_L76b F A rb on A1_ n76 B x4 → va_P (dC, dI) classes (wM r k (uF (uF F 0 0) 0 0) B) H → va_D Ad (wM r k (uF (uF F 0 0) 0 0) B) → va_S Ad s.heap H locs → lv_has ls 5 [(0, .ref (r 0)), (1, .int rb), (2, .int on), (3, .int (f_Mo_liveOf (uF (uF F 0 0) 0 0) A1_ rb)), (4, .int x4)] → W p l e (headSpec w_Mo_halt ({ frames := 2, cells := 0, slots := 0, locals := 43 })).room s m ([.ref (r 0), .int rb, .int on] : List Value).toArray below meth c H locs 0 0 (MQ below (va_Qi (fun v (u : SC) => (v, u) = f_Mo_halt F A rb on) (fun (u : SC) t => aW (dC, dI) (tM k) Ad (wM r k u.1 u.2) t) Ad) ([.ref (r 0), .int rb, .int on] : List Value).toArray s 0 0 Ad) (F0 m 76 ls []) := by
          intro n76
          induction n76 with
          | zero => intro x4 B H locs ls hlp; exact (hlp.z).elim
          | succ n76 ih76 =>
            intro x4 B H locs ls hlp76 hv hP hD hS hl
            rw [f_Mo_halt_L76b] at hv
            refine lv_iload hx hb d_Mo_halt_76 (lv_at hl 4 rfl) ?_
            refine lv_aload_n hx hb d_Mo_halt_78 rfl (lv_at hl 0 rfl) ?_
            refine va_get (D := (dC, dI)) (ci := 3) (v := .int (F 4)) (C := R_Mo) (T := F_Mo) (N := 19) hx hb hW i_Mo hown hK hP 0 rfl rfl 12 (by decide) (hW _ k_196) (fun _ h9 => h9) rfl d_Mo_halt_79 ?_
            refine lv_icmp_gt (tgt := 124) hx hb d_Mo_halt_82 (by decide) (fun c_5 => ?_) (fun c_5 => ?_)
            · have hv := hv.trans (if_pos c_5)
              refine lv_iload_n hx hb d_Mo_halt_124 rfl (lv_at hl 2 rfl) ?_
              refine lv_if_eq (tgt := 135) hx hb d_Mo_halt_125 (by decide) (fun h9 => absurd h9 c_3) (fun _ => ?_)
              refine lv_aload_n hx hb d_Mo_halt_128 rfl (lv_at hl 0 rfl) ?_
              refine va_get (D := (dC, dI)) (ci := 3) (v := .ref (r 6)) (C := R_Mo) (T := F_Mo) (N := 19) hx hb hW i_Mo hown hK hP 0 rfl rfl 9 (by decide) (hW _ k_210) (fun _ h9 => h9) rfl d_Mo_halt_129 ?_
              refine lv_iload_n hx hb d_Mo_halt_132 rfl (lv_at hl 1 rfl) ?_
              refine lv_iconst (v := (-1)) hx hb d_Mo_halt_133 (by decide) ?_
              refine va_iast hx hb hK hP hD hS 6 5 rfl rfl (mxR hI c_1) d_Mo_halt_134 (fun H locs hP hD hS => ?_)
              have hP := pMA_5 hP
              have hD := dMA_5 hD
              generalize hAg2 : (uA B 5 (upd (B 5) rb.toNatClampNeg (-1))) = A2_ at hP hD hv
              refine lv_iload_n hx hb d_Mo_halt_135 rfl (lv_at hl 3 rfl) ?_
              exact W.iret (v := f_Mo_liveOf (uF (uF F 0 0) 0 0) A1_ rb) hx hb hr (fun t ht hW9 => ⟨⟨f_Mo_liveOf (uF (uF F 0 0) 0 0) A1_ rb, ((uF (uF F 0 0) 0 0), A2_), rfl, hv.symm, by rw [ht]; exact hP, va_K.moved hW9.alike hK, hD⟩, hS.F ht⟩) hS.2.2 d_Mo_halt_136
            · have hv := hv.trans (if_neg c_5)
              refine lv_iload_n hx hb d_Mo_halt_85 rfl (lv_at hl 2 rfl) ?_
              refine lv_if_eq (tgt := 124) hx hb d_Mo_halt_86 (by decide) (fun h9 => absurd h9 c_3) (fun _ => ?_)
              refine lv_aload_n hx hb d_Mo_halt_89 rfl (lv_at hl 0 rfl) ?_
              refine va_get (D := (dC, dI)) (ci := 3) (v := .ref (r 9)) (C := R_Mo) (T := F_Mo) (N := 19) hx hb hW i_Mo hown hK hP 0 rfl rfl 13 (by decide) (hW _ k_217) (fun _ h9 => h9) rfl d_Mo_halt_90 ?_
              refine lv_iload hx hb d_Mo_halt_93 (lv_at hl 4 rfl) ?_
              refine va_iald hx hb hK hP 9 8 rfl rfl (LA.ix hlp76 c_5 hg1) d_Mo_halt_95 ?_
              refine lv_iload_n hx hb d_Mo_halt_96 rfl (lv_at hl 1 rfl) ?_
              refine lv_icmp_ne (tgt := 118) hx hb d_Mo_halt_97 (by decide) (fun c_6 => ?_) (fun c_6 => ?_)
              · have hv := hv.trans (if_neg c_6)
                refine lv_iinc (v := x4 + 1) (lv' := [(4, .int (x4 + 1)), (0, .ref (r 0)), (1, .int rb), (2, .int on), (3, .int (f_Mo_liveOf (uF (uF F 0 0) 0 0) A1_ rb))]) hx hb d_Mo_halt_118 hl (k := 4) rfl rfl (by decide) rfl (fun ls hl => ?_)
                refine lv_goto (tgt := 76) hx hb d_Mo_halt_121 (by decide) ?_
                exact ih76 (x4 + 1) B H locs ls (LA.s hlp76 c_5 hg1) hv hP hD hS (lv_sub hl [1, 2, 3, 4, 0] rfl)
              · have hv := hv.trans (if_pos c_6)
                refine lv_aload_n hx hb d_Mo_halt_100 rfl (lv_at hl 0 rfl) ?_
                refine va_get (D := (dC, dI)) (ci := 3) (v := .ref (r 14)) (C := R_Mo) (T := F_Mo) (N := 19) hx hb hW i_Mo hown hK hP 0 rfl rfl 18 (by decide) (hW _ k_216) (fun _ h9 => h9) rfl d_Mo_halt_101 ?_
                refine lv_iload hx hb d_Mo_halt_104 (lv_at hl 4 rfl) ?_
                refine va_iald hx hb hK hP 14 13 rfl rfl (LA.ix hlp76 c_5 hg1) d_Mo_halt_106 ?_
                refine lv_if_ne (tgt := 118) hx hb d_Mo_halt_107 (by decide) (fun c_7 => ?_) (fun c_7 => ?_)
                · have hv := hv.trans (if_neg c_7)
                  refine lv_iinc (v := x4 + 1) (lv' := [(4, .int (x4 + 1)), (0, .ref (r 0)), (1, .int rb), (2, .int on), (3, .int (f_Mo_liveOf (uF (uF F 0 0) 0 0) A1_ rb))]) hx hb d_Mo_halt_118 hl (k := 4) rfl rfl (by decide) rfl (fun ls hl => ?_)
                  refine lv_goto (tgt := 76) hx hb d_Mo_halt_121 (by decide) ?_
                  exact ih76 (x4 + 1) B H locs ls (LA.s hlp76 c_5 hg1) hv hP hD hS (lv_sub hl [1, 2, 3, 4, 0] rfl)
                · have hv := hv.trans (if_pos c_7)
                  refine lv_aload_n hx hb d_Mo_halt_110 rfl (lv_at hl 0 rfl) ?_
                  refine va_get (D := (dC, dI)) (ci := 3) (v := .ref (r 14)) (C := R_Mo) (T := F_Mo) (N := 19) hx hb hW i_Mo hown hK hP 0 rfl rfl 18 (by decide) (hW _ k_216) (fun _ h9 => h9) rfl d_Mo_halt_111 ?_
                  refine lv_iload hx hb d_Mo_halt_114 (lv_at hl 4 rfl) ?_
                  refine lv_iconst (v := 2) hx hb d_Mo_halt_116 (by decide) ?_
                  refine va_iast hx hb hK hP hD hS 14 13 rfl rfl (LA.ix hlp76 c_5 hg1) d_Mo_halt_117 (fun H locs hP hD hS => ?_)
                  have hP := pMA_13 hP
                  have hD := dMA_13 hD
                  generalize hAg3 : (uA B 13 (upd (B 13) x4.toNatClampNeg 2)) = A3_ at hP hD hv
                  refine lv_iinc (v := x4 + 1) (lv' := [(4, .int (x4 + 1)), (0, .ref (r 0)), (1, .int rb), (2, .int on), (3, .int (f_Mo_liveOf (uF (uF F 0 0) 0 0) A1_ rb))]) hx hb d_Mo_halt_118 hl (k := 4) rfl rfl (by decide) rfl (fun ls hl => ?_)
                  refine lv_goto (tgt := 76) hx hb d_Mo_halt_121 (by decide) ?_
                  exact ih76 (x4 + 1) A3_ H locs ls (LA.s hlp76 c_5 hg1) hv hP hD hS (lv_sub hl [1, 2, 3, 4, 0] rfl)
        exact loop76 64 1 A1_ H locs ls (LA.i hg0 hg1) hv hP hD hS (lv_sub hl [2, 3, 4, 1, 0] rfl)
    · have hv := hv.trans (if_pos c_2)
      refine lv_iconst (v := 2) hx hb d_Mo_halt_35 (by decide) ?_
      refine lv_goto (tgt := 40) hx hb d_Mo_halt_36 (by decide) ?_
      refine va_put (D := (dC, dI)) (ci := 3) (v := .int 2) (ty := .int) (C := R_Mo) (T := F_Mo) (N := 19) hx hb hW i_Mo t_Mo t_Mo_ok n_Mo hown hK hP hD hS 0 rfl rfl 0 (by decide) (hW _ k_189) (fun _ h9 => h9) rfl (by decide +kernel) rfl rfl (Nat.le_of_ble_eq_true rfl) d_Mo_halt_40 (fun H locs hP hD hS => ?_)
      have hP := pMF_0 hP
      have hD := dMF_0 hD
      refine lv_aload_n hx hb d_Mo_halt_43 rfl (lv_at hl 0 rfl) ?_
      refine va_get (D := (dC, dI)) (ci := 3) (v := .int 2) (C := R_Mo) (T := F_Mo) (N := 19) hx hb hW i_Mo hown hK hP 0 rfl rfl 0 (by decide) (hW _ k_189) (fun _ h9 => h9) rfl d_Mo_halt_44 ?_
      refine lv_if_le (tgt := 52) hx hb d_Mo_halt_47 (by decide) (fun h9 => absurd h9 (by decide)) (fun _ => ?_)
      refine lv_iconst (v := 0) hx hb d_Mo_halt_50 (by decide) ?_
      exact W.iret (v := 0) hx hb hr (fun t ht hW9 => ⟨⟨0, ((uF (uF F 0 0) 0 2), A), rfl, hv.symm, by rw [ht]; exact hP, va_K.moved hW9.alike hK, hD⟩, hS.F ht⟩) hS.2.2 d_Mo_halt_51
  · have hv := hv.trans (if_pos c_1)
    refine lv_iconst (v := 1) hx hb d_Mo_halt_9 (by decide) ?_
    refine lv_goto (tgt := 14) hx hb d_Mo_halt_10 (by decide) ?_
    refine va_put (D := (dC, dI)) (ci := 3) (v := .int 1) (ty := .int) (C := R_Mo) (T := F_Mo) (N := 19) hx hb hW i_Mo t_Mo t_Mo_ok n_Mo hown hK hP hD hS 0 rfl rfl 0 (by decide) (hW _ k_189) (fun _ h9 => h9) rfl (by decide +kernel) rfl rfl (Nat.le_of_ble_eq_true rfl) d_Mo_halt_14 (fun H locs hP hD hS => ?_)
    have hP := pMF_0 hP
    have hD := dMF_0 hD
    refine lv_aload_n hx hb d_Mo_halt_17 rfl (lv_at hl 0 rfl) ?_
    refine va_get (D := (dC, dI)) (ci := 3) (v := .int 1) (C := R_Mo) (T := F_Mo) (N := 19) hx hb hW i_Mo hown hK hP 0 rfl rfl 0 (by decide) (hW _ k_189) (fun _ h9 => h9) rfl d_Mo_halt_18 ?_
    refine lv_if_ne (tgt := 43) hx hb d_Mo_halt_21 (by decide) (fun _ => ?_) (fun h9 => absurd h9 (by decide))
    refine lv_aload_n hx hb d_Mo_halt_43 rfl (lv_at hl 0 rfl) ?_
    refine va_get (D := (dC, dI)) (ci := 3) (v := .int 1) (C := R_Mo) (T := F_Mo) (N := 19) hx hb hW i_Mo hown hK hP 0 rfl rfl 0 (by decide) (hW _ k_189) (fun _ h9 => h9) rfl d_Mo_halt_44 ?_
    refine lv_if_le (tgt := 52) hx hb d_Mo_halt_47 (by decide) (fun h9 => absurd h9 (by decide)) (fun _ => ?_)
    refine lv_iconst (v := 0) hx hb d_Mo_halt_50 (by decide) ?_
    exact W.iret (v := 0) hx hb hr (fun t ht hW9 => ⟨⟨0, ((uF F 0 1), A), rfl, hv.symm, by rw [ht]; exact hP, va_K.moved hW9.alike hK, hD⟩, hS.F ht⟩) hS.2.2 d_Mo_halt_51
def f_Mo_report (F : Nat → Int32) (A : Nat → Nat → Int32) (rb : Int32) : Int32 × SC := if f_Mo_isRobot F A rb = 0 then (0, (uF F 0 1), A) else (f_Mo_isSilent (uF F 0 0) A rb, (uF F 0 0), (uA A 6 (upd (A 6) rb.toNatClampNeg (F 1))))
set_option maxHeartbeats 4000000 in
set_option maxRecDepth 100000 in
theorem c_Mo_report (l : Launch) (dC : Nat → ClassId) (dI : Nat → Nat → Nat) (r : Nat → Nat) (k : Nat → ClassId) (F : Nat → Int32) (A : Nat → Nat → Int32) (sz : Nat) (rb : Int32) (hI : SI F) : Met l y_Mo_report w_Mo_report ({ frames := 2, cells := 0, slots := 0, locals := 43 }) (va_Pc [.ref (r 0), .int rb] (SP (dC, dI) (wM r k F A) (tM k) sz)) (va_Qi (fun v (u : SC) => (v, u) = f_Mo_report F A rb) (fun (u : SC) t => aW (dC, dI) (tM k) (va_A (wM r k F A) sz) (wM r k u.1 u.2) t) (va_A (wM r k F A) sz)) 0 0 (va_A (wM r k F A) sz) := by
  refine Met.ofW (cc := b_Mo_report) (maxL := 3) (ret := (some .boolean)) (by decide) rfl ?_
  intro p e s m args below meth c s₁ B hml hv0
  obtain ⟨rfl, hsz, hP, hK, hD0⟩ := hv0
  have hx := B.exec
  have hb := B.bytes
  have hr := B.returns
  have hts := atoms_spec (ws := w_Mo_report) B.pre
  have hW : ∀ w ∈ WALL, w.before ([.ref (r 0), .int rb] : List Value).toArray s = true := fun w h => hts w (List.mem_cons_of_mem _ h)
  have hown : s.vm.findClass R_Mo = some m.cls := findClass_of_methodNamed B.named
  have hlocks := B.notSynchronized
  subst hsz
  have hD := hD0.self (sz := s.heap.size)
  generalize hAe : va_A (wM r k F A) s.heap.size = Ad at hD ⊢
  have hA : ∀ q : Nat, s.heap.size ≤ q → Ad q := fun q h => by rw [← hAe]; exact Or.inr h
  have hS : va_S Ad s.heap s.heap [] := va_S.rf
  have hl := lv_entry ([.ref (r 0), .int rb]) (n := 3) (Nat.le_of_ble_eq_true rfl)
  rw [lg_entry_eq]
  generalize (lg_sl ([.ref (r 0), .int rb]) ++ List.replicate (3 - (lg_sl ([.ref (r 0), .int rb])).length) Slot.unset).toArray = ls at hl ⊢
  have hl : lv_has ls 3 [(0, .ref (r 0)), (1, .int rb)] := hl
  obtain ⟨⟨hp0, hp1⟩, ⟨hr0, hr1⟩, hg0, hg1⟩ := id hI; have hr2 : (F 3).toInt ≤ 60 := Int.le_trans hr1 (by decide); have hp2 : (F 2).toInt ≤ 60 := Int.le_trans hp1 (by decide)
  have hv := f_Mo_report.eq_1 F A rb
  refine lv_aload_n hx hb d_Mo_report_0 rfl (lv_at hl 0 rfl) ?_
  refine lv_aload_n hx hb d_Mo_report_1 rfl (lv_at hl 0 rfl) ?_
  refine lv_iload_n hx hb d_Mo_report_2 rfl (lv_at hl 1 rfl) ?_
  refine rdV ⟨hx, hb, hml, hown, hW⟩ (c_Mo_isRobot l dC dI r k F A rb  ) (cwV 1 hW (gIn k_222 k_223 k_224 k_193 k_225) rfl rfl rfl (by decide +kernel) ⟨Nat.le_of_ble_eq_true rfl, Nat.le_of_ble_eq_true rfl⟩) hK hP (va_recv hK hP (ci := 3) (q0 := 0) rfl rfl) rfl hl.1 rfl (Nat.le_of_ble_eq_true rfl) d_Mo_report_3 ⟨Nat.zero_le _, Nat.zero_le _⟩ ?_
  refine lv_if_eq (tgt := 13) hx hb d_Mo_report_6 (by decide) (fun c_1 => ?_) (fun c_1 => ?_)
  · have hv := hv.trans (if_pos c_1)
    refine lv_iconst (v := 1) hx hb d_Mo_report_13 (by decide) ?_
    refine va_put (D := (dC, dI)) (ci := 3) (v := .int 1) (ty := .int) (C := R_Mo) (T := F_Mo) (N := 19) hx hb hW i_Mo t_Mo t_Mo_ok n_Mo hown hK hP hD hS 0 rfl rfl 0 (by decide) (hW _ k_189) (fun _ h9 => h9) rfl (by decide +kernel) rfl rfl (Nat.le_of_ble_eq_true rfl) d_Mo_report_14 (fun H locs hP hD hS => ?_)
    have hP := pMF_0 hP
    have hD := dMF_0 hD
    refine lv_aload_n hx hb d_Mo_report_17 rfl (lv_at hl 0 rfl) ?_
    refine va_get (D := (dC, dI)) (ci := 3) (v := .int 1) (C := R_Mo) (T := F_Mo) (N := 19) hx hb hW i_Mo hown hK hP 0 rfl rfl 0 (by decide) (hW _ k_189) (fun _ h9 => h9) rfl d_Mo_report_18 ?_
    refine lv_if_le (tgt := 26) hx hb d_Mo_report_21 (by decide) (fun h9 => absurd h9 (by decide)) (fun _ => ?_)
    refine lv_iconst (v := 0) hx hb d_Mo_report_24 (by decide) ?_
    exact W.zret (v := 0) (ty := .boolean) hx hb hr rfl (fun t ht hW9 => ⟨⟨0, ((uF F 0 1), A), rfl, hv.symm, by rw [ht]; exact hP, va_K.moved hW9.alike hK, hD⟩, hS.F ht⟩) hS.2.2 d_Mo_report_25
  · have hv := hv.trans (if_neg c_1)
    refine lv_iconst (v := 0) hx hb d_Mo_report_9 (by decide) ?_
    refine lv_goto (tgt := 14) hx hb d_Mo_report_10 (by decide) ?_
    refine va_put (D := (dC, dI)) (ci := 3) (v := .int 0) (ty := .int) (C := R_Mo) (T := F_Mo) (N := 19) hx hb hW i_Mo t_Mo t_Mo_ok n_Mo hown hK hP hD hS 0 rfl rfl 0 (by decide) (hW _ k_189) (fun _ h9 => h9) rfl (by decide +kernel) rfl rfl (Nat.le_of_ble_eq_true rfl) d_Mo_report_14 (fun H locs hP hD hS => ?_)
    have hP := pMF_0 hP
    have hD := dMF_0 hD
    refine lv_aload_n hx hb d_Mo_report_17 rfl (lv_at hl 0 rfl) ?_
    refine va_get (D := (dC, dI)) (ci := 3) (v := .int 0) (C := R_Mo) (T := F_Mo) (N := 19) hx hb hW i_Mo hown hK hP 0 rfl rfl 0 (by decide) (hW _ k_189) (fun _ h9 => h9) rfl d_Mo_report_18 ?_
    refine lv_if_le (tgt := 26) hx hb d_Mo_report_21 (by decide) (fun _ => ?_) (fun h9 => absurd h9 (by decide))
    refine lv_aload_n hx hb d_Mo_report_26 rfl (lv_at hl 0 rfl) ?_
    refine lv_iload_n hx hb d_Mo_report_27 rfl (lv_at hl 1 rfl) ?_
    refine rdV ⟨hx, hb, hml, hown, hW⟩ (c_Mo_isSilent l dC dI r k (uF F 0 0) A rb  (mxR hI c_1)) (cwV 1 hW (gIn k_227 k_228 k_229 k_193 k_230) rfl rfl rfl (by decide +kernel) ⟨Nat.le_of_ble_eq_true rfl, Nat.le_of_ble_eq_true rfl⟩) hK hP (va_recv hK hP (ci := 3) (q0 := 0) rfl rfl) rfl hl.1 rfl (Nat.le_of_ble_eq_true rfl) d_Mo_report_28 ⟨Nat.zero_le _, Nat.zero_le _⟩ ?_
    refine lv_istore_n (lv' := [(2, .int (f_Mo_isSilent (uF F 0 0) A rb)), (0, .ref (r 0)), (1, .int rb)]) hx hb d_Mo_report_31 rfl hl (by decide) rfl (fun ls hl => ?_)
    refine lv_aload_n hx hb d_Mo_report_32 rfl (lv_at hl 1 rfl) ?_
    refine va_get (D := (dC, dI)) (ci := 3) (v := .ref (r 7)) (C := R_Mo) (T := F_Mo) (N := 19) hx hb hW i_Mo hown hK hP 0 rfl rfl 10 (by decide) (hW _ k_211) (fun _ h9 => h9) rfl d_Mo_report_33 ?_
    refine lv_iload_n hx hb d_Mo_report_36 rfl (lv_at hl 2 rfl) ?_
    refine lv_aload_n hx hb d_Mo_report_37 rfl (lv_at hl 1 rfl) ?_
    refine va_get (D := (dC, dI)) (ci := 3) (v := .int (F 1)) (C := R_Mo) (T := F_Mo) (N := 19) hx hb hW i_Mo hown hK hP 0 rfl rfl 1 (by decide) (hW _ k_212) (fun _ h9 => h9) rfl d_Mo_report_38 ?_
    refine va_iast hx hb hK hP hD hS 7 6 rfl rfl (mxR hI c_1) d_Mo_report_41 (fun H locs hP hD hS => ?_)
    have hP := pMA_6 hP
    have hD := dMA_6 hD
    generalize hAg1 : (uA A 6 (upd (A 6) rb.toNatClampNeg (F 1))) = A1_ at hP hD hv
    refine lv_iload_n hx hb d_Mo_report_42 rfl (lv_at hl 0 rfl) ?_
    exact W.zret (v := f_Mo_isSilent (uF F 0 0) A rb) (ty := .boolean) hx hb hr (nar01 (b01_f_Mo_isSilent (uF F 0 0) A rb)) (fun t ht hW9 => ⟨⟨f_Mo_isSilent (uF F 0 0) A rb, ((uF F 0 0), A1_), rfl, hv.symm, by rw [ht]; exact hP, va_K.moved hW9.alike hK, hD⟩, hS.F ht⟩) hS.2.2 d_Mo_report_43
