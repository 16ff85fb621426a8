def f_Rb_ringByWaiting_L5 (F : Nat → Int32) (A : Nat → Nat → Int32) (rb aw : Int32) : Nat → Int32 → Int32 → Int32
  | 0, _, _ => 0
  | n5 + 1, x3, x4 => if F 2 < x4 then 0 else (if x3 = (-1) then 0 else (if f_Rb_standingOn F A x3 = rb then x4 else (if f_Rb_standingOn F A x3 = (-1) then (f_Rb_ringByWaiting_L5 F A rb aw n5 (-1) (x4 + 1)) else (f_Rb_ringByWaiting_L5 F A rb aw n5 (A 5 (f_Rb_standingOn F A x3).toNatClampNeg) (x4 + 1)))))
def f_Rb_ringByWaiting (F : Nat → Int32) (A : Nat → Nat → Int32) (rb aw : Int32) : Int32 := f_Rb_ringByWaiting_L5 F A rb aw 64 aw 1
set_option maxHeartbeats 4000000 in
set_option maxRecDepth 100000 in
theorem c_Rb_ringByWaiting (l : Launch) (dC : Nat → ClassId) (dI : Nat → Nat → Nat) (r : Nat → Nat) (k : Nat → ClassId) (F : Nat → Int32) (A : Nat → Nat → Int32) (rb aw : Int32) (hI : CI F) : Met l y_Rb_ringByWaiting w_Rb_ringByWaiting ({ frames := 1, cells := 0, slots := 0, locals := 22 }) (va_Pc [.ref (r 1), .int rb, .int aw] (RO (dC, dI) (wC r k F A) (tC k))) (vp_Si (fun v => v = f_Rb_ringByWaiting F A rb aw)) 0 0 (fun _ => False) := by
  refine Met.ofW (cc := b_Rb_ringByWaiting) (maxL := 6) (ret := (some .int)) (by decide) rfl ?_
  intro p e s m args below meth c s₁ B hml hv0
  obtain ⟨rfl, hP, hK⟩ := hv0
  have hx := B.exec
  have hb := B.bytes
  have hr := B.returns
  have hts := atoms_spec (ws := w_Rb_ringByWaiting) B.pre
  have hW : ∀ w ∈ WALL, w.before ([.ref (r 1), .int rb, .int aw] : List Value).toArray s = true := fun w h => hts w (List.mem_cons_of_mem _ h)
  have hown : s.vm.findClass R_Rb = some m.cls := findClass_of_methodNamed B.named
  have hlocks := B.notSynchronized
  have hl := lv_entry ([.ref (r 1), .int rb, .int aw]) (n := 6) (Nat.le_of_ble_eq_true rfl)
  rw [lg_entry_eq]
  generalize (lg_sl ([.ref (r 1), .int rb, .int aw]) ++ List.replicate (6 - (lg_sl ([.ref (r 1), .int rb, .int aw])).length) Slot.unset).toArray = ls at hl ⊢
  have hl : lv_has ls 6 [(0, .ref (r 1)), (1, .int rb), (2, .int aw)] := hl
  obtain ⟨⟨hp0, hp1⟩, ⟨hr0, hr1⟩, hg0, hg1⟩ := id hI; have hr2 : (F 2).toInt ≤ 60 := Int.le_trans hr1 (by decide)
  have hv := f_Rb_ringByWaiting.eq_1 F A rb aw
  refine lv_iload_n hx hb d_Rb_ringByWaiting_0 rfl (lv_at hl 2 rfl) ?_
  refine lv_istore_n (lv' := [(3, .int aw), (0, .ref (r 1)), (1, .int rb), (2, .int aw)]) hx hb d_Rb_ringByWaiting_1 rfl hl (by decide) rfl (fun ls hl => ?_)
  refine lv_iconst (v := 1) hx hb d_Rb_ringByWaiting_2 (by decide) ?_
  refine lv_istore (lv' := [(4, .int 1), (3, .int aw), (0, .ref (r 1)), (1, .int rb), (2, .int aw)]) hx hb d_Rb_ringByWaiting_3 hl (by decide) rfl (fun ls hl => ?_)
  have loop5 : ∀ (n5 : Nat) (x3 : Int32) (x4 : Int32) (ls : Array Slot), LA (F 2) x4 n5 → f_Rb_ringByWaiting F A rb aw = f_Rb_ringByWaiting_L5 F A rb aw n5 x3 x4 → lv_has ls 6 [(0, .ref (r 1)), (1, .int rb), (2, .int aw), (3, .int x3), (4, .int x4)] → W p l e (headSpec w_Rb_ringByWaiting ({ frames := 1, cells := 0, slots := 0, locals := 22 })).room s m ([.ref (r 1), .int rb, .int aw] : List Value).toArray below meth c s.heap [] 0 0 (MQ below (vp_Si (fun v => v = f_Rb_ringByWaiting F A rb aw)) ([.ref (r 1), .int rb, .int aw] : List Value).toArray s 0 0 (fun _ => False)) (F0 m 5 ls []) := by
    intro n5
    induction n5 with
    | zero => intro x3 x4 ls hlp; exact (hlp.z).elim
    | succ n5 ih5 =>
      intro x3 x4 ls hlp5 hv hl
      rw [f_Rb_ringByWaiting_L5] at hv
      refine lv_iload hx hb d_Rb_ringByWaiting_5 (lv_at hl 4 rfl) ?_
      refine lv_aload_n hx hb d_Rb_ringByWaiting_7 rfl (lv_at hl 0 rfl) ?_
      refine va_get (D := (dC, dI)) (ci := 1) (v := .int (F 2)) (C := R_Rb) (T := F_Rb) (N := 7) hx hb hW i_Rb hown hK hP 1 rfl rfl 0 (by decide) (hW _ k_22) (fun _ h9 => h9) rfl d_Rb_ringByWaiting_8 ?_
      refine lv_icmp_gt (tgt := 59) hx hb d_Rb_ringByWaiting_11 (by decide) (fun c_1 => ?_) (fun c_1 => ?_)
      · have hv := hv.trans (if_pos c_1)
        refine lv_iconst (v := 0) hx hb d_Rb_ringByWaiting_59 (by decide) ?_
        exact W.iret (v := 0) hx hb hr (fun t ht hW9 => ⟨0, rfl, hv.symm, ht⟩) (fun q hq => nomatch hq) d_Rb_ringByWaiting_60
      · have hv := hv.trans (if_neg c_1)
        refine lv_iload_n hx hb d_Rb_ringByWaiting_14 rfl (lv_at hl 3 rfl) ?_
        refine lv_iconst (v := (-1)) hx hb d_Rb_ringByWaiting_15 (by decide) ?_
        refine lv_icmp_eq (tgt := 59) hx hb d_Rb_ringByWaiting_16 (by decide) (fun c_2 => ?_) (fun c_2 => ?_)
        · have hv := hv.trans (if_pos c_2)
          refine lv_iconst (v := 0) hx hb d_Rb_ringByWaiting_59 (by decide) ?_
          exact W.iret (v := 0) hx hb hr (fun t ht hW9 => ⟨0, rfl, hv.symm, ht⟩) (fun q hq => nomatch hq) d_Rb_ringByWaiting_60
        · have hv := hv.trans (if_neg c_2)
          refine lv_aload_n hx hb d_Rb_ringByWaiting_19 rfl (lv_at hl 0 rfl) ?_
          refine lv_iload_n hx hb d_Rb_ringByWaiting_20 rfl (lv_at hl 3 rfl) ?_
          refine rdV ⟨hx, hb, hml, hown, hW⟩ (c_Rb_standingOn l dC dI r k F A x3 hI ) (cwV 1 hW (gIn k_46 k_31 k_32 k_33 k_34) rfl rfl rfl (by decide +kernel) ⟨Nat.le_of_ble_eq_true rfl, Nat.le_of_ble_eq_true rfl⟩) hK hP (va_recv hK hP (ci := 1) (q0 := 1) rfl rfl) rfl hl.1 rfl (Nat.le_of_ble_eq_true rfl) d_Rb_ringByWaiting_21 ⟨Nat.zero_le _, Nat.zero_le _⟩ ?_
          refine lv_istore (lv' := [(5, .int (f_Rb_standingOn F A x3)), (0, .ref (r 1)), (1, .int rb), (2, .int aw), (3, .int x3), (4, .int x4)]) hx hb d_Rb_ringByWaiting_24 hl (by decide) rfl (fun ls hl => ?_)
          refine lv_iload hx hb d_Rb_ringByWaiting_26 (lv_at hl 0 rfl) ?_
          refine lv_iload_n hx hb d_Rb_ringByWaiting_28 rfl (lv_at hl 2 rfl) ?_
          refine lv_icmp_ne (tgt := 35) hx hb d_Rb_ringByWaiting_29 (by decide) (fun c_3 => ?_) (fun c_3 => ?_)
          · have hv := hv.trans (if_neg c_3)
            refine lv_iload hx hb d_Rb_ringByWaiting_35 (lv_at hl 0 rfl) ?_
            refine lv_iconst (v := (-1)) hx hb d_Rb_ringByWaiting_37 (by decide) ?_
            refine lv_icmp_ne (tgt := 45) hx hb d_Rb_ringByWaiting_38 (by decide) (fun c_4 => ?_) (fun c_4 => ?_)
            · have hv := hv.trans (if_neg c_4)
              refine lv_aload_n hx hb d_Rb_ringByWaiting_45 rfl (lv_at hl 1 rfl) ?_
              refine va_get (D := (dC, dI)) (ci := 1) (v := .ref (r 8)) (C := R_Rb) (T := F_Rb) (N := 7) hx hb hW i_Rb hown hK hP 1 rfl rfl 4 (by decide) (hW _ k_26) (fun _ h9 => h9) rfl d_Rb_ringByWaiting_46 ?_
              refine lv_iload hx hb d_Rb_ringByWaiting_49 (lv_at hl 0 rfl) ?_
              refine va_iald hx hb hK hP 8 5 rfl rfl (ixS hI c_4) d_Rb_ringByWaiting_51 ?_
              refine lv_istore_n (lv' := [(3, .int (A 5 (f_Rb_standingOn F A x3).toNatClampNeg)), (5, .int (f_Rb_standingOn F A x3)), (0, .ref (r 1)), (1, .int rb), (2, .int aw), (4, .int x4)]) hx hb d_Rb_ringByWaiting_52 rfl hl (by decide) rfl (fun ls hl => ?_)
              refine lv_iinc (v := x4 + 1) (lv' := [(4, .int (x4 + 1)), (3, .int (A 5 (f_Rb_standingOn F A x3).toNatClampNeg)), (5, .int (f_Rb_standingOn F A x3)), (0, .ref (r 1)), (1, .int rb), (2, .int aw)]) hx hb d_Rb_ringByWaiting_53 hl (k := 5) rfl rfl (by decide) rfl (fun ls hl => ?_)
              refine lv_goto (tgt := 5) hx hb d_Rb_ringByWaiting_56 (by decide) ?_
              exact ih5 (A 5 (f_Rb_standingOn F A x3).toNatClampNeg) (x4 + 1) ls (LA.s hlp5 c_1 hr2) hv (lv_sub hl [3, 4, 5, 1, 0] rfl)
            · have hv := hv.trans (if_pos c_4)
              refine lv_iconst (v := (-1)) hx hb d_Rb_ringByWaiting_41 (by decide) ?_
              refine lv_goto (tgt := 52) hx hb d_Rb_ringByWaiting_42 (by decide) ?_
              refine lv_istore_n (lv' := [(3, .int (-1)), (5, .int (f_Rb_standingOn F A x3)), (0, .ref (r 1)), (1, .int rb), (2, .int aw), (4, .int x4)]) hx hb d_Rb_ringByWaiting_52 rfl hl (by decide) rfl (fun ls hl => ?_)
              refine lv_iinc (v := x4 + 1) (lv' := [(4, .int (x4 + 1)), (3, .int (-1)), (5, .int (f_Rb_standingOn F A x3)), (0, .ref (r 1)), (1, .int rb), (2, .int aw)]) hx hb d_Rb_ringByWaiting_53 hl (k := 5) rfl rfl (by decide) rfl (fun ls hl => ?_)
              refine lv_goto (tgt := 5) hx hb d_Rb_ringByWaiting_56 (by decide) ?_
              exact ih5 (-1) (x4 + 1) ls (LA.s hlp5 c_1 hr2) hv (lv_sub hl [3, 4, 5, 1, 0] rfl)
          · have hv := hv.trans (if_pos c_3)
            refine lv_iload hx hb d_Rb_ringByWaiting_32 (lv_at hl 5 rfl) ?_
            exact W.iret (v := x4) hx hb hr (fun t ht hW9 => ⟨x4, rfl, hv.symm, ht⟩) (fun q hq => nomatch hq) d_Rb_ringByWaiting_34
  exact loop5 64 aw 1 ls (LA.i hr0 hr2) hv (lv_sub hl [2, 3, 4, 1, 0] rfl)
def f_RS_await (F : Nat → Int32) (A : Nat → Nat → Int32) (rb pc : Int32) : Nat × Int32 × SC := if f_RS_needRobot F A rb = 0 then (if f_RS_needPiece F A pc = 0 then (if f_Rb_otherStandsOn F A rb pc = 0 then (3, 0, F, A) else (if f_Rb_ringByWaiting F A rb pc = 0 then (0, -(f_Rb_ringByWaiting F A rb pc), F, (uA A 5 (upd (A 5) rb.toNatClampNeg pc))) else (0, -(f_Rb_ringByWaiting F A rb pc), F, A))) else (f_RS_needPiece F A pc, 0, F, A)) else (f_RS_needRobot F A rb, 0, F, A)
set_option maxHeartbeats 4000000 in
set_option maxRecDepth 100000 in
theorem c_RS_await_k (l : Launch) (dC : Nat → ClassId) (dI : Nat → Nat → Nat) (r : Nat → Nat) (k : Nat → ClassId) (F : Nat → Int32) (A : Nat → Nat → Int32) (sz : Nat) (rb pc : Int32) (hI : CI F) (hk : (f_RS_await F A rb pc).1 = 0) : Met l y_RS_await w_RS_await ({ frames := 2, cells := 0, slots := 0, locals := 47 }) (va_Pc [.ref (r 0), .int rb, .int pc] (SP (dC, dI) (wC r k F A) (tC k) sz)) (va_Qi (fun v (u : SC) => (0, v, u) = f_RS_await F A rb pc) (fun (u : SC) t => aW (dC, dI) (tC k) (va_A (wC r k F A) sz) (wC r k u.1 u.2) t) (va_A (wC r k F A) sz)) 0 0 (va_A (wC r k F A) sz) := by
  refine Met.ofW (cc := b_RS_await) (maxL := 4) (ret := (some .int)) (by decide) rfl ?_
  intro p e s m args below meth c s₁ B hml hv0
  obtain ⟨rfl, hsz, hP, hK, hD0⟩ := hv0
  have hx := B.exec
  have hb := B.bytes
  have hr := B.returns
  have hts := atoms_spec (ws := w_RS_await) B.pre
  have hW : ∀ w ∈ WALL, w.before ([.ref (r 0), .int rb, .int pc] : List Value).toArray s = true := fun w h => hts w (List.mem_cons_of_mem _ h)
  have hown : s.vm.findClass R_RS = some m.cls := findClass_of_methodNamed B.named
  have hlocks := B.notSynchronized
  subst hsz
  have hD := hD0.self (sz := s.heap.size)
  generalize hAe : va_A (wC r k F A) s.heap.size = Ad at hD ⊢
  have hA : ∀ q : Nat, s.heap.size ≤ q → Ad q := fun q h => by rw [← hAe]; exact Or.inr h
  have hS : va_S Ad s.heap s.heap [] := va_S.rf
  have hl := lv_entry ([.ref (r 0), .int rb, .int pc]) (n := 4) (Nat.le_of_ble_eq_true rfl)
  rw [lg_entry_eq]
  generalize (lg_sl ([.ref (r 0), .int rb, .int pc]) ++ List.replicate (4 - (lg_sl ([.ref (r 0), .int rb, .int pc])).length) Slot.unset).toArray = ls at hl ⊢
  have hl : lv_has ls 4 [(0, .ref (r 0)), (1, .int rb), (2, .int pc)] := hl
  obtain ⟨⟨hp0, hp1⟩, ⟨hr0, hr1⟩, hg0, hg1⟩ := id hI; have hr2 : (F 2).toInt ≤ 60 := Int.le_trans hr1 (by decide)
  have hv := f_RS_await.eq_1 F A rb pc
  refine lv_aload_n hx hb d_RS_await_0 rfl (lv_at hl 0 rfl) ?_
  refine lv_iload_n hx hb d_RS_await_1 rfl (lv_at hl 1 rfl) ?_
  by_cases c_1 : f_RS_needRobot F A rb = 0
  · have hv := hv.trans (if_pos c_1)
    refine rdVv ⟨hx, hb, hml, hown, hW⟩ (c_RS_needRobot_k l dC dI r k F A rb   c_1) (cwV 1 hW (gIn k_77 k_78 k_79 k_15 k_80) rfl rfl rfl (by decide +kernel) ⟨Nat.le_of_ble_eq_true rfl, Nat.le_of_ble_eq_true rfl⟩) hK hP (va_recv hK hP (ci := 0) (q0 := 0) rfl rfl) rfl hl.1 rfl (Nat.le_of_ble_eq_true rfl) d_RS_await_2 ⟨Nat.zero_le _, Nat.zero_le _⟩ ?_
    refine lv_aload_n hx hb d_RS_await_5 rfl (lv_at hl 0 rfl) ?_
    refine lv_iload_n hx hb d_RS_await_6 rfl (lv_at hl 2 rfl) ?_
    by_cases c_2 : f_RS_needPiece F A pc = 0
    · have hv := hv.trans (if_pos c_2)
      refine rdVv ⟨hx, hb, hml, hown, hW⟩ (c_RS_needPiece_k l dC dI r k F A pc   c_2) (cwV 1 hW (gIn k_12 k_13 k_14 k_15 k_16) rfl rfl rfl (by decide +kernel) ⟨Nat.le_of_ble_eq_true rfl, Nat.le_of_ble_eq_true rfl⟩) hK hP (va_recv hK hP (ci := 0) (q0 := 0) rfl rfl) rfl hl.1 rfl (Nat.le_of_ble_eq_true rfl) d_RS_await_7 ⟨Nat.zero_le _, Nat.zero_le _⟩ ?_
      refine lv_aload_n hx hb d_RS_await_10 rfl (lv_at hl 0 rfl) ?_
      refine va_get (D := (dC, dI)) (ci := 0) (v := .ref (r 1)) (C := R_RS) (T := F_RS) (N := 6) hx hb hW i_RS hown hK hP 0 rfl rfl 4 (by decide) (hW _ k_3) (fun _ h9 => h9) rfl d_RS_await_11 ?_
      refine lv_iload_n hx hb d_RS_await_14 rfl (lv_at hl 1 rfl) ?_
      refine lv_iload_n hx hb d_RS_await_15 rfl (lv_at hl 2 rfl) ?_
      refine rdV ⟨hx, hb, hml, hown, hW⟩ (c_Rb_otherStandsOn l dC dI r k F A rb pc hI ) (cwV 2 hW (gIn k_94 k_95 k_96 k_33 k_97) rfl rfl rfl (by decide +kernel) ⟨Nat.le_of_ble_eq_true rfl, Nat.le_of_ble_eq_true rfl⟩) hK hP (va_recv hK hP (ci := 1) (q0 := 1) rfl rfl) rfl hl.1 rfl (Nat.le_of_ble_eq_true rfl) d_RS_await_16 ⟨Nat.zero_le _, Nat.zero_le _⟩ ?_
      refine lv_if_ne (tgt := 32) hx hb d_RS_await_19 (by decide) (fun c_3 => ?_) (fun c_3 => ?_)
      · have hv := hv.trans (if_neg c_3)
        refine lv_aload_n hx hb d_RS_await_32 rfl (lv_at hl 0 rfl) ?_
        refine va_get (D := (dC, dI)) (ci := 0) (v := .ref (r 1)) (C := R_RS) (T := F_RS) (N := 6) hx hb hW i_RS hown hK hP 0 rfl rfl 4 (by decide) (hW _ k_3) (fun _ h9 => h9) rfl d_RS_await_33 ?_
        refine lv_iload_n hx hb d_RS_await_36 rfl (lv_at hl 1 rfl) ?_
        refine lv_iload_n hx hb d_RS_await_37 rfl (lv_at hl 2 rfl) ?_
        refine rdV ⟨hx, hb, hml, hown, hW⟩ (c_Rb_ringByWaiting l dC dI r k F A rb pc hI ) (cwV 2 hW (gIn k_144 k_145 k_146 k_33 k_147) rfl rfl rfl (by decide +kernel) ⟨Nat.le_of_ble_eq_true rfl, Nat.le_of_ble_eq_true rfl⟩) hK hP (va_recv hK hP (ci := 1) (q0 := 1) rfl rfl) rfl hl.1 rfl (Nat.le_of_ble_eq_true rfl) d_RS_await_38 ⟨Nat.zero_le _, Nat.zero_le _⟩ ?_
        refine lv_istore_n (lv' := [(3, .int (f_Rb_ringByWaiting F A rb pc)), (0, .ref (r 0)), (1, .int rb), (2, .int pc)]) hx hb d_RS_await_41 rfl hl (by decide) rfl (fun ls hl => ?_)
        refine lv_iload_n hx hb d_RS_await_42 rfl (lv_at hl 0 rfl) ?_
        refine lv_if_ne (tgt := 56) hx hb d_RS_await_43 (by decide) (fun c_4 => ?_) (fun c_4 => ?_)
        · have hv := hv.trans (if_neg c_4)
          refine lv_iload_n hx hb d_RS_await_56 rfl (lv_at hl 0 rfl) ?_
          refine lv_ineg hx hb d_RS_await_57 ?_
          exact W.iret (v := -(f_Rb_ringByWaiting F A rb pc)) hx hb hr (fun t ht hW9 => ⟨⟨-(f_Rb_ringByWaiting F A rb pc), (F, A), rfl, hv.symm, by rw [ht]; exact hP, va_K.moved hW9.alike hK, hD⟩, hS.F ht⟩) hS.2.2 d_RS_await_58
        · have hv := hv.trans (if_pos c_4)
          refine lv_aload_n hx hb d_RS_await_46 rfl (lv_at hl 1 rfl) ?_
          refine va_get (D := (dC, dI)) (ci := 0) (v := .ref (r 1)) (C := R_RS) (T := F_RS) (N := 6) hx hb hW i_RS hown hK hP 0 rfl rfl 4 (by decide) (hW _ k_3) (fun _ h9 => h9) rfl d_RS_await_47 ?_
          refine va_get (D := (dC, dI)) (ci := 1) (v := .ref (r 8)) (C := R_Rb) (T := F_Rb) (N := 7) hx hb hW i_Rb hown hK hP 1 rfl rfl 4 (by decide) (hW _ k_148) (fun _ h9 => h9) rfl d_RS_await_50 ?_
          refine lv_iload_n hx hb d_RS_await_53 rfl (lv_at hl 2 rfl) ?_
          refine lv_iload_n hx hb d_RS_await_54 rfl (lv_at hl 3 rfl) ?_
          refine va_iast hx hb hK hP hD hS 8 5 rfl rfl (ixR hI c_1) d_RS_await_55 (fun H locs hP hD hS => ?_)
          have hP := pCA_5 hP
          have hD := dCA_5 hD
          generalize hAg1 : (uA A 5 (upd (A 5) rb.toNatClampNeg pc)) = A1_ at hP hD hv
          refine lv_iload_n hx hb d_RS_await_56 rfl (lv_at hl 0 rfl) ?_
          refine lv_ineg hx hb d_RS_await_57 ?_
          exact W.iret (v := -(f_Rb_ringByWaiting F A rb pc)) hx hb hr (fun t ht hW9 => ⟨⟨-(f_Rb_ringByWaiting F A rb pc), (F, A1_), rfl, hv.symm, by rw [ht]; exact hP, va_K.moved hW9.alike hK, hD⟩, hS.F ht⟩) hS.2.2 d_RS_await_58
      · have hv := hv.trans (if_pos c_3)
        rw [hv] at hk
        exact absurd (show (3 : Nat) = 0 from hk) (by decide)
    · have hv := hv.trans (if_neg c_2)
      rw [hv] at hk
      exact absurd hk c_2
  · have hv := hv.trans (if_neg c_1)
    rw [hv] at hk
    exact absurd hk c_1
set_option maxHeartbeats 4000000 in
set_option maxRecDepth 100000 in
theorem c_RS_await_x (l : Launch) (hl9 : l.stackTraces = false) (dC : Nat → ClassId) (dI : Nat → Nat → Nat) (r : Nat → Nat) (k : Nat → ClassId) (F : Nat → Int32) (A : Nat → Nat → Int32) (sz : Nat) (rb pc : Int32) (hI : CI F) (hk : ¬ (f_RS_await F A rb pc).1 = 0) : vx_Met l y_RS_await w_RS_await ({ frames := 7, cells := 1, slots := 6, locals := 103 }) (va_Pc [.ref (r 0), .int rb, .int pc] (XP (dC, dI) (wC r k F A) (tC k) sz)) (va_Qi (fun _ (_ : SC) => False) (fun (u : SC) t => aW (dC, dI) (tC k) (va_A (wC r k F A) sz) (wC r k u.1 u.2) t) (va_A (wC r k F A) sz)) (vx_X (fun u : Nat => f_RS_await F A rb pc = (u, 0, F, A)) (fun E u t => E = exN u ∧ aW (dC, dI) (tC k) (va_A (wC r k F A) sz) (wC r k F A) t) (va_A (wC r k F A) sz)) 1 6 (va_A (wC r k F A) sz) := by
  refine vx_ofW (cc := b_RS_await) (maxL := 4) (ret := (some .int)) (by decide) rfl ?_
  intro p e s m args below meth c s₁ B hml hEx hv0
  obtain ⟨rfl, ⟨hsz, hP, hK, hD0⟩, hXS⟩ := hv0
  have hx := B.exec
  have hb := B.bytes
  have hr := B.returns
  have hts := atoms_spec (ws := w_RS_await) B.pre
  have hW : ∀ w ∈ WALL, w.before ([.ref (r 0), .int rb, .int pc] : List Value).toArray s = true := fun w h => hts w (List.mem_cons_of_mem _ h)
  have hown : s.vm.findClass R_RS = some m.cls := findClass_of_methodNamed B.named
  have hlocks := B.notSynchronized
  subst hsz
  have hD := hD0.self (sz := s.heap.size)
  generalize hAe : va_A (wC r k F A) s.heap.size = Ad at hD hXS ⊢
  have hA : ∀ q : Nat, s.heap.size ≤ q → Ad q := fun q h => by rw [← hAe]; exact Or.inr h
  have hS : va_S Ad s.heap s.heap [] := va_S.rf
  have hl := lv_entry ([.ref (r 0), .int rb, .int pc]) (n := 4) (Nat.le_of_ble_eq_true rfl)
  rw [lg_entry_eq]
  generalize (lg_sl ([.ref (r 0), .int rb, .int pc]) ++ List.replicate (4 - (lg_sl ([.ref (r 0), .int rb, .int pc])).length) Slot.unset).toArray = ls at hl ⊢
  have hl : lv_has ls 4 [(0, .ref (r 0)), (1, .int rb), (2, .int pc)] := hl
  obtain ⟨⟨hp0, hp1⟩, ⟨hr0, hr1⟩, hg0, hg1⟩ := id hI; have hr2 : (F 2).toInt ≤ 60 := Int.le_trans hr1 (by decide)
  have hv := f_RS_await.eq_1 F A rb pc
  refine lv_aload_n hx hb d_RS_await_0 rfl (lv_at hl 0 rfl) ?_
  refine lv_iload_n hx hb d_RS_await_1 rfl (lv_at hl 1 rfl) ?_
  by_cases c_1 : f_RS_needRobot F A rb = 0
  · have hv := hv.trans (if_pos c_1)
    refine rdVv ⟨hx, hb, hml, hown, hW⟩ (c_RS_needRobot_k l dC dI r k F A rb   c_1) (cwV 1 hW (gIn k_77 k_78 k_79 k_15 k_80) rfl rfl rfl (by decide +kernel) ⟨Nat.le_of_ble_eq_true rfl, Nat.le_of_ble_eq_true rfl⟩) hK hP (va_recv hK hP (ci := 0) (q0 := 0) rfl rfl) rfl hl.1 rfl (Nat.le_of_ble_eq_true rfl) d_RS_await_2 ⟨Nat.zero_le _, Nat.zero_le _⟩ ?_
    refine lv_aload_n hx hb d_RS_await_5 rfl (lv_at hl 0 rfl) ?_
    refine lv_iload_n hx hb d_RS_await_6 rfl (lv_at hl 2 rfl) ?_
    by_cases c_2 : f_RS_needPiece F A pc = 0
    · have hv := hv.trans (if_pos c_2)
      refine rdVv ⟨hx, hb, hml, hown, hW⟩ (c_RS_needPiece_k l dC dI r k F A pc   c_2) (cwV 1 hW (gIn k_12 k_13 k_14 k_15 k_16) rfl rfl rfl (by decide +kernel) ⟨Nat.le_of_ble_eq_true rfl, Nat.le_of_ble_eq_true rfl⟩) hK hP (va_recv hK hP (ci := 0) (q0 := 0) rfl rfl) rfl hl.1 rfl (Nat.le_of_ble_eq_true rfl) d_RS_await_7 ⟨Nat.zero_le _, Nat.zero_le _⟩ ?_
      refine lv_aload_n hx hb d_RS_await_10 rfl (lv_at hl 0 rfl) ?_
      refine va_get (D := (dC, dI)) (ci := 0) (v := .ref (r 1)) (C := R_RS) (T := F_RS) (N := 6) hx hb hW i_RS hown hK hP 0 rfl rfl 4 (by decide) (hW _ k_3) (fun _ h9 => h9) rfl d_RS_await_11 ?_
      refine lv_iload_n hx hb d_RS_await_14 rfl (lv_at hl 1 rfl) ?_
      refine lv_iload_n hx hb d_RS_await_15 rfl (lv_at hl 2 rfl) ?_
      refine rdV ⟨hx, hb, hml, hown, hW⟩ (c_Rb_otherStandsOn l dC dI r k F A rb pc hI ) (cwV 2 hW (gIn k_94 k_95 k_96 k_33 k_97) rfl rfl rfl (by decide +kernel) ⟨Nat.le_of_ble_eq_true rfl, Nat.le_of_ble_eq_true rfl⟩) hK hP (va_recv hK hP (ci := 1) (q0 := 1) rfl rfl) rfl hl.1 rfl (Nat.le_of_ble_eq_true rfl) d_RS_await_16 ⟨Nat.zero_le _, Nat.zero_le _⟩ ?_
      refine lv_if_ne (tgt := 32) hx hb d_RS_await_19 (by decide) (fun c_3 => ?_) (fun c_3 => ?_)
      · have hv := hv.trans (if_neg c_3)
        exact (hk ((congrArg Prod.fst hv).trans (by first | rfl | ((repeat' split) <;> (first | rfl | exact cd_next_L _ _ _ _ _ _ _))))).elim
      · have hv := hv.trans (if_pos c_3)
        exact thr hx hb hl9 hown hW hXS tw_14 hS (hl.1.trans hml.symm) d_RS_await_22 d_RS_await_25 d_RS_await_26 d_RS_await_28 d_RS_await_31 hEx (Nat.le_of_ble_eq_true rfl) (Nat.le_of_ble_eq_true rfl) (Nat.le_of_ble_eq_true rfl) (Nat.le_of_ble_eq_true rfl) hlocks (fun t ha hsz hk9 => ⟨3, hv, ⟨rfl, hP.kept (fun k9 q hq => hk9 q.1 (hP k9 q hq).lt), va_K.moved ha hK, hD⟩, Nat.le_trans hS.1 hsz, fun q h1 h2 => (hk9 q (Nat.lt_of_lt_of_le h1 hS.1)).trans (hS.2.1 q h1 h2)⟩) hS.2.2 (Nat.le_of_ble_eq_true rfl) (Nat.le_of_ble_eq_true rfl)
    · have hv := hv.trans (if_neg c_2)
      refine gdV ⟨hx, hb, hml, hown, hW⟩ (c_RS_needPiece_x l hl9 dC dI r k F A _ pc   c_2) (cwV 1 hW (gIn k_12 k_13 k_14 k_15 k_16) rfl rfl rfl (by decide +kernel) ⟨Nat.le_of_ble_eq_true rfl, Nat.le_of_ble_eq_true rfl⟩) hK hP hXS hA (va_recv hK hP (ci := 0) (q0 := 0) rfl rfl) hS rfl hl.1 rfl (Nat.le_of_ble_eq_true rfl) d_RS_await_7 ⟨Nat.le_of_ble_eq_true rfl, Nat.le_of_ble_eq_true rfl⟩ (fun H locs q9 ce hP hS hce hcv hcl => ?_)
      exact vx_out (E := exN (f_RS_needPiece F A pc)) (fun x hx => (hEx x hx).elim) hlocks hce hcv hcl (fun t ht ha => ⟨f_RS_needPiece F A pc, hv, ⟨rfl, by rw [ht]; exact hP, va_K.moved ha hK, hD⟩, hS.F ht⟩) hS.2.2 (Nat.le_of_ble_eq_true rfl) (Nat.le_of_ble_eq_true rfl)
  · have hv := hv.trans (if_neg c_1)
    refine gdV ⟨hx, hb, hml, hown, hW⟩ (c_RS_needRobot_x l hl9 dC dI r k F A _ rb   c_1) (cwV 1 hW (gIn k_77 k_78 k_79 k_15 k_80) rfl rfl rfl (by decide +kernel) ⟨Nat.le_of_ble_eq_true rfl, Nat.le_of_ble_eq_true rfl⟩) hK hP hXS hA (va_recv hK hP (ci := 0) (q0 := 0) rfl rfl) hS rfl hl.1 rfl (Nat.le_of_ble_eq_true rfl) d_RS_await_2 ⟨Nat.le_of_ble_eq_true rfl, Nat.le_of_ble_eq_true rfl⟩ (fun H locs q9 ce hP hS hce hcv hcl => ?_)
    exact vx_out (E := exN (f_RS_needRobot F A rb)) (fun x hx => (hEx x hx).elim) hlocks hce hcv hcl (fun t ht ha => ⟨f_RS_needRobot F A rb, hv, ⟨rfl, by rw [ht]; exact hP, va_K.moved ha hK, hD⟩, hS.F ht⟩) hS.2.2 (Nat.le_of_ble_eq_true rfl) (Nat.le_of_ble_eq_true rfl)
def f_Gr_greatestPriority_L5 (F : Nat → Int32) (A : Nat → Nat → Int32) (rb pc : Int32) : Nat → Int32 → Int32 → Int32
  | 0, _, _ => 0
  | n5 + 1, x3, x4 => if F 3 < x4 then x3 else (if f_Gr_isLiveOf F A x4 rb = 0 then (f_Gr_greatestPriority_L5 F A rb pc n5 x3 (x4 + 1)) else (if A 9 x4.toNatClampNeg = pc then (f_Gr_greatestPriority_L5 F A rb pc n5 (if x3 < A 12 x4.toNatClampNeg then A 12 x4.toNatClampNeg else x3) (x4 + 1)) else (f_Gr_greatestPriority_L5 F A rb pc n5 x3 (x4 + 1))))
def f_Gr_greatestPriority (F : Nat → Int32) (A : Nat → Nat → Int32) (rb pc : Int32) : Int32 := f_Gr_greatestPriority_L5 F A rb pc 64 0 1
set_option maxHeartbeats 4000000 in
set_option maxRecDepth 100000 in
theorem c_Gr_greatestPriority (l : Launch) (dC : Nat → ClassId) (dI : Nat → Nat → Nat) (r : Nat → Nat) (k : Nat → ClassId) (F : Nat → Int32) (A : Nat → Nat → Int32) (rb pc : Int32) (hI : CI F) : Met l y_Gr_greatestPriority w_Gr_greatestPriority ({ frames := 2, cells := 0, slots := 0, locals := 43 }) (va_Pc [.ref (r 2), .int rb, .int pc] (RO (dC, dI) (wC r k F A) (tC k))) (vp_Si (fun v => v = f_Gr_greatestPriority F A rb pc)) 0 0 (fun _ => False) := by
  refine Met.ofW (cc := b_Gr_greatestPriority) (maxL := 5) (ret := (some .int)) (by decide) rfl ?_
  intro p e s m args below meth c s₁ B hml hv0
  obtain ⟨rfl, hP, hK⟩ := hv0
  have hx := B.exec
  have hb := B.bytes
  have hr := B.returns
  have hts := atoms_spec (ws := w_Gr_greatestPriority) B.pre
  have hW : ∀ w ∈ WALL, w.before ([.ref (r 2), .int rb, .int pc] : List Value).toArray s = true := fun w h => hts w (List.mem_cons_of_mem _ h)
  have hown : s.vm.findClass R_Gr = some m.cls := findClass_of_methodNamed B.named
  have hlocks := B.notSynchronized
  have hl := lv_entry ([.ref (r 2), .int rb, .int pc]) (n := 5) (Nat.le_of_ble_eq_true rfl)
  rw [lg_entry_eq]
  generalize (lg_sl ([.ref (r 2), .int rb, .int pc]) ++ List.replicate (5 - (lg_sl ([.ref (r 2), .int rb, .int pc])).length) Slot.unset).toArray = ls at hl ⊢
  have hl : lv_has ls 5 [(0, .ref (r 2)), (1, .int rb), (2, .int pc)] := hl
  obtain ⟨⟨hp0, hp1⟩, ⟨hr0, hr1⟩, hg0, hg1⟩ := id hI; have hr2 : (F 2).toInt ≤ 60 := Int.le_trans hr1 (by decide)
  have hv := f_Gr_greatestPriority.eq_1 F A rb pc
  refine lv_iconst (v := 0) hx hb d_Gr_greatestPriority_0 (by decide) ?_
  refine lv_istore_n (lv' := [(3, .int 0), (0, .ref (r 2)), (1, .int rb), (2, .int pc)]) hx hb d_Gr_greatestPriority_1 rfl hl (by decide) rfl (fun ls hl => ?_)
  refine lv_iconst (v := 1) hx hb d_Gr_greatestPriority_2 (by decide) ?_
  refine lv_istore (lv' := [(4, .int 1), (3, .int 0), (0, .ref (r 2)), (1, .int rb), (2, .int pc)]) hx hb d_Gr_greatestPriority_3 hl (by decide) rfl (fun ls hl => ?_)
  have loop5 : ∀ (n5 : Nat) (x3 : Int32) (x4 : Int32) (ls : Array Slot), LA (F 3) x4 n5 → f_Gr_greatestPriority F A rb pc = f_Gr_greatestPriority_L5 F A rb pc n5 x3 x4 → lv_has ls 5 [(0, .ref (r 2)), (1, .int rb), (2, .int pc), (3, .int x3), (4, .int x4)] → W p l e (headSpec w_Gr_greatestPriority ({ frames := 2, cells := 0, slots := 0, locals := 43 })).room s m ([.ref (r 2), .int rb, .int pc] : List Value).toArray below meth c s.heap [] 0 0 (MQ below (vp_Si (fun v => v = f_Gr_greatestPriority F A rb pc)) ([.ref (r 2), .int rb, .int pc] : List Value).toArray s 0 0 (fun _ => False)) (F0 m 5 ls []) := by
    intro n5
    induction n5 with
    | zero => intro x3 x4 ls hlp; exact (hlp.z).elim
    | succ n5 ih5 =>
      intro x3 x4 ls hlp5 hv hl
      rw [f_Gr_greatestPriority_L5] at hv
      refine lv_iload hx hb d_Gr_greatestPriority_5 (lv_at hl 4 rfl) ?_
      refine lv_aload_n hx hb d_Gr_greatestPriority_7 rfl (lv_at hl 0 rfl) ?_
      refine va_get (D := (dC, dI)) (ci := 2) (v := .int (F 3)) (C := R_Gr) (T := F_Gr) (N := 7) hx hb hW i_Gr hown hK hP 2 rfl rfl 0 (by decide) (hW _ k_74) (fun _ h9 => h9) rfl d_Gr_greatestPriority_8 ?_
      refine lv_icmp_gt (tgt := 53) hx hb d_Gr_greatestPriority_11 (by decide) (fun c_1 => ?_) (fun c_1 => ?_)
      · have hv := hv.trans (if_pos c_1)
        refine lv_iload_n hx hb d_Gr_greatestPriority_53 rfl (lv_at hl 3 rfl) ?_
        exact W.iret (v := x3) hx hb hr (fun t ht hW9 => ⟨x3, rfl, hv.symm, ht⟩) (fun q hq => nomatch hq) d_Gr_greatestPriority_54
      · have hv := hv.trans (if_neg c_1)
        refine lv_aload_n hx hb d_Gr_greatestPriority_14 rfl (lv_at hl 0 rfl) ?_
        refine lv_iload hx hb d_Gr_greatestPriority_15 (lv_at hl 4 rfl) ?_
        refine lv_iload_n hx hb d_Gr_greatestPriority_17 rfl (lv_at hl 1 rfl) ?_
        refine rdV ⟨hx, hb, hml, hown, hW⟩ (c_Gr_isLiveOf l dC dI r k F A x4 rb hI (LA.ix hlp5 c_1 hg1)) (cwV 2 hW (gIn k_110 k_111 k_112 k_52 k_113) rfl rfl rfl (by decide +kernel) ⟨Nat.le_of_ble_eq_true rfl, Nat.le_of_ble_eq_true rfl⟩) hK hP (va_recv hK hP (ci := 2) (q0 := 2) rfl rfl) rfl hl.1 rfl (Nat.le_of_ble_eq_true rfl) d_Gr_greatestPriority_18 ⟨Nat.zero_le _, Nat.zero_le _⟩ ?_
        refine lv_if_eq (tgt := 47) hx hb d_Gr_greatestPriority_21 (by decide) (fun c_2 => ?_) (fun c_2 => ?_)
        · have hv := hv.trans (if_pos c_2)
          refine lv_iinc (v := x4 + 1) (lv' := [(4, .int (x4 + 1)), (0, .ref (r 2)), (1, .int rb), (2, .int pc), (3, .int x3)]) hx hb d_Gr_greatestPriority_47 hl (k := 4) rfl rfl (by decide) rfl (fun ls hl => ?_)
          refine lv_goto (tgt := 5) hx hb d_Gr_greatestPriority_50 (by decide) ?_
          exact ih5 x3 (x4 + 1) ls (LA.s hlp5 c_1 hg1) hv (lv_sub hl [1, 2, 3, 4, 0] rfl)
        · have hv := hv.trans (if_neg c_2)
          refine lv_aload_n hx hb d_Gr_greatestPriority_24 rfl (lv_at hl 0 rfl) ?_
          refine va_get (D := (dC, dI)) (ci := 2) (v := .ref (r 12)) (C := R_Gr) (T := F_Gr) (N := 7) hx hb hW i_Gr hown hK hP 2 rfl rfl 2 (by decide) (hW _ k_54) (fun _ h9 => h9) rfl d_Gr_greatestPriority_25 ?_
          refine lv_iload hx hb d_Gr_greatestPriority_28 (lv_at hl 4 rfl) ?_
          refine va_iald hx hb hK hP 12 9 rfl rfl (LA.ix hlp5 c_1 hg1) d_Gr_greatestPriority_30 ?_
          refine lv_iload_n hx hb d_Gr_greatestPriority_31 rfl (lv_at hl 2 rfl) ?_
          refine lv_icmp_ne (tgt := 47) hx hb d_Gr_greatestPriority_32 (by decide) (fun c_3 => ?_) (fun c_3 => ?_)
          · have hv := hv.trans (if_neg c_3)
            refine lv_iinc (v := x4 + 1) (lv' := [(4, .int (x4 + 1)), (0, .ref (r 2)), (1, .int rb), (2, .int pc), (3, .int x3)]) hx hb d_Gr_greatestPriority_47 hl (k := 4) rfl rfl (by decide) rfl (fun ls hl => ?_)
            refine lv_goto (tgt := 5) hx hb d_Gr_greatestPriority_50 (by decide) ?_
            exact ih5 x3 (x4 + 1) ls (LA.s hlp5 c_1 hg1) hv (lv_sub hl [1, 2, 3, 4, 0] rfl)
          · have hv := hv.trans (if_pos c_3)
            refine lv_iload_n hx hb d_Gr_greatestPriority_35 rfl (lv_at hl 3 rfl) ?_
            refine lv_aload_n hx hb d_Gr_greatestPriority_36 rfl (lv_at hl 0 rfl) ?_
            refine va_get (D := (dC, dI)) (ci := 2) (v := .ref (r 15)) (C := R_Gr) (T := F_Gr) (N := 7) hx hb hW i_Gr hown hK hP 2 rfl rfl 5 (by decide) (hW _ k_76) (fun _ h9 => h9) rfl d_Gr_greatestPriority_37 ?_
            refine lv_iload hx hb d_Gr_greatestPriority_40 (lv_at hl 4 rfl) ?_
            refine va_iald hx hb hK hP 15 12 rfl rfl (LA.ix hlp5 c_1 hg1) d_Gr_greatestPriority_42 ?_
            refine va_mmax hx hb (hml.trans hl.1.symm) hown (hW _ k_149) (hW _ k_150) (hW _ k_151) (hW _ k_152) (Nat.le_of_ble_eq_true rfl) (Nat.le_of_ble_eq_true rfl) (Nat.zero_le _) (Nat.zero_le _) d_Gr_greatestPriority_43 ?_
            refine lv_istore_n (lv' := [(3, .int (if x3 < A 12 x4.toNatClampNeg then A 12 x4.toNatClampNeg else x3)), (0, .ref (r 2)), (1, .int rb), (2, .int pc), (4, .int x4)]) hx hb d_Gr_greatestPriority_46 rfl hl (by decide) rfl (fun ls hl => ?_)
            refine lv_iinc (v := x4 + 1) (lv' := [(4, .int (x4 + 1)), (3, .int (if x3 < A 12 x4.toNatClampNeg then A 12 x4.toNatClampNeg else x3)), (0, .ref (r 2)), (1, .int rb), (2, .int pc)]) hx hb d_Gr_greatestPriority_47 hl (k := 4) rfl rfl (by decide) rfl (fun ls hl => ?_)
            refine lv_goto (tgt := 5) hx hb d_Gr_greatestPriority_50 (by decide) ?_
            exact ih5 (if x3 < A 12 x4.toNatClampNeg then A 12 x4.toNatClampNeg else x3) (x4 + 1) ls (LA.s hlp5 c_1 hg1) hv (lv_sub hl [2, 3, 4, 1, 0] rfl)
  exact loop5 64 0 1 ls (LA.i hg0 hg1) hv (lv_sub hl [2, 3, 4, 1, 0] rfl)
def f_RS_next_L12 (F : Nat → Int32) (A : Nat → Nat → Int32) (pc : Int32) : Nat → Int32 → Int32 → Int32 → Nat × Int32 × SC
  | 0, _, _, _ => (0, 0, F, A)
  | n12 + 1, x2, x3, x4 => if F 2 ≤ x4 then (0, x2, F, A) else (if A 5 x4.toNatClampNeg = pc then (if f_Gr_greatestPriority F A x4 pc ≤ x3 then (f_RS_next_L12 F A pc n12 x2 x3 (x4 + 1)) else (f_RS_next_L12 F A pc n12 x4 (f_Gr_greatestPriority F A x4 pc) (x4 + 1))) else (f_RS_next_L12 F A pc n12 x2 x3 (x4 + 1)))
def f_RS_next (F : Nat → Int32) (A : Nat → Nat → Int32) (pc : Int32) : Nat × Int32 × SC := if f_RS_needPiece F A pc = 0 then (f_RS_next_L12 F A pc 64 (-1) (-1) 0) else (f_RS_needPiece F A pc, 0, F, A)
theorem cd_next_L (F : Nat → Int32) (A : Nat → Nat → Int32) (pc : Int32) : ∀ (n : Nat) (i j k : Int32), (f_RS_next_L12 F A pc n i j k).1 = 0 := by
  intro n
  induction n with
  | zero => intros; rfl
  | succ n ih =>
    intro i j k
    rw [f_RS_next_L12]
    repeat' split
    all_goals first | rfl | exact ih _ _ _
set_option maxHeartbeats 4000000 in
set_option maxRecDepth 100000 in
theorem c_RS_next_k (l : Launch) (dC : Nat → ClassId) (dI : Nat → Nat → Nat) (r : Nat → Nat) (k : Nat → ClassId) (F : Nat → Int32) (A : Nat → Nat → Int32) (sz : Nat) (pc : Int32) (hI : CI F) (hk : (f_RS_next F A pc).1 = 0) : Met l y_RS_next w_RS_next ({ frames := 3, cells := 0, slots := 0, locals := 67 }) (va_Pc [.ref (r 0), .int pc] (SP (dC, dI) (wC r k F A) (tC k) sz)) (va_Qi (fun v (u : SC) => (0, v, u) = f_RS_next F A pc) (fun (u : SC) t => aW (dC, dI) (tC k) (va_A (wC r k F A) sz) (wC r k u.1 u.2) t) (va_A (wC r k F A) sz)) 0 0 (va_A (wC r k F A) sz) := by
  refine Met.ofW (cc := b_RS_next) (maxL := 6) (ret := (some .int)) (by decide) rfl ?_
  intro p e s m args below meth c s₁ B hml hv0
  obtain ⟨rfl, hsz, hP, hK, hD0⟩ := hv0
  have hx := B.exec
  have hb := B.bytes
  have hr := B.returns
  have hts := atoms_spec (ws := w_RS_next) B.pre
  have hW : ∀ w ∈ WALL, w.before ([.ref (r 0), .int pc] : List Value).toArray s = true := fun w h => hts w (List.mem_cons_of_mem _ h)
  have hown : s.vm.findClass R_RS = some m.cls := findClass_of_methodNamed B.named
  have hlocks := B.notSynchronized
  subst hsz
  have hD := hD0.self (sz := s.heap.size)
  generalize hAe : va_A (wC r k F A) s.heap.size = Ad at hD ⊢
  have hA : ∀ q : Nat, s.heap.size ≤ q → Ad q := fun q h => by rw [← hAe]; exact Or.inr h
  have hS : va_S Ad s.heap s.heap [] := va_S.rf
  have hl := lv_entry ([.ref (r 0), .int pc]) (n := 6) (Nat.le_of_ble_eq_true rfl)
  rw [lg_entry_eq]
  generalize (lg_sl ([.ref (r 0), .int pc]) ++ List.replicate (6 - (lg_sl ([.ref (r 0), .int pc])).length) Slot.unset).toArray = ls at hl ⊢
  have hl : lv_has ls 6 [(0, .ref (r 0)), (1, .int pc)] := hl
  obtain ⟨⟨hp0, hp1⟩, ⟨hr0, hr1⟩, hg0, hg1⟩ := id hI; have hr2 : (F 2).toInt ≤ 60 := Int.le_trans hr1 (by decide)
  have hv := f_RS_next.eq_1 F A pc
  refine lv_aload_n hx hb d_RS_next_0 rfl (lv_at hl 0 rfl) ?_
  refine lv_iload_n hx hb d_RS_next_1 rfl (lv_at hl 1 rfl) ?_
  by_cases c_1 : f_RS_needPiece F A pc = 0
  · have hv := hv.trans (if_pos c_1)
    refine rdVv ⟨hx, hb, hml, hown, hW⟩ (c_RS_needPiece_k l dC dI r k F A pc   c_1) (cwV 1 hW (gIn k_12 k_13 k_14 k_15 k_16) rfl rfl rfl (by decide +kernel) ⟨Nat.le_of_ble_eq_true rfl, Nat.le_of_ble_eq_true rfl⟩) hK hP (va_recv hK hP (ci := 0) (q0 := 0) rfl rfl) rfl hl.1 rfl (Nat.le_of_ble_eq_true rfl) d_RS_next_2 ⟨Nat.zero_le _, Nat.zero_le _⟩ ?_
    refine lv_iconst (v := (-1)) hx hb d_RS_next_5 (by decide) ?_
    refine lv_istore_n (lv' := [(2, .int (-1)), (0, .ref (r 0)), (1, .int pc)]) hx hb d_RS_next_6 rfl hl (by decide) rfl (fun ls hl => ?_)
    refine lv_iconst (v := (-1)) hx hb d_RS_next_7 (by decide) ?_
    refine lv_istore_n (lv' := [(3, .int (-1)), (2, .int (-1)), (0, .ref (r 0)), (1, .int pc)]) hx hb d_RS_next_8 rfl hl (by decide) rfl (fun ls hl => ?_)
    refine lv_iconst (v := 0) hx hb d_RS_next_9 (by decide) ?_
    refine lv_istore (lv' := [(4, .int 0), (3, .int (-1)), (2, .int (-1)), (0, .ref (r 0)), (1, .int pc)]) hx hb d_RS_next_10 hl (by decide) rfl (fun ls hl => ?_)
    have loop12 : ∀ (n12 : Nat) (x2 : Int32) (x3 : Int32) (x4 : Int32) (ls : Array Slot), LB (F 2) x4 n12 → f_RS_next F A pc = f_RS_next_L12 F A pc n12 x2 x3 x4 → lv_has ls 6 [(0, .ref (r 0)), (1, .int pc), (2, .int x2), (3, .int x3), (4, .int x4)] → W p l e (headSpec w_RS_next ({ frames := 3, cells := 0, slots := 0, locals := 67 })).room s m ([.ref (r 0), .int pc] : List Value).toArray below meth c s.heap [] 0 0 (MQ below (va_Qi (fun v (u : SC) => (0, v, u) = f_RS_next F A pc) (fun (u : SC) t => aW (dC, dI) (tC k) Ad (wC r k u.1 u.2) t) Ad) ([.ref (r 0), .int pc] : List Value).toArray s 0 0 Ad) (F0 m 12 ls []) := by
      intro n12
      induction n12 with
      | zero => intro x2 x3 x4 ls hlp; exact (hlp.z).elim
      | succ n12 ih12 =>
        intro x2 x3 x4 ls hlp12 hv hl
        rw [f_RS_next_L12] at hv
        refine lv_iload hx hb d_RS_next_12 (lv_at hl 4 rfl) ?_
        refine lv_aload_n hx hb d_RS_next_14 rfl (lv_at hl 0 rfl) ?_
        refine va_get (D := (dC, dI)) (ci := 0) (v := .ref (r 1)) (C := R_RS) (T := F_RS) (N := 6) hx hb hW i_RS hown hK hP 0 rfl rfl 4 (by decide) (hW _ k_3) (fun _ h9 => h9) rfl d_RS_next_15 ?_
        refine va_get (D := (dC, dI)) (ci := 1) (v := .int (F 2)) (C := R_Rb) (T := F_Rb) (N := 7) hx hb hW i_Rb hown hK hP 1 rfl rfl 0 (by decide) (hW _ k_4) (fun _ h9 => h9) rfl d_RS_next_18 ?_
        refine lv_icmp_ge (tgt := 68) hx hb d_RS_next_21 (by decide) (fun c_2 => ?_) (fun c_2 => ?_)
        · have hv := hv.trans (if_pos c_2)
          refine lv_iload_n hx hb d_RS_next_68 rfl (lv_at hl 2 rfl) ?_
          exact W.iret (v := x2) hx hb hr (fun t ht hW9 => ⟨⟨x2, (F, A), rfl, hv.symm, by rw [ht]; exact hP, va_K.moved hW9.alike hK, hD⟩, hS.F ht⟩) hS.2.2 d_RS_next_69
        · have hv := hv.trans (if_neg c_2)
          refine lv_aload_n hx hb d_RS_next_24 rfl (lv_at hl 0 rfl) ?_
          refine va_get (D := (dC, dI)) (ci := 0) (v := .ref (r 1)) (C := R_RS) (T := F_RS) (N := 6) hx hb hW i_RS hown hK hP 0 rfl rfl 4 (by decide) (hW _ k_3) (fun _ h9 => h9) rfl d_RS_next_25 ?_
          refine va_get (D := (dC, dI)) (ci := 1) (v := .ref (r 8)) (C := R_Rb) (T := F_Rb) (N := 7) hx hb hW i_Rb hown hK hP 1 rfl rfl 4 (by decide) (hW _ k_148) (fun _ h9 => h9) rfl d_RS_next_28 ?_
          refine lv_iload hx hb d_RS_next_31 (lv_at hl 4 rfl) ?_
          refine va_iald hx hb hK hP 8 5 rfl rfl (LB.ix hlp12 c_2 hr1) d_RS_next_33 ?_
          refine lv_iload_n hx hb d_RS_next_34 rfl (lv_at hl 1 rfl) ?_
          refine lv_icmp_ne (tgt := 62) hx hb d_RS_next_35 (by decide) (fun c_3 => ?_) (fun c_3 => ?_)
          · have hv := hv.trans (if_neg c_3)
            refine lv_iinc (v := x4 + 1) (lv' := [(4, .int (x4 + 1)), (0, .ref (r 0)), (1, .int pc), (2, .int x2), (3, .int x3)]) hx hb d_RS_next_62 hl (k := 4) rfl rfl (by decide) rfl (fun ls hl => ?_)
            refine lv_goto (tgt := 12) hx hb d_RS_next_65 (by decide) ?_
            exact ih12 x2 x3 (x4 + 1) ls (LB.s hlp12 c_2 hr2) hv (lv_sub hl [1, 2, 3, 4, 0] rfl)
          · have hv := hv.trans (if_pos c_3)
            refine lv_aload_n hx hb d_RS_next_38 rfl (lv_at hl 0 rfl) ?_
            refine va_get (D := (dC, dI)) (ci := 0) (v := .ref (r 2)) (C := R_RS) (T := F_RS) (N := 6) hx hb hW i_RS hown hK hP 0 rfl rfl 5 (by decide) (hW _ k_5) (fun _ h9 => h9) rfl d_RS_next_39 ?_
            refine lv_iload hx hb d_RS_next_42 (lv_at hl 4 rfl) ?_
            refine lv_iload_n hx hb d_RS_next_44 rfl (lv_at hl 1 rfl) ?_
            refine rdV ⟨hx, hb, hml, hown, hW⟩ (c_Gr_greatestPriority l dC dI r k F A x4 pc hI ) (cwV 2 hW (gIn k_153 k_154 k_155 k_52 k_156) rfl rfl rfl (by decide +kernel) ⟨Nat.le_of_ble_eq_true rfl, Nat.le_of_ble_eq_true rfl⟩) hK hP (va_recv hK hP (ci := 2) (q0 := 2) rfl rfl) rfl hl.1 rfl (Nat.le_of_ble_eq_true rfl) d_RS_next_45 ⟨Nat.zero_le _, Nat.zero_le _⟩ ?_
            refine lv_istore (lv' := [(5, .int (f_Gr_greatestPriority F A x4 pc)), (0, .ref (r 0)), (1, .int pc), (2, .int x2), (3, .int x3), (4, .int x4)]) hx hb d_RS_next_48 hl (by decide) rfl (fun ls hl => ?_)
            refine lv_iload hx hb d_RS_next_50 (lv_at hl 0 rfl) ?_
            refine lv_iload_n hx hb d_RS_next_52 rfl (lv_at hl 4 rfl) ?_
            refine lv_icmp_le (tgt := 62) hx hb d_RS_next_53 (by decide) (fun c_4 => ?_) (fun c_4 => ?_)
            · have hv := hv.trans (if_pos c_4)
              refine lv_iinc (v := x4 + 1) (lv' := [(4, .int (x4 + 1)), (5, .int (f_Gr_greatestPriority F A x4 pc)), (0, .ref (r 0)), (1, .int pc), (2, .int x2), (3, .int x3)]) hx hb d_RS_next_62 hl (k := 5) rfl rfl (by decide) rfl (fun ls hl => ?_)
              refine lv_goto (tgt := 12) hx hb d_RS_next_65 (by decide) ?_
              exact ih12 x2 x3 (x4 + 1) ls (LB.s hlp12 c_2 hr2) hv (lv_sub hl [2, 3, 4, 5, 0] rfl)
            · have hv := hv.trans (if_neg c_4)
              refine lv_iload hx hb d_RS_next_56 (lv_at hl 5 rfl) ?_
              refine lv_istore_n (lv' := [(2, .int x4), (5, .int (f_Gr_greatestPriority F A x4 pc)), (0, .ref (r 0)), (1, .int pc), (3, .int x3), (4, .int x4)]) hx hb d_RS_next_58 rfl hl (by decide) rfl (fun ls hl => ?_)
              refine lv_iload hx hb d_RS_next_59 (lv_at hl 1 rfl) ?_
              refine lv_istore_n (lv' := [(3, .int (f_Gr_greatestPriority F A x4 pc)), (2, .int x4), (5, .int (f_Gr_greatestPriority F A x4 pc)), (0, .ref (r 0)), (1, .int pc), (4, .int x4)]) hx hb d_RS_next_61 rfl hl (by decide) rfl (fun ls hl => ?_)
              refine lv_iinc (v := x4 + 1) (lv' := [(4, .int (x4 + 1)), (3, .int (f_Gr_greatestPriority F A x4 pc)), (2, .int x4), (5, .int (f_Gr_greatestPriority F A x4 pc)), (0, .ref (r 0)), (1, .int pc)]) hx hb d_RS_next_62 hl (k := 5) rfl rfl (by decide) rfl (fun ls hl => ?_)
              refine lv_goto (tgt := 12) hx hb d_RS_next_65 (by decide) ?_
              exact ih12 x4 (f_Gr_greatestPriority F A x4 pc) (x4 + 1) ls (LB.s hlp12 c_2 hr2) hv (lv_sub hl [4, 5, 2, 1, 0] rfl)
    exact loop12 64 (-1) (-1) 0 ls (LB.i hr0 hr2) hv (lv_sub hl [3, 4, 2, 1, 0] rfl)
  · have hv := hv.trans (if_neg c_1)
    rw [hv] at hk
    exact absurd hk c_1
set_option maxHeartbeats 4000000 in
set_option maxRecDepth 100000 in
theorem c_RS_next_x (l : Launch) (hl9 : l.stackTraces = false) (dC : Nat → ClassId) (dI : Nat → Nat → Nat) (r : Nat → Nat) (k : Nat → ClassId) (F : Nat → Int32) (A : Nat → Nat → Int32) (sz : Nat) (pc : Int32) (hI : CI F) (hk : ¬ (f_RS_next F A pc).1 = 0) : vx_Met l y_RS_next w_RS_next ({ frames := 7, cells := 1, slots := 6, locals := 103 }) (va_Pc [.ref (r 0), .int pc] (XP (dC, dI) (wC r k F A) (tC k) sz)) (va_Qi (fun _ (_ : SC) => False) (fun (u : SC) t => aW (dC, dI) (tC k) (va_A (wC r k F A) sz) (wC r k u.1 u.2) t) (va_A (wC r k F A) sz)) (vx_X (fun u : Nat => f_RS_next F A pc = (u, 0, F, A)) (fun E u t => E = exN u ∧ aW (dC, dI) (tC k) (va_A (wC r k F A) sz) (wC r k F A) t) (va_A (wC r k F A) sz)) 1 6 (va_A (wC r k F A) sz) := by
  refine vx_ofW (cc := b_RS_next) (maxL := 6) (ret := (some .int)) (by decide) rfl ?_
  intro p e s m args below meth c s₁ B hml hEx hv0
  obtain ⟨rfl, ⟨hsz, hP, hK, hD0⟩, hXS⟩ := hv0
  have hx := B.exec
  have hb := B.bytes
  have hr := B.returns
  have hts := atoms_spec (ws := w_RS_next) B.pre
  have hW : ∀ w ∈ WALL, w.before ([.ref (r 0), .int pc] : List Value).toArray s = true := fun w h => hts w (List.mem_cons_of_mem _ h)
  have hown : s.vm.findClass R_RS = some m.cls := findClass_of_methodNamed B.named
  have hlocks := B.notSynchronized
  subst hsz
  have hD := hD0.self (sz := s.heap.size)
  generalize hAe : va_A (wC r k F A) s.heap.size = Ad at hD hXS ⊢
  have hA : ∀ q : Nat, s.heap.size ≤ q → Ad q := fun q h => by rw [← hAe]; exact Or.inr h
  have hS : va_S Ad s.heap s.heap [] := va_S.rf
  have hl := lv_entry ([.ref (r 0), .int pc]) (n := 6) (Nat.le_of_ble_eq_true rfl)
  rw [lg_entry_eq]
  generalize (lg_sl ([.ref (r 0), .int pc]) ++ List.replicate (6 - (lg_sl ([.ref (r 0), .int pc])).length) Slot.unset).toArray = ls at hl ⊢
  have hl : lv_has ls 6 [(0, .ref (r 0)), (1, .int pc)] := hl
  obtain ⟨⟨hp0, hp1⟩, ⟨hr0, hr1⟩, hg0, hg1⟩ := id hI; have hr2 : (F 2).toInt ≤ 60 := Int.le_trans hr1 (by decide)
  have hv := f_RS_next.eq_1 F A pc
  refine lv_aload_n hx hb d_RS_next_0 rfl (lv_at hl 0 rfl) ?_
  refine lv_iload_n hx hb d_RS_next_1 rfl (lv_at hl 1 rfl) ?_
  by_cases c_1 : f_RS_needPiece F A pc = 0
  · have hv := hv.trans (if_pos c_1)
    exact (hk ((congrArg Prod.fst hv).trans (by first | rfl | ((repeat' split) <;> (first | rfl | exact cd_next_L _ _ _ _ _ _ _))))).elim
  · have hv := hv.trans (if_neg c_1)
    refine gdV ⟨hx, hb, hml, hown, hW⟩ (c_RS_needPiece_x l hl9 dC dI r k F A _ pc   c_1) (cwV 1 hW (gIn k_12 k_13 k_14 k_15 k_16) rfl rfl rfl (by decide +kernel) ⟨Nat.le_of_ble_eq_true rfl, Nat.le_of_ble_eq_true rfl⟩) hK hP hXS hA (va_recv hK hP (ci := 0) (q0 := 0) rfl rfl) hS rfl hl.1 rfl (Nat.le_of_ble_eq_true rfl) d_RS_next_2 ⟨Nat.le_of_ble_eq_true rfl, Nat.le_of_ble_eq_true rfl⟩ (fun H locs q9 ce hP hS hce hcv hcl => ?_)
    exact vx_out (E := exN (f_RS_needPiece F A pc)) (fun x hx => (hEx x hx).elim) hlocks hce hcv hcl (fun t ht ha => ⟨f_RS_needPiece F A pc, hv, ⟨rfl, by rw [ht]; exact hP, va_K.moved ha hK, hD⟩, hS.F ht⟩) hS.2.2 (Nat.le_of_ble_eq_true rfl) (Nat.le_of_ble_eq_true rfl)
def f_Gr_takeAllFor_L4 (F : Nat → Int32) (A : Nat → Nat → Int32) (pc : Int32) : Nat → (Nat → Nat → Int32) → Int32 → Int32 → Int32 × SC
  | 0, _, _, _ => (0, F, A)
  | n4 + 1, B, x2, x3 => if F 3 < x3 then (x2, F, B) else (if f_Gr_isLiveFor F B x3 pc = 0 then (f_Gr_takeAllFor_L4 F A pc n4 B x2 (x3 + 1)) else (f_Gr_takeAllFor_L4 F A pc n4 (uA B 13 (upd (B 13) x3.toNatClampNeg 3)) (x2 + 1) (x3 + 1)))
def f_Gr_takeAllFor (F : Nat → Int32) (A : Nat → Nat → Int32) (pc : Int32) : Int32 × SC := f_Gr_takeAllFor_L4 F A pc 64 A 0 1
set_option maxHeartbeats 4000000 in
set_option maxRecDepth 100000 in
theorem c_Gr_takeAllFor (l : Launch) (dC : Nat → ClassId) (dI : Nat → Nat → Nat) (r : Nat → Nat) (k : Nat → ClassId) (F : Nat → Int32) (A : Nat → Nat → Int32) (sz : Nat) (pc : Int32) (hI : CI F) : Met l y_Gr_takeAllFor w_Gr_takeAllFor ({ frames := 2, cells := 0, slots := 0, locals := 43 }) (va_Pc [.ref (r 2), .int pc] (SP (dC, dI) (wC r k F A) (tC k) sz)) (va_Qi (fun v (u : SC) => (v, u) = f_Gr_takeAllFor F A pc) (fun (u : SC) t => aW (dC, dI) (tC k) (va_A (wC r k F A) sz) (wC r k u.1 u.2) t) (va_A (wC r k F A) sz)) 0 0 (va_A (wC r k F A) sz) := by
  refine Met.ofW (cc := b_Gr_takeAllFor) (maxL := 4) (ret := (some .int)) (by decide) rfl ?_
  intro p e s m args below meth c s₁ B hml hv0
  obtain ⟨rfl, hsz, hP, hK, hD0⟩ := hv0
  have hx := B.exec
  have hb := B.bytes
  have hr := B.returns
  have hts := atoms_spec (ws := w_Gr_takeAllFor) B.pre
  have hW : ∀ w ∈ WALL, w.before ([.ref (r 2), .int pc] : List Value).toArray s = true := fun w h => hts w (List.mem_cons_of_mem _ h)
  have hown : s.vm.findClass R_Gr = some m.cls := findClass_of_methodNamed B.named
  have hlocks := B.notSynchronized
  subst hsz
  have hD := hD0.self (sz := s.heap.size)
  generalize hAe : va_A (wC r k F A) s.heap.size = Ad at hD ⊢
  have hA : ∀ q : Nat, s.heap.size ≤ q → Ad q := fun q h => by rw [← hAe]; exact Or.inr h
  have hS : va_S Ad s.heap s.heap [] := va_S.rf
  have hl := lv_entry ([.ref (r 2), .int pc]) (n := 4) (Nat.le_of_ble_eq_true rfl)
  rw [lg_entry_eq]
  generalize (lg_sl ([.ref (r 2), .int pc]) ++ List.replicate (4 - (lg_sl ([.ref (r 2), .int pc])).length) Slot.unset).toArray = ls at hl ⊢
  have hl : lv_has ls 4 [(0, .ref (r 2)), (1, .int pc)] := hl
  obtain ⟨⟨hp0, hp1⟩, ⟨hr0, hr1⟩, hg0, hg1⟩ := id hI; have hr2 : (F 2).toInt ≤ 60 := Int.le_trans hr1 (by decide)
  have hv := f_Gr_takeAllFor.eq_1 F A pc
  refine lv_iconst (v := 0) hx hb d_Gr_takeAllFor_0 (by decide) ?_
  refine lv_istore_n (lv' := [(2, .int 0), (0, .ref (r 2)), (1, .int pc)]) hx hb d_Gr_takeAllFor_1 rfl hl (by decide) rfl (fun ls hl => ?_)
  refine lv_iconst (v := 1) hx hb d_Gr_takeAllFor_2 (by decide) ?_
  refine lv_istore_n (lv' := [(3, .int 1), (2, .int 0), (0, .ref (r 2)), (1, .int pc)]) hx hb d_Gr_takeAllFor_3 rfl hl (by decide) rfl (fun ls hl => ?_)
  have loop4 : ∀ (n4 : Nat) (x2 : Int32) (x3 : Int32) (B : Nat → Nat → Int32) (H : Heap) (locs : List Loc) (ls : Array Slot), LA (F 3) x3 n4 → f_Gr_takeAllFor F A pc = f_Gr_takeAllFor_L4 F A pc n4 B x2 x3 → va_P (dC, dI) classes (wC r k F B) H → va_D Ad (wC r k F B) → va_S Ad s.heap H locs → lv_has ls 4 [(0, .ref (r 2)), (1, .int pc), (2, .int x2), (3, .int x3)] → W p l e (headSpec w_Gr_takeAllFor ({ frames := 2, cells := 0, slots := 0, locals := 43 })).room s m ([.ref (r 2), .int pc] : List Value).toArray below meth c H locs 0 0 (MQ below (va_Qi (fun v (u : SC) => (v, u) = f_Gr_takeAllFor F A pc) (fun (u : SC) t => aW (dC, dI) (tC k) Ad (wC r k u.1 u.2) t) Ad) ([.ref (r 2), .int pc] : List Value).toArray s 0 0 Ad) (F0 m 4 ls []) := by
    intro n4
    induction n4 with
    | zero => intro x2 x3 B H locs ls hlp; exact (hlp.z).elim
    | succ n4 ih4 =>
      intro x2 x3 B H locs ls hlp4 hv hP hD hS hl
      rw [f_Gr_takeAllFor_L4] at hv
      refine lv_iload_n hx hb d_Gr_takeAllFor_4 rfl (lv_at hl 3 rfl) ?_
      refine lv_aload_n hx hb d_Gr_takeAllFor_5 rfl (lv_at hl 0 rfl) ?_
      refine va_get (D := (dC, dI)) (ci := 2) (v := .int (F 3)) (C := R_Gr) (T := F_Gr) (N := 7) hx hb hW i_Gr hown hK hP 2 rfl rfl 0 (by decide) (hW _ k_74) (fun _ h9 => h9) rfl d_Gr_takeAllFor_6 ?_
      refine lv_icmp_gt (tgt := 37) hx hb d_Gr_takeAllFor_9 (by decide) (fun c_1 => ?_) (fun c_1 => ?_)
      · have hv := hv.trans (if_pos c_1)
        refine lv_iload_n hx hb d_Gr_takeAllFor_37 rfl (lv_at hl 2 rfl) ?_
        exact W.iret (v := x2) hx hb hr (fun t ht hW9 => ⟨⟨x2, (F, B), rfl, hv.symm, by rw [ht]; exact hP, va_K.moved hW9.alike hK, hD⟩, hS.F ht⟩) hS.2.2 d_Gr_takeAllFor_38
      · have hv := hv.trans (if_neg c_1)
        refine lv_aload_n hx hb d_Gr_takeAllFor_12 rfl (lv_at hl 0 rfl) ?_
        refine lv_iload_n hx hb d_Gr_takeAllFor_13 rfl (lv_at hl 3 rfl) ?_
        refine lv_iload_n hx hb d_Gr_takeAllFor_14 rfl (lv_at hl 1 rfl) ?_
        refine rdV ⟨hx, hb, hml, hown, hW⟩ (c_Gr_isLiveFor l dC dI r k F B x3 pc hI (LA.ix hlp4 c_1 hg1)) (cwV 2 hW (gIn k_56 k_57 k_58 k_52 k_59) rfl rfl rfl (by decide +kernel) ⟨Nat.le_of_ble_eq_true rfl, Nat.le_of_ble_eq_true rfl⟩) hK hP (va_recv hK hP (ci := 2) (q0 := 2) rfl rfl) rfl hl.1 rfl (Nat.le_of_ble_eq_true rfl) d_Gr_takeAllFor_15 ⟨Nat.zero_le _, Nat.zero_le _⟩ ?_
        refine lv_if_eq (tgt := 31) hx hb d_Gr_takeAllFor_18 (by decide) (fun c_2 => ?_) (fun c_2 => ?_)
        · have hv := hv.trans (if_pos c_2)
          refine lv_iinc (v := x3 + 1) (lv' := [(3, .int (x3 + 1)), (0, .ref (r 2)), (1, .int pc), (2, .int x2)]) hx hb d_Gr_takeAllFor_31 hl (k := 3) rfl rfl (by decide) rfl (fun ls hl => ?_)
          refine lv_goto (tgt := 4) hx hb d_Gr_takeAllFor_34 (by decide) ?_
          exact ih4 x2 (x3 + 1) B H locs ls (LA.s hlp4 c_1 hg1) hv hP hD hS (lv_sub hl [1, 2, 3, 0] rfl)
        · have hv := hv.trans (if_neg c_2)
          refine lv_aload_n hx hb d_Gr_takeAllFor_21 rfl (lv_at hl 0 rfl) ?_
          refine va_get (D := (dC, dI)) (ci := 2) (v := .ref (r 16)) (C := R_Gr) (T := F_Gr) (N := 7) hx hb hW i_Gr hown hK hP 2 rfl rfl 6 (by decide) (hW _ k_48) (fun _ h9 => h9) rfl d_Gr_takeAllFor_22 ?_
          refine lv_iload_n hx hb d_Gr_takeAllFor_25 rfl (lv_at hl 3 rfl) ?_
          refine lv_iconst (v := 3) hx hb d_Gr_takeAllFor_26 (by decide) ?_
          refine va_iast hx hb hK hP hD hS 16 13 rfl rfl (LA.ix hlp4 c_1 hg1) d_Gr_takeAllFor_27 (fun H locs hP hD hS => ?_)
          have hP := pCA_13 hP
          have hD := dCA_13 hD
          generalize hAg1 : (uA B 13 (upd (B 13) x3.toNatClampNeg 3)) = A1_ at hP hD hv
          refine lv_iinc (v := x2 + 1) (lv' := [(2, .int (x2 + 1)), (0, .ref (r 2)), (1, .int pc), (3, .int x3)]) hx hb d_Gr_takeAllFor_28 hl (k := 2) rfl rfl (by decide) rfl (fun ls hl => ?_)
          refine lv_iinc (v := x3 + 1) (lv' := [(3, .int (x3 + 1)), (2, .int (x2 + 1)), (0, .ref (r 2)), (1, .int pc)]) hx hb d_Gr_takeAllFor_31 hl (k := 3) rfl rfl (by decide) rfl (fun ls hl => ?_)
          refine lv_goto (tgt := 4) hx hb d_Gr_takeAllFor_34 (by decide) ?_
          exact ih4 (x2 + 1) (x3 + 1) A1_ H locs ls (LA.s hlp4 c_1 hg1) hv hP hD hS (lv_sub hl [2, 3, 1, 0] rfl)
  exact loop4 64 0 1 A _ _ ls (LA.i hg0 hg1) hv hP hD hS (lv_sub hl [2, 3, 1, 0] rfl)
theorem kf_Gr_takeAllFor_L (F : Nat → Int32) (A : Nat → Nat → Int32) (pc : Int32) : ∀ (n : Nat) (B : Nat → Nat → Int32) (i0 i1 : Int32), (f_Gr_takeAllFor_L4 F A pc n B i0 i1).2.1 = F := by
  intro n
  induction n with
  | zero => intros; rfl
  | succ n ih =>
    intro B i0 i1
    rw [f_Gr_takeAllFor_L4]
    repeat' split
    all_goals first | rfl | exact ih _ _ _
theorem kf_Gr_takeAllFor (F : Nat → Int32) (A : Nat → Nat → Int32) (pc : Int32) : (f_Gr_takeAllFor F A pc).2.1 = F := kf_Gr_takeAllFor_L F A pc 64 A 0 1
def f_RS_zone (F : Nat → Int32) (A : Nat → Nat → Int32) (pc on : Int32) : Nat × Int32 × SC := if f_RS_needPiece F A pc = 0 then (if A 1 pc.toNatClampNeg = on then (3, 0, F, A) else (if f_Rb_standingOn F A pc = (-1) then (if on = 0 then (0, 0, F, (uA A 1 (upd (A 1) pc.toNatClampNeg (vp_nar .boolean on)))) else (0, (f_Gr_takeAllFor F (uA A 1 (upd (A 1) pc.toNatClampNeg (vp_nar .boolean on))) pc).1, ((f_Gr_takeAllFor F (uA A 1 (upd (A 1) pc.toNatClampNeg (vp_nar .boolean on))) pc).2.1), ((f_Gr_takeAllFor F (uA A 1 (upd (A 1) pc.toNatClampNeg (vp_nar .boolean on))) pc).2.2))) else (3, 0, F, A))) else (f_RS_needPiece F A pc, 0, F, A)
set_option maxHeartbeats 4000000 in
set_option maxRecDepth 100000 in
theorem c_RS_zone_k (l : Launch) (dC : Nat → ClassId) (dI : Nat → Nat → Nat) (r : Nat → Nat) (k : Nat → ClassId) (F : Nat → Int32) (A : Nat → Nat → Int32) (sz : Nat) (pc on : Int32) (hI : CI F) (hk : (f_RS_zone F A pc on).1 = 0) : Met l y_RS_zone w_RS_zone ({ frames := 3, cells := 0, slots := 0, locals := 66 }) (va_Pc [.ref (r 0), .int pc, .int on] (SP (dC, dI) (wC r k F A) (tC k) sz)) (va_Qi (fun v (u : SC) => (0, v, u) = f_RS_zone F A pc on) (fun (u : SC) t => aW (dC, dI) (tC k) (va_A (wC r k F A) sz) (wC r k u.1 u.2) t) (va_A (wC r k F A) sz)) 0 0 (va_A (wC r k F A) sz) := by
  refine Met.ofW (cc := b_RS_zone) (maxL := 3) (ret := (some .int)) (by decide) rfl ?_
  intro p e s m args below meth c s₁ B hml hv0
  obtain ⟨rfl, hsz, hP, hK, hD0⟩ := hv0
  have hx := B.exec
  have hb := B.bytes
  have hr := B.returns
  have hts := atoms_spec (ws := w_RS_zone) B.pre
  have hW : ∀ w ∈ WALL, w.before ([.ref (r 0), .int pc, .int on] : List Value).toArray s = true := fun w h => hts w (List.mem_cons_of_mem _ h)
  have hown : s.vm.findClass R_RS = some m.cls := findClass_of_methodNamed B.named
  have hlocks := B.notSynchronized
  subst hsz
  have hD := hD0.self (sz := s.heap.size)
  generalize hAe : va_A (wC r k F A) s.heap.size = Ad at hD ⊢
  have hA : ∀ q : Nat, s.heap.size ≤ q → Ad q := fun q h => by rw [← hAe]; exact Or.inr h
  have hS : va_S Ad s.heap s.heap [] := va_S.rf
  have hl := lv_entry ([.ref (r 0), .int pc, .int on]) (n := 3) (Nat.le_of_ble_eq_true rfl)
  rw [lg_entry_eq]
  generalize (lg_sl ([.ref (r 0), .int pc, .int on]) ++ List.replicate (3 - (lg_sl ([.ref (r 0), .int pc, .int on])).length) Slot.unset).toArray = ls at hl ⊢
  have hl : lv_has ls 3 [(0, .ref (r 0)), (1, .int pc), (2, .int on)] := hl
  obtain ⟨⟨hp0, hp1⟩, ⟨hr0, hr1⟩, hg0, hg1⟩ := id hI; have hr2 : (F 2).toInt ≤ 60 := Int.le_trans hr1 (by decide)
  have hv := f_RS_zone.eq_1 F A pc on
  refine lv_aload_n hx hb d_RS_zone_0 rfl (lv_at hl 0 rfl) ?_
  refine lv_iload_n hx hb d_RS_zone_1 rfl (lv_at hl 1 rfl) ?_
  by_cases c_1 : f_RS_needPiece F A pc = 0
  · have hv := hv.trans (if_pos c_1)
    refine rdVv ⟨hx, hb, hml, hown, hW⟩ (c_RS_needPiece_k l dC dI r k F A pc   c_1) (cwV 1 hW (gIn k_12 k_13 k_14 k_15 k_16) rfl rfl rfl (by decide +kernel) ⟨Nat.le_of_ble_eq_true rfl, Nat.le_of_ble_eq_true rfl⟩) hK hP (va_recv hK hP (ci := 0) (q0 := 0) rfl rfl) rfl hl.1 rfl (Nat.le_of_ble_eq_true rfl) d_RS_zone_2 ⟨Nat.zero_le _, Nat.zero_le _⟩ ?_
    refine lv_aload_n hx hb d_RS_zone_5 rfl (lv_at hl 0 rfl) ?_
    refine va_get (D := (dC, dI)) (ci := 0) (v := .ref (r 4)) (C := R_RS) (T := F_RS) (N := 6) hx hb hW i_RS hown hK hP 0 rfl rfl 3 (by decide) (hW _ k_29) (fun _ h9 => h9) rfl d_RS_zone_6 ?_
    refine lv_iload_n hx hb d_RS_zone_9 rfl (lv_at hl 1 rfl) ?_
    refine va_zald hx hb hK hP 4 1 rfl rfl (ixP hI c_1) d_RS_zone_10 ?_
    refine lv_iload_n hx hb d_RS_zone_11 rfl (lv_at hl 2 rfl) ?_
    refine lv_icmp_eq (tgt := 27) hx hb d_RS_zone_12 (by decide) (fun c_2 => ?_) (fun c_2 => ?_)
    · have hv := hv.trans (if_pos c_2)
      rw [hv] at hk
      exact absurd (show (3 : Nat) = 0 from hk) (by decide)
    · have hv := hv.trans (if_neg c_2)
      refine lv_aload_n hx hb d_RS_zone_15 rfl (lv_at hl 0 rfl) ?_
      refine va_get (D := (dC, dI)) (ci := 0) (v := .ref (r 1)) (C := R_RS) (T := F_RS) (N := 6) hx hb hW i_RS hown hK hP 0 rfl rfl 4 (by decide) (hW _ k_3) (fun _ h9 => h9) rfl d_RS_zone_16 ?_
      refine lv_iload_n hx hb d_RS_zone_19 rfl (lv_at hl 1 rfl) ?_
      refine rdV ⟨hx, hb, hml, hown, hW⟩ (c_Rb_standingOn l dC dI r k F A pc hI ) (cwV 1 hW (gIn k_30 k_31 k_32 k_33 k_34) rfl rfl rfl (by decide +kernel) ⟨Nat.le_of_ble_eq_true rfl, Nat.le_of_ble_eq_true rfl⟩) hK hP (va_recv hK hP (ci := 1) (q0 := 1) rfl rfl) rfl hl.1 rfl (Nat.le_of_ble_eq_true rfl) d_RS_zone_20 ⟨Nat.zero_le _, Nat.zero_le _⟩ ?_
      refine lv_iconst (v := (-1)) hx hb d_RS_zone_23 (by decide) ?_
      refine lv_icmp_eq (tgt := 37) hx hb d_RS_zone_24 (by decide) (fun c_3 => ?_) (fun c_3 => ?_)
      · have hv := hv.trans (if_pos c_3)
        refine lv_aload_n hx hb d_RS_zone_37 rfl (lv_at hl 0 rfl) ?_
        refine va_get (D := (dC, dI)) (ci := 0) (v := .ref (r 4)) (C := R_RS) (T := F_RS) (N := 6) hx hb hW i_RS hown hK hP 0 rfl rfl 3 (by decide) (hW _ k_29) (fun _ h9 => h9) rfl d_RS_zone_38 ?_
        refine lv_iload_n hx hb d_RS_zone_41 rfl (lv_at hl 1 rfl) ?_
        refine lv_iload_n hx hb d_RS_zone_42 rfl (lv_at hl 2 rfl) ?_
        refine va_zast hx hb hK hP hD hS 4 1 rfl rfl (ixP hI c_1) d_RS_zone_43 (fun H locs hP hD hS => ?_)
        have hP := pCA_1 hP
        have hD := dCA_1 hD
        generalize hAg1 : (uA A 1 (upd (A 1) pc.toNatClampNeg (vp_nar .boolean on))) = A1_ at hP hD hv
        refine lv_iload_n hx hb d_RS_zone_44 rfl (lv_at hl 2 rfl) ?_
        refine lv_if_eq (tgt := 59) hx hb d_RS_zone_45 (by decide) (fun c_4 => ?_) (fun c_4 => ?_)
        · have hv := hv.trans (if_pos c_4)
          refine lv_iconst (v := 0) hx hb d_RS_zone_59 (by decide) ?_
          exact W.iret (v := 0) hx hb hr (fun t ht hW9 => ⟨⟨0, (F, A1_), rfl, hv.symm, by rw [ht]; exact hP, va_K.moved hW9.alike hK, hD⟩, hS.F ht⟩) hS.2.2 d_RS_zone_60
        · have hv := hv.trans (if_neg c_4)
          refine lv_aload_n hx hb d_RS_zone_48 rfl (lv_at hl 0 rfl) ?_
          refine va_get (D := (dC, dI)) (ci := 0) (v := .ref (r 2)) (C := R_RS) (T := F_RS) (N := 6) hx hb hW i_RS hown hK hP 0 rfl rfl 5 (by decide) (hW _ k_5) (fun _ h9 => h9) rfl d_RS_zone_49 ?_
          refine lv_iload_n hx hb d_RS_zone_52 rfl (lv_at hl 1 rfl) ?_
          refine stVi (wf := fun u : SC => wC r k u.1 u.2) ⟨hx, hb, hml, hown, hW⟩ (c_Gr_takeAllFor l dC dI r k F A1_ _ pc hI ) (cwV 1 hW (gIn k_157 k_158 k_159 k_52 k_160) rfl rfl rfl (by decide +kernel) ⟨Nat.le_of_ble_eq_true rfl, Nat.le_of_ble_eq_true rfl⟩) hK hP hD hS hA (va_recv hK hP (ci := 2) (q0 := 2) rfl rfl) rfl hl.1 rfl (Nat.le_of_ble_eq_true rfl) d_RS_zone_53 ⟨Nat.zero_le _, Nat.zero_le _⟩ (fun H locs hP hD hS => ?_)
          have hP : va_P (dC, dI) classes (wC r k ((f_Gr_takeAllFor F A1_ pc).2.1) ((f_Gr_takeAllFor F A1_ pc).2.2)) H := hP
          have hD : va_D Ad (wC r k ((f_Gr_takeAllFor F A1_ pc).2.1) ((f_Gr_takeAllFor F A1_ pc).2.2)) := hD
          refine lv_goto (tgt := 60) hx hb d_RS_zone_56 (by decide) ?_
          exact W.iret (v := (f_Gr_takeAllFor F A1_ pc).1) hx hb hr (fun t ht hW9 => ⟨⟨(f_Gr_takeAllFor F A1_ pc).1, (((f_Gr_takeAllFor F A1_ pc).2.1), ((f_Gr_takeAllFor F A1_ pc).2.2)), rfl, hv.symm, by rw [ht]; exact hP, va_K.moved hW9.alike hK, hD⟩, hS.F ht⟩) hS.2.2 d_RS_zone_60
      · have hv := hv.trans (if_neg c_3)
        rw [hv] at hk
        exact absurd (show (3 : Nat) = 0 from hk) (by decide)
  · have hv := hv.trans (if_neg c_1)
    rw [hv] at hk
    exact absurd hk c_1
set_option maxHeartbeats 4000000 in
set_option maxRecDepth 100000 in
theorem c_RS_zone_x (l : Launch) (hl9 : l.stackTraces = false) (dC : Nat → ClassId) (dI : Nat → Nat → Nat) (r : Nat → Nat) (k : Nat → ClassId) (F : Nat → Int32) (A : Nat → Nat → Int32) (sz : Nat) (pc on : Int32) (hI : CI F) (hk : ¬ (f_RS_zone F A pc on).1 = 0) : vx_Met l y_RS_zone w_RS_zone ({ frames := 7, cells := 1, slots := 6, locals := 103 }) (va_Pc [.ref (r 0), .int pc, .int on] (XP (dC, dI) (wC r k F A) (tC k) sz)) (va_Qi (fun _ (_ : SC) => False) (fun (u : SC) t => aW (dC, dI) (tC k) (va_A (wC r k F A) sz) (wC r k u.1 u.2) t) (va_A (wC r k F A) sz)) (vx_X (fun u : Nat => f_RS_zone F A pc on = (u, 0, F, A)) (fun E u t => E = exN u ∧ aW (dC, dI) (tC k) (va_A (wC r k F A) sz) (wC r k F A) t) (va_A (wC r k F A) sz)) 1 6 (va_A (wC r k F A) sz) := by
  refine vx_ofW (cc := b_RS_zone) (maxL := 3) (ret := (some .int)) (by decide) rfl ?_
  intro p e s m args below meth c s₁ B hml hEx hv0
  obtain ⟨rfl, ⟨hsz, hP, hK, hD0⟩, hXS⟩ := hv0
  have hx := B.exec
  have hb := B.bytes
  have hr := B.returns
  have hts := atoms_spec (ws := w_RS_zone) B.pre
  have hW : ∀ w ∈ WALL, w.before ([.ref (r 0), .int pc, .int on] : List Value).toArray s = true := fun w h => hts w (List.mem_cons_of_mem _ h)
  have hown : s.vm.findClass R_RS = some m.cls := findClass_of_methodNamed B.named
  have hlocks := B.notSynchronized
  subst hsz
  have hD := hD0.self (sz := s.heap.size)
  generalize hAe : va_A (wC r k F A) s.heap.size = Ad at hD hXS ⊢
  have hA : ∀ q : Nat, s.heap.size ≤ q → Ad q := fun q h => by rw [← hAe]; exact Or.inr h
  have hS : va_S Ad s.heap s.heap [] := va_S.rf
  have hl := lv_entry ([.ref (r 0), .int pc, .int on]) (n := 3) (Nat.le_of_ble_eq_true rfl)
  rw [lg_entry_eq]
  generalize (lg_sl ([.ref (r 0), .int pc, .int on]) ++ List.replicate (3 - (lg_sl ([.ref (r 0), .int pc, .int on])).length) Slot.unset).toArray = ls at hl ⊢
  have hl : lv_has ls 3 [(0, .ref (r 0)), (1, .int pc), (2, .int on)] := hl
  obtain ⟨⟨hp0, hp1⟩, ⟨hr0, hr1⟩, hg0, hg1⟩ := id hI; have hr2 : (F 2).toInt ≤ 60 := Int.le_trans hr1 (by decide)
  have hv := f_RS_zone.eq_1 F A pc on
  refine lv_aload_n hx hb d_RS_zone_0 rfl (lv_at hl 0 rfl) ?_
  refine lv_iload_n hx hb d_RS_zone_1 rfl (lv_at hl 1 rfl) ?_
  by_cases c_1 : f_RS_needPiece F A pc = 0
  · have hv := hv.trans (if_pos c_1)
    refine rdVv ⟨hx, hb, hml, hown, hW⟩ (c_RS_needPiece_k l dC dI r k F A pc   c_1) (cwV 1 hW (gIn k_12 k_13 k_14 k_15 k_16) rfl rfl rfl (by decide +kernel) ⟨Nat.le_of_ble_eq_true rfl, Nat.le_of_ble_eq_true rfl⟩) hK hP (va_recv hK hP (ci := 0) (q0 := 0) rfl rfl) rfl hl.1 rfl (Nat.le_of_ble_eq_true rfl) d_RS_zone_2 ⟨Nat.zero_le _, Nat.zero_le _⟩ ?_
    refine lv_aload_n hx hb d_RS_zone_5 rfl (lv_at hl 0 rfl) ?_
    refine va_get (D := (dC, dI)) (ci := 0) (v := .ref (r 4)) (C := R_RS) (T := F_RS) (N := 6) hx hb hW i_RS hown hK hP 0 rfl rfl 3 (by decide) (hW _ k_29) (fun _ h9 => h9) rfl d_RS_zone_6 ?_
    refine lv_iload_n hx hb d_RS_zone_9 rfl (lv_at hl 1 rfl) ?_
    refine va_zald hx hb hK hP 4 1 rfl rfl (ixP hI c_1) d_RS_zone_10 ?_
    refine lv_iload_n hx hb d_RS_zone_11 rfl (lv_at hl 2 rfl) ?_
    refine lv_icmp_eq (tgt := 27) hx hb d_RS_zone_12 (by decide) (fun c_2 => ?_) (fun c_2 => ?_)
    · have hv := hv.trans (if_pos c_2)
      exact thr hx hb hl9 hown hW hXS tw_15 hS (hl.1.trans hml.symm) d_RS_zone_27 d_RS_zone_30 d_RS_zone_31 d_RS_zone_33 d_RS_zone_36 hEx (Nat.le_of_ble_eq_true rfl) (Nat.le_of_ble_eq_true rfl) (Nat.le_of_ble_eq_true rfl) (Nat.le_of_ble_eq_true rfl) hlocks (fun t ha hsz hk9 => ⟨3, hv, ⟨rfl, hP.kept (fun k9 q hq => hk9 q.1 (hP k9 q hq).lt), va_K.moved ha hK, hD⟩, Nat.le_trans hS.1 hsz, fun q h1 h2 => (hk9 q (Nat.lt_of_lt_of_le h1 hS.1)).trans (hS.2.1 q h1 h2)⟩) hS.2.2 (Nat.le_of_ble_eq_true rfl) (Nat.le_of_ble_eq_true rfl)
    · have hv := hv.trans (if_neg c_2)
      refine lv_aload_n hx hb d_RS_zone_15 rfl (lv_at hl 0 rfl) ?_
      refine va_get (D := (dC, dI)) (ci := 0) (v := .ref (r 1)) (C := R_RS) (T := F_RS) (N := 6) hx hb hW i_RS hown hK hP 0 rfl rfl 4 (by decide) (hW _ k_3) (fun _ h9 => h9) rfl d_RS_zone_16 ?_
      refine lv_iload_n hx hb d_RS_zone_19 rfl (lv_at hl 1 rfl) ?_
      refine rdV ⟨hx, hb, hml, hown, hW⟩ (c_Rb_standingOn l dC dI r k F A pc hI ) (cwV 1 hW (gIn k_30 k_31 k_32 k_33 k_34) rfl rfl rfl (by decide +kernel) ⟨Nat.le_of_ble_eq_true rfl, Nat.le_of_ble_eq_true rfl⟩) hK hP (va_recv hK hP (ci := 1) (q0 := 1) rfl rfl) rfl hl.1 rfl (Nat.le_of_ble_eq_true rfl) d_RS_zone_20 ⟨Nat.zero_le _, Nat.zero_le _⟩ ?_
      refine lv_iconst (v := (-1)) hx hb d_RS_zone_23 (by decide) ?_
      refine lv_icmp_eq (tgt := 37) hx hb d_RS_zone_24 (by decide) (fun c_3 => ?_) (fun c_3 => ?_)
      · have hv := hv.trans (if_pos c_3)
        exact (hk ((congrArg Prod.fst hv).trans (by first | rfl | ((repeat' split) <;> (first | rfl | exact cd_next_L _ _ _ _ _ _ _))))).elim
      · have hv := hv.trans (if_neg c_3)
        exact thr hx hb hl9 hown hW hXS tw_15 hS (hl.1.trans hml.symm) d_RS_zone_27 d_RS_zone_30 d_RS_zone_31 d_RS_zone_33 d_RS_zone_36 hEx (Nat.le_of_ble_eq_true rfl) (Nat.le_of_ble_eq_true rfl) (Nat.le_of_ble_eq_true rfl) (Nat.le_of_ble_eq_true rfl) hlocks (fun t ha hsz hk9 => ⟨3, hv, ⟨rfl, hP.kept (fun k9 q hq => hk9 q.1 (hP k9 q hq).lt), va_K.moved ha hK, hD⟩, Nat.le_trans hS.1 hsz, fun q h1 h2 => (hk9 q (Nat.lt_of_lt_of_le h1 hS.1)).trans (hS.2.1 q h1 h2)⟩) hS.2.2 (Nat.le_of_ble_eq_true rfl) (Nat.le_of_ble_eq_true rfl)
  · have hv := hv.trans (if_neg c_1)
    refine gdV ⟨hx, hb, hml, hown, hW⟩ (c_RS_needPiece_x l hl9 dC dI r k F A _ pc   c_1) (cwV 1 hW (gIn k_12 k_13 k_14 k_15 k_16) rfl rfl rfl (by decide +kernel) ⟨Nat.le_of_ble_eq_true rfl, Nat.le_of_ble_eq_true rfl⟩) hK hP hXS hA (va_recv hK hP (ci := 0) (q0 := 0) rfl rfl) hS rfl hl.1 rfl (Nat.le_of_ble_eq_true rfl) d_RS_zone_2 ⟨Nat.le_of_ble_eq_true rfl, Nat.le_of_ble_eq_true rfl⟩ (fun H locs q9 ce hP hS hce hcv hcl => ?_)
    exact vx_out (E := exN (f_RS_needPiece F A pc)) (fun x hx => (hEx x hx).elim) hlocks hce hcv hcl (fun t ht ha => ⟨f_RS_needPiece F A pc, hv, ⟨rfl, by rw [ht]; exact hP, va_K.moved ha hK, hD⟩, hS.F ht⟩) hS.2.2 (Nat.le_of_ble_eq_true rfl) (Nat.le_of_ble_eq_true rfl)
