def f_Mo_isTaken (F : Nat → Int32) (A : Nat → Nat → Int32) (rb pc : Int32) : Int32 := if f_Mo_standing F A pc = (-1) then 0 else (if f_Mo_standing F A pc = rb then 0 else 1)
set_option maxHeartbeats 4000000 in
set_option maxRecDepth 100000 in
theorem c_Mo_isTaken (l : Launch) (dC : Nat → ClassId) (dI : Nat → Nat → Nat) (r : Nat → Nat) (k : Nat → ClassId) (F : Nat → Int32) (A : Nat → Nat → Int32) (rb pc : Int32) (hI : SI F) : Met l y_Mo_isTaken w_Mo_isTaken ({ frames := 1, cells := 0, slots := 0, locals := 22 }) (va_Pc [.ref (r 0), .int rb, .int pc] (RO (dC, dI) (wM r k F A) (tM k))) (vp_Si (fun v => v = f_Mo_isTaken F A rb pc)) 0 0 (fun _ => False) := by
  refine Met.ofW (cc := b_Mo_isTaken) (maxL := 3) (ret := (some .boolean)) (by decide) rfl ?_
  intro p e s m args below meth c s₁ B hml hv0
  obtain ⟨rfl, hP, hK⟩ := hv0
  have hx := B.exec
  have hb := B.bytes
  have hr := B.returns
  have hts := atoms_spec (ws := w_Mo_isTaken) B.pre
  have hW : ∀ w ∈ WALL, w.before ([.ref (r 0), .int rb, .int pc] : List Value).toArray s = true := fun w h => hts w (List.mem_cons_of_mem _ h)
  have hown : s.vm.findClass R_Mo = some m.cls := findClass_of_methodNamed B.named
  have hlocks := B.notSynchronized
  have hl := lv_entry ([.ref (r 0), .int rb, .int pc]) (n := 3) (Nat.le_of_ble_eq_true rfl)
  rw [lg_entry_eq]
  generalize (lg_sl ([.ref (r 0), .int rb, .int pc]) ++ List.replicate (3 - (lg_sl ([.ref (r 0), .int rb, .int pc])).length) Slot.unset).toArray = ls at hl ⊢
  have hl : lv_has ls 3 [(0, .ref (r 0)), (1, .int rb), (2, .int pc)] := hl
  obtain ⟨⟨hp0, hp1⟩, ⟨hr0, hr1⟩, hg0, hg1⟩ := id hI; have hr2 : (F 3).toInt ≤ 60 := Int.le_trans hr1 (by decide); have hp2 : (F 2).toInt ≤ 60 := Int.le_trans hp1 (by decide)
  have hv := f_Mo_isTaken.eq_1 F A rb pc
  refine lv_aload_n hx hb d_Mo_isTaken_0 rfl (lv_at hl 0 rfl) ?_
  refine lv_iload_n hx hb d_Mo_isTaken_1 rfl (lv_at hl 2 rfl) ?_
  refine rdV ⟨hx, hb, hml, hown, hW⟩ (c_Mo_standing l dC dI r k F A pc hI ) (cwV 1 hW (gIn k_204 k_205 k_206 k_193 k_207) rfl rfl rfl (by decide +kernel) ⟨Nat.le_of_ble_eq_true rfl, Nat.le_of_ble_eq_true rfl⟩) hK hP (va_recv hK hP (ci := 3) (q0 := 0) rfl rfl) rfl hl.1 rfl (Nat.le_of_ble_eq_true rfl) d_Mo_isTaken_2 ⟨Nat.zero_le _, Nat.zero_le _⟩ ?_
  refine lv_iconst (v := (-1)) hx hb d_Mo_isTaken_5 (by decide) ?_
  refine lv_icmp_eq (tgt := 22) hx hb d_Mo_isTaken_6 (by decide) (fun c_1 => ?_) (fun c_1 => ?_)
  · have hv := hv.trans (if_pos c_1)
    refine lv_iconst (v := 0) hx hb d_Mo_isTaken_22 (by decide) ?_
    exact W.zret (v := 0) (ty := .boolean) hx hb hr rfl (fun t ht hW9 => ⟨0, rfl, hv.symm, ht⟩) (fun q hq => nomatch hq) d_Mo_isTaken_23
  · have hv := hv.trans (if_neg c_1)
    refine lv_aload_n hx hb d_Mo_isTaken_9 rfl (lv_at hl 0 rfl) ?_
    refine lv_iload_n hx hb d_Mo_isTaken_10 rfl (lv_at hl 2 rfl) ?_
    refine rdV ⟨hx, hb, hml, hown, hW⟩ (c_Mo_standing l dC dI r k F A pc hI ) (cwV 1 hW (gIn k_204 k_205 k_206 k_193 k_207) rfl rfl rfl (by decide +kernel) ⟨Nat.le_of_ble_eq_true rfl, Nat.le_of_ble_eq_true rfl⟩) hK hP (va_recv hK hP (ci := 3) (q0 := 0) rfl rfl) rfl hl.1 rfl (Nat.le_of_ble_eq_true rfl) d_Mo_isTaken_11 ⟨Nat.zero_le _, Nat.zero_le _⟩ ?_
    refine lv_iload_n hx hb d_Mo_isTaken_14 rfl (lv_at hl 1 rfl) ?_
    refine lv_icmp_eq (tgt := 22) hx hb d_Mo_isTaken_15 (by decide) (fun c_2 => ?_) (fun c_2 => ?_)
    · have hv := hv.trans (if_pos c_2)
      refine lv_iconst (v := 0) hx hb d_Mo_isTaken_22 (by decide) ?_
      exact W.zret (v := 0) (ty := .boolean) hx hb hr rfl (fun t ht hW9 => ⟨0, rfl, hv.symm, ht⟩) (fun q hq => nomatch hq) d_Mo_isTaken_23
    · have hv := hv.trans (if_neg c_2)
      refine lv_iconst (v := 1) hx hb d_Mo_isTaken_18 (by decide) ?_
      refine lv_goto (tgt := 23) hx hb d_Mo_isTaken_19 (by decide) ?_
      exact W.zret (v := 1) (ty := .boolean) hx hb hr rfl (fun t ht hW9 => ⟨1, rfl, hv.symm, ht⟩) (fun q hq => nomatch hq) d_Mo_isTaken_23
def f_Mo_isRival (F : Nat → Int32) (A : Nat → Nat → Int32) (gr oth : Int32) : Int32 := if A 13 gr.toNatClampNeg = 0 then (if A 8 gr.toNatClampNeg = A 8 oth.toNatClampNeg then 0 else (if f_Mo_meet F A gr oth = 0 then 0 else 1)) else 0
set_option maxHeartbeats 4000000 in
set_option maxRecDepth 100000 in
theorem c_Mo_isRival (l : Launch) (dC : Nat → ClassId) (dI : Nat → Nat → Nat) (r : Nat → Nat) (k : Nat → ClassId) (F : Nat → Int32) (A : Nat → Nat → Int32) (gr oth : Int32) (h_gr : vp_in gr 61) (h_oth : vp_in oth 61) : Met l y_Mo_isRival w_Mo_isRival ({ frames := 1, cells := 0, slots := 0, locals := 22 }) (va_Pc [.ref (r 0), .int gr, .int oth] (RO (dC, dI) (wM r k F A) (tM k))) (vp_Si (fun v => v = f_Mo_isRival F A gr oth)) 0 0 (fun _ => False) := by
  refine Met.ofW (cc := b_Mo_isRival) (maxL := 3) (ret := (some .boolean)) (by decide) rfl ?_
  intro p e s m args below meth c s₁ B hml hv0
  obtain ⟨rfl, hP, hK⟩ := hv0
  have hx := B.exec
  have hb := B.bytes
  have hr := B.returns
  have hts := atoms_spec (ws := w_Mo_isRival) B.pre
  have hW : ∀ w ∈ WALL, w.before ([.ref (r 0), .int gr, .int oth] : List Value).toArray s = true := fun w h => hts w (List.mem_cons_of_mem _ h)
  have hown : s.vm.findClass R_Mo = some m.cls := findClass_of_methodNamed B.named
  have hlocks := B.notSynchronized
  have hl := lv_entry ([.ref (r 0), .int gr, .int oth]) (n := 3) (Nat.le_of_ble_eq_true rfl)
  rw [lg_entry_eq]
  generalize (lg_sl ([.ref (r 0), .int gr, .int oth]) ++ List.replicate (3 - (lg_sl ([.ref (r 0), .int gr, .int oth])).length) Slot.unset).toArray = ls at hl ⊢
  have hl : lv_has ls 3 [(0, .ref (r 0)), (1, .int gr), (2, .int oth)] := hl
  have hv := f_Mo_isRival.eq_1 F A gr oth
  refine lv_aload_n hx hb d_Mo_isRival_0 rfl (lv_at hl 0 rfl) ?_
  refine va_get (D := (dC, dI)) (ci := 3) (v := .ref (r 14)) (C := R_Mo) (T := F_Mo) (N := 19) hx hb hW i_Mo hown hK hP 0 rfl rfl 18 (by decide) (hW _ k_216) (fun _ h9 => h9) rfl d_Mo_isRival_1 ?_
  refine lv_iload_n hx hb d_Mo_isRival_4 rfl (lv_at hl 1 rfl) ?_
  refine va_iald hx hb hK hP 14 13 rfl rfl h_gr d_Mo_isRival_5 ?_
  refine lv_if_ne (tgt := 37) hx hb d_Mo_isRival_6 (by decide) (fun c_1 => ?_) (fun c_1 => ?_)
  · have hv := hv.trans (if_neg c_1)
    refine lv_iconst (v := 0) hx hb d_Mo_isRival_37 (by decide) ?_
    exact W.zret (v := 0) (ty := .boolean) hx hb hr rfl (fun t ht hW9 => ⟨0, rfl, hv.symm, ht⟩) (fun q hq => nomatch hq) d_Mo_isRival_38
  · have hv := hv.trans (if_pos c_1)
    refine lv_aload_n hx hb d_Mo_isRival_9 rfl (lv_at hl 0 rfl) ?_
    refine va_get (D := (dC, dI)) (ci := 3) (v := .ref (r 9)) (C := R_Mo) (T := F_Mo) (N := 19) hx hb hW i_Mo hown hK hP 0 rfl rfl 13 (by decide) (hW _ k_217) (fun _ h9 => h9) rfl d_Mo_isRival_10 ?_
    refine lv_iload_n hx hb d_Mo_isRival_13 rfl (lv_at hl 1 rfl) ?_
    refine va_iald hx hb hK hP 9 8 rfl rfl h_gr d_Mo_isRival_14 ?_
    refine lv_aload_n hx hb d_Mo_isRival_15 rfl (lv_at hl 0 rfl) ?_
    refine va_get (D := (dC, dI)) (ci := 3) (v := .ref (r 9)) (C := R_Mo) (T := F_Mo) (N := 19) hx hb hW i_Mo hown hK hP 0 rfl rfl 13 (by decide) (hW _ k_217) (fun _ h9 => h9) rfl d_Mo_isRival_16 ?_
    refine lv_iload_n hx hb d_Mo_isRival_19 rfl (lv_at hl 2 rfl) ?_
    refine va_iald hx hb hK hP 9 8 rfl rfl h_oth d_Mo_isRival_20 ?_
    refine lv_icmp_eq (tgt := 37) hx hb d_Mo_isRival_21 (by decide) (fun c_2 => ?_) (fun c_2 => ?_)
    · have hv := hv.trans (if_pos c_2)
      refine lv_iconst (v := 0) hx hb d_Mo_isRival_37 (by decide) ?_
      exact W.zret (v := 0) (ty := .boolean) hx hb hr rfl (fun t ht hW9 => ⟨0, rfl, hv.symm, ht⟩) (fun q hq => nomatch hq) d_Mo_isRival_38
    · have hv := hv.trans (if_neg c_2)
      refine lv_aload_n hx hb d_Mo_isRival_24 rfl (lv_at hl 0 rfl) ?_
      refine lv_iload_n hx hb d_Mo_isRival_25 rfl (lv_at hl 1 rfl) ?_
      refine lv_iload_n hx hb d_Mo_isRival_26 rfl (lv_at hl 2 rfl) ?_
      refine rdV ⟨hx, hb, hml, hown, hW⟩ (c_Mo_meet l dC dI r k F A gr oth  h_gr h_oth) (cwV 2 hW (gIn k_218 k_219 k_220 k_193 k_221) rfl rfl rfl (by decide +kernel) ⟨Nat.le_of_ble_eq_true rfl, Nat.le_of_ble_eq_true rfl⟩) hK hP (va_recv hK hP (ci := 3) (q0 := 0) rfl rfl) rfl hl.1 rfl (Nat.le_of_ble_eq_true rfl) d_Mo_isRival_27 ⟨Nat.zero_le _, Nat.zero_le _⟩ ?_
      refine lv_if_eq (tgt := 37) hx hb d_Mo_isRival_30 (by decide) (fun c_3 => ?_) (fun c_3 => ?_)
      · have hv := hv.trans (if_pos c_3)
        refine lv_iconst (v := 0) hx hb d_Mo_isRival_37 (by decide) ?_
        exact W.zret (v := 0) (ty := .boolean) hx hb hr rfl (fun t ht hW9 => ⟨0, rfl, hv.symm, ht⟩) (fun q hq => nomatch hq) d_Mo_isRival_38
      · have hv := hv.trans (if_neg c_3)
        refine lv_iconst (v := 1) hx hb d_Mo_isRival_33 (by decide) ?_
        refine lv_goto (tgt := 38) hx hb d_Mo_isRival_34 (by decide) ?_
        exact W.zret (v := 1) (ty := .boolean) hx hb hr rfl (fun t ht hW9 => ⟨1, rfl, hv.symm, ht⟩) (fun q hq => nomatch hq) d_Mo_isRival_38
def f_Mo_ask_L261 (F : Nat → Int32) (A : Nat → Nat → Int32) (rb pc fr tt pr : Int32) : Nat → (Nat → Nat → Int32) → Int32 → Int32 × SC
  | 0, _, _ => (0, F, A)
  | n261 + 1, B, x7 => if (F 4) + 1 ≤ x7 then ((F 4) + 1, (uF (uF (uF F 0 0) 0 0) 4 ((F 4) + 1)), (uA B 13 (upd (B 13) ((F 4) + 1).toNatClampNeg 0))) else (if f_Mo_isRival (uF (uF F 0 0) 0 0) B x7 ((F 4) + 1) = 0 then (f_Mo_ask_L261 F A rb pc fr tt pr n261 B (x7 + 1)) else (f_Mo_ask_L261 F A rb pc fr tt pr n261 (uA B 13 (upd (B 13) x7.toNatClampNeg 3)) (x7 + 1)))
def f_Mo_ask_L204 (F : Nat → Int32) (A : Nat → Nat → Int32) (rb pc fr tt pr : Int32) (A6_ : Nat → Nat → Int32) : Nat → Int32 → Int32 × SC
  | 0, _ => (0, F, A)
  | n204 + 1, x7 => if (F 4) + 1 ≤ x7 then (f_Mo_ask_L261 F A rb pc fr tt pr 64 A6_ 1) else (if f_Mo_isRival (uF (uF F 0 0) 0 0) A6_ x7 ((F 4) + 1) = 0 then (f_Mo_ask_L204 F A rb pc fr tt pr A6_ n204 (x7 + 1)) else (if pr ≤ A6_ 12 x7.toNatClampNeg then (-x7, (uF (uF F 0 0) 0 0), A6_) else (if F 1 < A6_ 10 x7.toNatClampNeg then (f_Mo_ask_L204 F A rb pc fr tt pr A6_ n204 (x7 + 1)) else (-x7, (uF (uF F 0 0) 0 0), A6_))))
def f_Mo_ask (F : Nat → Int32) (A : Nat → Nat → Int32) (rb pc fr tt pr : Int32) : Int32 × SC := if f_Mo_isRobot F A rb = 0 then (0, (uF F 0 1), A) else (if f_Mo_isPiece F A pc = 0 then (0, (uF F 0 1), A) else (if fr < F 1 then (0, (uF F 0 2), A) else (if tt ≤ fr then (0, (uF F 0 2), A) else (if 100 < tt - (F 1) then (0, (uF F 0 2), A) else (if f_Mo_in pr 1 9 = 0 then (0, (uF F 0 2), A) else (if A 7 rb.toNatClampNeg = 0 then (if f_Mo_isSilent (uF F 0 0) A rb = 0 then (if F 4 = 60 then (0, (uF (uF F 0 0) 0 4), A) else (if (uA A 6 (upd (A 6) rb.toNatClampNeg (F 1))) 0 pc.toNatClampNeg = 0 then (if f_Mo_isTaken (uF (uF F 0 0) 0 0) (uA A 6 (upd (A 6) rb.toNatClampNeg (F 1))) rb pc = 0 then (f_Mo_ask_L204 F A rb pc fr tt pr (uA (uA (uA (uA (uA (uA A 6 (upd (A 6) rb.toNatClampNeg (F 1))) 8 (upd ((uA A 6 (upd (A 6) rb.toNatClampNeg (F 1))) 8) ((F 4) + 1).toNatClampNeg rb)) 9 (upd ((uA (uA A 6 (upd (A 6) rb.toNatClampNeg (F 1))) 8 (upd ((uA A 6 (upd (A 6) rb.toNatClampNeg (F 1))) 8) ((F 4) + 1).toNatClampNeg rb)) 9) ((F 4) + 1).toNatClampNeg pc)) 10 (upd ((uA (uA (uA A 6 (upd (A 6) rb.toNatClampNeg (F 1))) 8 (upd ((uA A 6 (upd (A 6) rb.toNatClampNeg (F 1))) 8) ((F 4) + 1).toNatClampNeg rb)) 9 (upd ((uA (uA A 6 (upd (A 6) rb.toNatClampNeg (F 1))) 8 (upd ((uA A 6 (upd (A 6) rb.toNatClampNeg (F 1))) 8) ((F 4) + 1).toNatClampNeg rb)) 9) ((F 4) + 1).toNatClampNeg pc)) 10) ((F 4) + 1).toNatClampNeg fr)) 11 (upd ((uA (uA (uA (uA A 6 (upd (A 6) rb.toNatClampNeg (F 1))) 8 (upd ((uA A 6 (upd (A 6) rb.toNatClampNeg (F 1))) 8) ((F 4) + 1).toNatClampNeg rb)) 9 (upd ((uA (uA A 6 (upd (A 6) rb.toNatClampNeg (F 1))) 8 (upd ((uA A 6 (upd (A 6) rb.toNatClampNeg (F 1))) 8) ((F 4) + 1).toNatClampNeg rb)) 9) ((F 4) + 1).toNatClampNeg pc)) 10 (upd ((uA (uA (uA A 6 (upd (A 6) rb.toNatClampNeg (F 1))) 8 (upd ((uA A 6 (upd (A 6) rb.toNatClampNeg (F 1))) 8) ((F 4) + 1).toNatClampNeg rb)) 9 (upd ((uA (uA A 6 (upd (A 6) rb.toNatClampNeg (F 1))) 8 (upd ((uA A 6 (upd (A 6) rb.toNatClampNeg (F 1))) 8) ((F 4) + 1).toNatClampNeg rb)) 9) ((F 4) + 1).toNatClampNeg pc)) 10) ((F 4) + 1).toNatClampNeg fr)) 11) ((F 4) + 1).toNatClampNeg tt)) 12 (upd ((uA (uA (uA (uA (uA A 6 (upd (A 6) rb.toNatClampNeg (F 1))) 8 (upd ((uA A 6 (upd (A 6) rb.toNatClampNeg (F 1))) 8) ((F 4) + 1).toNatClampNeg rb)) 9 (upd ((uA (uA A 6 (upd (A 6) rb.toNatClampNeg (F 1))) 8 (upd ((uA A 6 (upd (A 6) rb.toNatClampNeg (F 1))) 8) ((F 4) + 1).toNatClampNeg rb)) 9) ((F 4) + 1).toNatClampNeg pc)) 10 (upd ((uA (uA (uA A 6 (upd (A 6) rb.toNatClampNeg (F 1))) 8 (upd ((uA A 6 (upd (A 6) rb.toNatClampNeg (F 1))) 8) ((F 4) + 1).toNatClampNeg rb)) 9 (upd ((uA (uA A 6 (upd (A 6) rb.toNatClampNeg (F 1))) 8 (upd ((uA A 6 (upd (A 6) rb.toNatClampNeg (F 1))) 8) ((F 4) + 1).toNatClampNeg rb)) 9) ((F 4) + 1).toNatClampNeg pc)) 10) ((F 4) + 1).toNatClampNeg fr)) 11 (upd ((uA (uA (uA (uA A 6 (upd (A 6) rb.toNatClampNeg (F 1))) 8 (upd ((uA A 6 (upd (A 6) rb.toNatClampNeg (F 1))) 8) ((F 4) + 1).toNatClampNeg rb)) 9 (upd ((uA (uA A 6 (upd (A 6) rb.toNatClampNeg (F 1))) 8 (upd ((uA A 6 (upd (A 6) rb.toNatClampNeg (F 1))) 8) ((F 4) + 1).toNatClampNeg rb)) 9) ((F 4) + 1).toNatClampNeg pc)) 10 (upd ((uA (uA (uA A 6 (upd (A 6) rb.toNatClampNeg (F 1))) 8 (upd ((uA A 6 (upd (A 6) rb.toNatClampNeg (F 1))) 8) ((F 4) + 1).toNatClampNeg rb)) 9 (upd ((uA (uA A 6 (upd (A 6) rb.toNatClampNeg (F 1))) 8 (upd ((uA A 6 (upd (A 6) rb.toNatClampNeg (F 1))) 8) ((F 4) + 1).toNatClampNeg rb)) 9) ((F 4) + 1).toNatClampNeg pc)) 10) ((F 4) + 1).toNatClampNeg fr)) 11) ((F 4) + 1).toNatClampNeg tt)) 12) ((F 4) + 1).toNatClampNeg pr)) 64 1) else (0, (uF (uF F 0 0) 0 0), (uA A 6 (upd (A 6) rb.toNatClampNeg (F 1))))) else (0, (uF (uF F 0 0) 0 0), (uA A 6 (upd (A 6) rb.toNatClampNeg (F 1)))))) else (0, (uF (uF F 0 0) 0 3), A)) else (0, (uF (uF F 0 0) 0 3), A)))))))
set_option maxHeartbeats 4000000 in
set_option maxRecDepth 100000 in
theorem c_Mo_ask (l : Launch) (dC : Nat → ClassId) (dI : Nat → Nat → Nat) (r : Nat → Nat) (k : Nat → ClassId) (F : Nat → Int32) (A : Nat → Nat → Int32) (sz : Nat) (rb pc fr tt pr : Int32) (hI : SI F) : Met l y_Mo_ask w_Mo_ask ({ frames := 2, cells := 0, slots := 0, locals := 44 }) (va_Pc [.ref (r 0), .int rb, .int pc, .int fr, .int tt, .int pr] (SP (dC, dI) (wM r k F A) (tM k) sz)) (va_Qi (fun v (u : SC) => (v, u) = f_Mo_ask F A rb pc fr tt pr) (fun (u : SC) t => aW (dC, dI) (tM k) (va_A (wM r k F A) sz) (wM r k u.1 u.2) t) (va_A (wM r k F A) sz)) 0 0 (va_A (wM r k F A) sz) := by
  refine Met.ofW (cc := b_Mo_ask) (maxL := 8) (ret := (some .int)) (by decide) rfl ?_
  intro p e s m args below meth c s₁ B hml hv0
  obtain ⟨rfl, hsz, hP, hK, hD0⟩ := hv0
  have hx := B.exec
  have hb := B.bytes
  have hr := B.returns
  have hts := atoms_spec (ws := w_Mo_ask) B.pre
  have hW : ∀ w ∈ WALL, w.before ([.ref (r 0), .int rb, .int pc, .int fr, .int tt, .int pr] : List Value).toArray s = true := fun w h => hts w (List.mem_cons_of_mem _ h)
  have hown : s.vm.findClass R_Mo = some m.cls := findClass_of_methodNamed B.named
  have hlocks := B.notSynchronized
  subst hsz
  have hD := hD0.self (sz := s.heap.size)
  generalize hAe : va_A (wM r k F A) s.heap.size = Ad at hD ⊢
  have hA : ∀ q : Nat, s.heap.size ≤ q → Ad q := fun q h => by rw [← hAe]; exact Or.inr h
  have hS : va_S Ad s.heap s.heap [] := va_S.rf
  have hl := lv_entry ([.ref (r 0), .int rb, .int pc, .int fr, .int tt, .int pr]) (n := 8) (Nat.le_of_ble_eq_true rfl)
  rw [lg_entry_eq]
  generalize (lg_sl ([.ref (r 0), .int rb, .int pc, .int fr, .int tt, .int pr]) ++ List.replicate (8 - (lg_sl ([.ref (r 0), .int rb, .int pc, .int fr, .int tt, .int pr])).length) Slot.unset).toArray = ls at hl ⊢
  have hl : lv_has ls 8 [(0, .ref (r 0)), (1, .int rb), (2, .int pc), (3, .int fr), (4, .int tt), (5, .int pr)] := hl
  obtain ⟨⟨hp0, hp1⟩, ⟨hr0, hr1⟩, hg0, hg1⟩ := id hI; have hr2 : (F 3).toInt ≤ 60 := Int.le_trans hr1 (by decide); have hp2 : (F 2).toInt ≤ 60 := Int.le_trans hp1 (by decide)
  have hv := f_Mo_ask.eq_1 F A rb pc fr tt pr
  refine lv_aload_n hx hb d_Mo_ask_0 rfl (lv_at hl 0 rfl) ?_
  refine lv_aload_n hx hb d_Mo_ask_1 rfl (lv_at hl 0 rfl) ?_
  refine lv_iload_n hx hb d_Mo_ask_2 rfl (lv_at hl 1 rfl) ?_
  refine rdV ⟨hx, hb, hml, hown, hW⟩ (c_Mo_isRobot l dC dI r k F A rb  ) (cwV 1 hW (gIn k_222 k_223 k_224 k_193 k_225) rfl rfl rfl (by decide +kernel) ⟨Nat.le_of_ble_eq_true rfl, Nat.le_of_ble_eq_true rfl⟩) hK hP (va_recv hK hP (ci := 3) (q0 := 0) rfl rfl) rfl hl.1 rfl (Nat.le_of_ble_eq_true rfl) d_Mo_ask_3 ⟨Nat.zero_le _, Nat.zero_le _⟩ ?_
  refine lv_if_eq (tgt := 17) hx hb d_Mo_ask_6 (by decide) (fun c_1 => ?_) (fun c_1 => ?_)
  · have hv := hv.trans (if_pos c_1)
    refine lv_iconst (v := 1) hx hb d_Mo_ask_17 (by decide) ?_
    refine lv_goto (tgt := 63) hx hb d_Mo_ask_18 (by decide) ?_
    refine va_put (D := (dC, dI)) (ci := 3) (v := .int 1) (ty := .int) (C := R_Mo) (T := F_Mo) (N := 19) hx hb hW i_Mo t_Mo t_Mo_ok n_Mo hown hK hP hD hS 0 rfl rfl 0 (by decide) (hW _ k_189) (fun _ h9 => h9) rfl (by decide +kernel) rfl rfl (Nat.le_of_ble_eq_true rfl) d_Mo_ask_63 (fun H locs hP hD hS => ?_)
    have hP := pMF_0 hP
    have hD := dMF_0 hD
    refine lv_aload_n hx hb d_Mo_ask_66 rfl (lv_at hl 0 rfl) ?_
    refine va_get (D := (dC, dI)) (ci := 3) (v := .int 1) (C := R_Mo) (T := F_Mo) (N := 19) hx hb hW i_Mo hown hK hP 0 rfl rfl 0 (by decide) (hW _ k_189) (fun _ h9 => h9) rfl d_Mo_ask_67 ?_
    refine lv_if_ne (tgt := 112) hx hb d_Mo_ask_70 (by decide) (fun _ => ?_) (fun h9 => absurd h9 (by decide))
    refine lv_aload_n hx hb d_Mo_ask_112 rfl (lv_at hl 0 rfl) ?_
    refine va_get (D := (dC, dI)) (ci := 3) (v := .int 1) (C := R_Mo) (T := F_Mo) (N := 19) hx hb hW i_Mo hown hK hP 0 rfl rfl 0 (by decide) (hW _ k_189) (fun _ h9 => h9) rfl d_Mo_ask_113 ?_
    refine lv_if_le (tgt := 121) hx hb d_Mo_ask_116 (by decide) (fun h9 => absurd h9 (by decide)) (fun _ => ?_)
    refine lv_iconst (v := 0) hx hb d_Mo_ask_119 (by decide) ?_
    exact W.iret (v := 0) hx hb hr (fun t ht hW9 => ⟨⟨0, ((uF F 0 1), A), rfl, hv.symm, by rw [ht]; exact hP, va_K.moved hW9.alike hK, hD⟩, hS.F ht⟩) hS.2.2 d_Mo_ask_120
  · have hv := hv.trans (if_neg c_1)
    refine lv_aload_n hx hb d_Mo_ask_9 rfl (lv_at hl 0 rfl) ?_
    refine lv_iload_n hx hb d_Mo_ask_10 rfl (lv_at hl 2 rfl) ?_
    refine rdV ⟨hx, hb, hml, hown, hW⟩ (c_Mo_isPiece l dC dI r k F A pc  ) (cwV 1 hW (gIn k_197 k_198 k_199 k_193 k_200) rfl rfl rfl (by decide +kernel) ⟨Nat.le_of_ble_eq_true rfl, Nat.le_of_ble_eq_true rfl⟩) hK hP (va_recv hK hP (ci := 3) (q0 := 0) rfl rfl) rfl hl.1 rfl (Nat.le_of_ble_eq_true rfl) d_Mo_ask_11 ⟨Nat.zero_le _, Nat.zero_le _⟩ ?_
    refine lv_if_ne (tgt := 21) hx hb d_Mo_ask_14 (by decide) (fun c_2 => ?_) (fun c_2 => ?_)
    · have hv := hv.trans (if_neg c_2)
      refine lv_iload_n hx hb d_Mo_ask_21 rfl (lv_at hl 3 rfl) ?_
      refine lv_aload_n hx hb d_Mo_ask_22 rfl (lv_at hl 0 rfl) ?_
      refine va_get (D := (dC, dI)) (ci := 3) (v := .int (F 1)) (C := R_Mo) (T := F_Mo) (N := 19) hx hb hW i_Mo hown hK hP 0 rfl rfl 1 (by decide) (hW _ k_212) (fun _ h9 => h9) rfl d_Mo_ask_23 ?_
      refine lv_icmp_lt (tgt := 58) hx hb d_Mo_ask_26 (by decide) (fun c_3 => ?_) (fun c_3 => ?_)
      · have hv := hv.trans (if_pos c_3)
        refine lv_iconst (v := 2) hx hb d_Mo_ask_58 (by decide) ?_
        refine lv_goto (tgt := 63) hx hb d_Mo_ask_59 (by decide) ?_
        refine va_put (D := (dC, dI)) (ci := 3) (v := .int 2) (ty := .int) (C := R_Mo) (T := F_Mo) (N := 19) hx hb hW i_Mo t_Mo t_Mo_ok n_Mo hown hK hP hD hS 0 rfl rfl 0 (by decide) (hW _ k_189) (fun _ h9 => h9) rfl (by decide +kernel) rfl rfl (Nat.le_of_ble_eq_true rfl) d_Mo_ask_63 (fun H locs hP hD hS => ?_)
        have hP := pMF_0 hP
        have hD := dMF_0 hD
        refine lv_aload_n hx hb d_Mo_ask_66 rfl (lv_at hl 0 rfl) ?_
        refine va_get (D := (dC, dI)) (ci := 3) (v := .int 2) (C := R_Mo) (T := F_Mo) (N := 19) hx hb hW i_Mo hown hK hP 0 rfl rfl 0 (by decide) (hW _ k_189) (fun _ h9 => h9) rfl d_Mo_ask_67 ?_
        refine lv_if_ne (tgt := 112) hx hb d_Mo_ask_70 (by decide) (fun _ => ?_) (fun h9 => absurd h9 (by decide))
        refine lv_aload_n hx hb d_Mo_ask_112 rfl (lv_at hl 0 rfl) ?_
        refine va_get (D := (dC, dI)) (ci := 3) (v := .int 2) (C := R_Mo) (T := F_Mo) (N := 19) hx hb hW i_Mo hown hK hP 0 rfl rfl 0 (by decide) (hW _ k_189) (fun _ h9 => h9) rfl d_Mo_ask_113 ?_
        refine lv_if_le (tgt := 121) hx hb d_Mo_ask_116 (by decide) (fun h9 => absurd h9 (by decide)) (fun _ => ?_)
        refine lv_iconst (v := 0) hx hb d_Mo_ask_119 (by decide) ?_
        exact W.iret (v := 0) hx hb hr (fun t ht hW9 => ⟨⟨0, ((uF F 0 2), A), rfl, hv.symm, by rw [ht]; exact hP, va_K.moved hW9.alike hK, hD⟩, hS.F ht⟩) hS.2.2 d_Mo_ask_120
      · have hv := hv.trans (if_neg c_3)
        refine lv_iload hx hb d_Mo_ask_29 (lv_at hl 4 rfl) ?_
        refine lv_iload_n hx hb d_Mo_ask_31 rfl (lv_at hl 3 rfl) ?_
        refine lv_icmp_le (tgt := 58) hx hb d_Mo_ask_32 (by decide) (fun c_4 => ?_) (fun c_4 => ?_)
        · have hv := hv.trans (if_pos c_4)
          refine lv_iconst (v := 2) hx hb d_Mo_ask_58 (by decide) ?_
          refine lv_goto (tgt := 63) hx hb d_Mo_ask_59 (by decide) ?_
          refine va_put (D := (dC, dI)) (ci := 3) (v := .int 2) (ty := .int) (C := R_Mo) (T := F_Mo) (N := 19) hx hb hW i_Mo t_Mo t_Mo_ok n_Mo hown hK hP hD hS 0 rfl rfl 0 (by decide) (hW _ k_189) (fun _ h9 => h9) rfl (by decide +kernel) rfl rfl (Nat.le_of_ble_eq_true rfl) d_Mo_ask_63 (fun H locs hP hD hS => ?_)
          have hP := pMF_0 hP
          have hD := dMF_0 hD
          refine lv_aload_n hx hb d_Mo_ask_66 rfl (lv_at hl 0 rfl) ?_
          refine va_get (D := (dC, dI)) (ci := 3) (v := .int 2) (C := R_Mo) (T := F_Mo) (N := 19) hx hb hW i_Mo hown hK hP 0 rfl rfl 0 (by decide) (hW _ k_189) (fun _ h9 => h9) rfl d_Mo_ask_67 ?_
          refine lv_if_ne (tgt := 112) hx hb d_Mo_ask_70 (by decide) (fun _ => ?_) (fun h9 => absurd h9 (by decide))
          refine lv_aload_n hx hb d_Mo_ask_112 rfl (lv_at hl 0 rfl) ?_
          refine va_get (D := (dC, dI)) (ci := 3) (v := .int 2) (C := R_Mo) (T := F_Mo) (N := 19) hx hb hW i_Mo hown hK hP 0 rfl rfl 0 (by decide) (hW _ k_189) (fun _ h9 => h9) rfl d_Mo_ask_113 ?_
          refine lv_if_le (tgt := 121) hx hb d_Mo_ask_116 (by decide) (fun h9 => absurd h9 (by decide)) (fun _ => ?_)
          refine lv_iconst (v := 0) hx hb d_Mo_ask_119 (by decide) ?_
          exact W.iret (v := 0) hx hb hr (fun t ht hW9 => ⟨⟨0, ((uF F 0 2), A), rfl, hv.symm, by rw [ht]; exact hP, va_K.moved hW9.alike hK, hD⟩, hS.F ht⟩) hS.2.2 d_Mo_ask_120
        · have hv := hv.trans (if_neg c_4)
          refine lv_iload hx hb d_Mo_ask_35 (lv_at hl 4 rfl) ?_
          refine lv_aload_n hx hb d_Mo_ask_37 rfl (lv_at hl 0 rfl) ?_
          refine va_get (D := (dC, dI)) (ci := 3) (v := .int (F 1)) (C := R_Mo) (T := F_Mo) (N := 19) hx hb hW i_Mo hown hK hP 0 rfl rfl 1 (by decide) (hW _ k_212) (fun _ h9 => h9) rfl d_Mo_ask_38 ?_
          refine lv_isub hx hb d_Mo_ask_41 ?_
          refine lv_bipush (v := 100) hx hb d_Mo_ask_42 (by decide) ?_
          refine lv_icmp_gt (tgt := 58) hx hb d_Mo_ask_44 (by decide) (fun c_5 => ?_) (fun c_5 => ?_)
          · have hv := hv.trans (if_pos c_5)
            refine lv_iconst (v := 2) hx hb d_Mo_ask_58 (by decide) ?_
            refine lv_goto (tgt := 63) hx hb d_Mo_ask_59 (by decide) ?_
            refine va_put (D := (dC, dI)) (ci := 3) (v := .int 2) (ty := .int) (C := R_Mo) (T := F_Mo) (N := 19) hx hb hW i_Mo t_Mo t_Mo_ok n_Mo hown hK hP hD hS 0 rfl rfl 0 (by decide) (hW _ k_189) (fun _ h9 => h9) rfl (by decide +kernel) rfl rfl (Nat.le_of_ble_eq_true rfl) d_Mo_ask_63 (fun H locs hP hD hS => ?_)
            have hP := pMF_0 hP
            have hD := dMF_0 hD
            refine lv_aload_n hx hb d_Mo_ask_66 rfl (lv_at hl 0 rfl) ?_
            refine va_get (D := (dC, dI)) (ci := 3) (v := .int 2) (C := R_Mo) (T := F_Mo) (N := 19) hx hb hW i_Mo hown hK hP 0 rfl rfl 0 (by decide) (hW _ k_189) (fun _ h9 => h9) rfl d_Mo_ask_67 ?_
            refine lv_if_ne (tgt := 112) hx hb d_Mo_ask_70 (by decide) (fun _ => ?_) (fun h9 => absurd h9 (by decide))
            refine lv_aload_n hx hb d_Mo_ask_112 rfl (lv_at hl 0 rfl) ?_
            refine va_get (D := (dC, dI)) (ci := 3) (v := .int 2) (C := R_Mo) (T := F_Mo) (N := 19) hx hb hW i_Mo hown hK hP 0 rfl rfl 0 (by decide) (hW _ k_189) (fun _ h9 => h9) rfl d_Mo_ask_113 ?_
            refine lv_if_le (tgt := 121) hx hb d_Mo_ask_116 (by decide) (fun h9 => absurd h9 (by decide)) (fun _ => ?_)
            refine lv_iconst (v := 0) hx hb d_Mo_ask_119 (by decide) ?_
            exact W.iret (v := 0) hx hb hr (fun t ht hW9 => ⟨⟨0, ((uF F 0 2), A), rfl, hv.symm, by rw [ht]; exact hP, va_K.moved hW9.alike hK, hD⟩, hS.F ht⟩) hS.2.2 d_Mo_ask_120
          · have hv := hv.trans (if_neg c_5)
            refine lv_iload hx hb d_Mo_ask_47 (lv_at hl 5 rfl) ?_
            refine lv_iconst (v := 1) hx hb d_Mo_ask_49 (by decide) ?_
            refine lv_bipush (v := 9) hx hb d_Mo_ask_50 (by decide) ?_
            refine rdS (rest := [.ref (r 0)]) ⟨hx, hb, hml, hown, hW⟩ (c_Mo_in l pr 1 9) (va_cwS 3 hW (gInS k_191 k_192 k_193 k_194) rfl rfl rfl (by decide +kernel) ⟨Nat.le_of_ble_eq_true rfl, Nat.le_of_ble_eq_true rfl⟩) rfl hl.1 rfl (Nat.le_of_ble_eq_true rfl) d_Mo_ask_52 ⟨Nat.zero_le _, Nat.zero_le _⟩ ?_
            refine lv_if_ne (tgt := 62) hx hb d_Mo_ask_55 (by decide) (fun c_6 => ?_) (fun c_6 => ?_)
            · have hv := hv.trans (if_neg c_6)
              refine lv_iconst (v := 0) hx hb d_Mo_ask_62 (by decide) ?_
              refine va_put (D := (dC, dI)) (ci := 3) (v := .int 0) (ty := .int) (C := R_Mo) (T := F_Mo) (N := 19) hx hb hW i_Mo t_Mo t_Mo_ok n_Mo hown hK hP hD hS 0 rfl rfl 0 (by decide) (hW _ k_189) (fun _ h9 => h9) rfl (by decide +kernel) rfl rfl (Nat.le_of_ble_eq_true rfl) d_Mo_ask_63 (fun H locs hP hD hS => ?_)
              have hP := pMF_0 hP
              have hD := dMF_0 hD
              refine lv_aload_n hx hb d_Mo_ask_66 rfl (lv_at hl 0 rfl) ?_
              refine va_get (D := (dC, dI)) (ci := 3) (v := .int 0) (C := R_Mo) (T := F_Mo) (N := 19) hx hb hW i_Mo hown hK hP 0 rfl rfl 0 (by decide) (hW _ k_189) (fun _ h9 => h9) rfl d_Mo_ask_67 ?_
              refine lv_if_ne (tgt := 112) hx hb d_Mo_ask_70 (by decide) (fun h9 => absurd h9 (by decide)) (fun _ => ?_)
              refine lv_aload_n hx hb d_Mo_ask_73 rfl (lv_at hl 0 rfl) ?_
              refine lv_aload_n hx hb d_Mo_ask_74 rfl (lv_at hl 0 rfl) ?_
              refine va_get (D := (dC, dI)) (ci := 3) (v := .ref (r 8)) (C := R_Mo) (T := F_Mo) (N := 19) hx hb hW i_Mo hown hK hP 0 rfl rfl 11 (by decide) (hW _ k_226) (fun _ h9 => h9) rfl d_Mo_ask_75 ?_
              refine lv_iload_n hx hb d_Mo_ask_78 rfl (lv_at hl 1 rfl) ?_
              refine va_zald hx hb hK hP 8 7 rfl rfl (mxR hI c_1) d_Mo_ask_79 ?_
              refine lv_if_ne (tgt := 91) hx hb d_Mo_ask_80 (by decide) (fun c_7 => ?_) (fun c_7 => ?_)
              · have hv := hv.trans (if_neg c_7)
                refine lv_iconst (v := 3) hx hb d_Mo_ask_91 (by decide) ?_
                refine lv_goto (tgt := 109) hx hb d_Mo_ask_92 (by decide) ?_
                refine va_put (D := (dC, dI)) (ci := 3) (v := .int 3) (ty := .int) (C := R_Mo) (T := F_Mo) (N := 19) hx hb hW i_Mo t_Mo t_Mo_ok n_Mo hown hK hP hD hS 0 rfl rfl 0 (by decide) (hW _ k_189) (fun _ h9 => h9) rfl (by decide +kernel) rfl rfl (Nat.le_of_ble_eq_true rfl) d_Mo_ask_109 (fun H locs hP hD hS => ?_)
                have hP := pMF_0 hP
                have hD := dMF_0 hD
                refine lv_aload_n hx hb d_Mo_ask_112 rfl (lv_at hl 0 rfl) ?_
                refine va_get (D := (dC, dI)) (ci := 3) (v := .int 3) (C := R_Mo) (T := F_Mo) (N := 19) hx hb hW i_Mo hown hK hP 0 rfl rfl 0 (by decide) (hW _ k_189) (fun _ h9 => h9) rfl d_Mo_ask_113 ?_
                refine lv_if_le (tgt := 121) hx hb d_Mo_ask_116 (by decide) (fun h9 => absurd h9 (by decide)) (fun _ => ?_)
                refine lv_iconst (v := 0) hx hb d_Mo_ask_119 (by decide) ?_
                exact W.iret (v := 0) hx hb hr (fun t ht hW9 => ⟨⟨0, ((uF (uF F 0 0) 0 3), A), rfl, hv.symm, by rw [ht]; exact hP, va_K.moved hW9.alike hK, hD⟩, hS.F ht⟩) hS.2.2 d_Mo_ask_120
              · have hv := hv.trans (if_pos c_7)
                refine lv_aload_n hx hb d_Mo_ask_83 rfl (lv_at hl 0 rfl) ?_
                refine lv_iload_n hx hb d_Mo_ask_84 rfl (lv_at hl 1 rfl) ?_
                refine rdV ⟨hx, hb, hml, hown, hW⟩ (c_Mo_isSilent l dC dI r k (uF F 0 0) A rb  (mxR hI c_1)) (cwV 1 hW (gIn k_227 k_228 k_229 k_193 k_230) rfl rfl rfl (by decide +kernel) ⟨Nat.le_of_ble_eq_true rfl, Nat.le_of_ble_eq_true rfl⟩) hK hP (va_recv hK hP (ci := 3) (q0 := 0) rfl rfl) rfl hl.1 rfl (Nat.le_of_ble_eq_true rfl) d_Mo_ask_85 ⟨Nat.zero_le _, Nat.zero_le _⟩ ?_
                refine lv_if_eq (tgt := 95) hx hb d_Mo_ask_88 (by decide) (fun c_8 => ?_) (fun c_8 => ?_)
                · have hv := hv.trans (if_pos c_8)
                  refine lv_aload_n hx hb d_Mo_ask_95 rfl (lv_at hl 0 rfl) ?_
                  refine va_get (D := (dC, dI)) (ci := 3) (v := .int (F 4)) (C := R_Mo) (T := F_Mo) (N := 19) hx hb hW i_Mo hown hK hP 0 rfl rfl 12 (by decide) (hW _ k_196) (fun _ h9 => h9) rfl d_Mo_ask_96 ?_
                  refine lv_bipush (v := 60) hx hb d_Mo_ask_99 (by decide) ?_
                  refine lv_icmp_ne (tgt := 108) hx hb d_Mo_ask_101 (by decide) (fun c_9 => ?_) (fun c_9 => ?_)
                  · have hv := hv.trans (if_neg c_9)
                    refine lv_iconst (v := 0) hx hb d_Mo_ask_108 (by decide) ?_
                    refine va_put (D := (dC, dI)) (ci := 3) (v := .int 0) (ty := .int) (C := R_Mo) (T := F_Mo) (N := 19) hx hb hW i_Mo t_Mo t_Mo_ok n_Mo hown hK hP hD hS 0 rfl rfl 0 (by decide) (hW _ k_189) (fun _ h9 => h9) rfl (by decide +kernel) rfl rfl (Nat.le_of_ble_eq_true rfl) d_Mo_ask_109 (fun H locs hP hD hS => ?_)
                    have hP := pMF_0 hP
                    have hD := dMF_0 hD
                    refine lv_aload_n hx hb d_Mo_ask_112 rfl (lv_at hl 0 rfl) ?_
                    refine va_get (D := (dC, dI)) (ci := 3) (v := .int 0) (C := R_Mo) (T := F_Mo) (N := 19) hx hb hW i_Mo hown hK hP 0 rfl rfl 0 (by decide) (hW _ k_189) (fun _ h9 => h9) rfl d_Mo_ask_113 ?_
                    refine lv_if_le (tgt := 121) hx hb d_Mo_ask_116 (by decide) (fun _ => ?_) (fun h9 => absurd h9 (by decide))
                    refine lv_aload_n hx hb d_Mo_ask_121 rfl (lv_at hl 0 rfl) ?_
                    refine va_get (D := (dC, dI)) (ci := 3) (v := .ref (r 7)) (C := R_Mo) (T := F_Mo) (N := 19) hx hb hW i_Mo hown hK hP 0 rfl rfl 10 (by decide) (hW _ k_211) (fun _ h9 => h9) rfl d_Mo_ask_122 ?_
                    refine lv_iload_n hx hb d_Mo_ask_125 rfl (lv_at hl 1 rfl) ?_
                    refine lv_aload_n hx hb d_Mo_ask_126 rfl (lv_at hl 0 rfl) ?_
                    refine va_get (D := (dC, dI)) (ci := 3) (v := .int (F 1)) (C := R_Mo) (T := F_Mo) (N := 19) hx hb hW i_Mo hown hK hP 0 rfl rfl 1 (by decide) (hW _ k_212) (fun _ h9 => h9) rfl d_Mo_ask_127 ?_
                    refine va_iast hx hb hK hP hD hS 7 6 rfl rfl (mxR hI c_1) d_Mo_ask_130 (fun H locs hP hD hS => ?_)
                    have hP := pMA_6 hP
                    have hD := dMA_6 hD
                    generalize hAg1 : (uA A 6 (upd (A 6) rb.toNatClampNeg (F 1))) = A1_ at hP hD hv
                    refine lv_aload_n hx hb d_Mo_ask_131 rfl (lv_at hl 0 rfl) ?_
                    refine va_get (D := (dC, dI)) (ci := 3) (v := .ref (r 1)) (C := R_Mo) (T := F_Mo) (N := 19) hx hb hW i_Mo hown hK hP 0 rfl rfl 3 (by decide) (hW _ k_208) (fun _ h9 => h9) rfl d_Mo_ask_132 ?_
                    refine lv_iload_n hx hb d_Mo_ask_135 rfl (lv_at hl 2 rfl) ?_
                    refine va_zald hx hb hK hP 1 0 rfl rfl (mxP hI c_2) d_Mo_ask_136 ?_
                    refine lv_if_ne (tgt := 149) hx hb d_Mo_ask_137 (by decide) (fun c_10 => ?_) (fun c_10 => ?_)
                    · have hv := hv.trans (if_neg c_10)
                      refine lv_iconst (v := 0) hx hb d_Mo_ask_149 (by decide) ?_
                      exact W.iret (v := 0) hx hb hr (fun t ht hW9 => ⟨⟨0, ((uF (uF F 0 0) 0 0), A1_), rfl, hv.symm, by rw [ht]; exact hP, va_K.moved hW9.alike hK, hD⟩, hS.F ht⟩) hS.2.2 d_Mo_ask_150
                    · have hv := hv.trans (if_pos c_10)
                      refine lv_aload_n hx hb d_Mo_ask_140 rfl (lv_at hl 0 rfl) ?_
                      refine lv_iload_n hx hb d_Mo_ask_141 rfl (lv_at hl 1 rfl) ?_
                      refine lv_iload_n hx hb d_Mo_ask_142 rfl (lv_at hl 2 rfl) ?_
                      refine rdV ⟨hx, hb, hml, hown, hW⟩ (c_Mo_isTaken l dC dI r k (uF (uF F 0 0) 0 0) A1_ rb pc hI ) (cwV 2 hW (gIn k_231 k_232 k_233 k_193 k_234) rfl rfl rfl (by decide +kernel) ⟨Nat.le_of_ble_eq_true rfl, Nat.le_of_ble_eq_true rfl⟩) hK hP (va_recv hK hP (ci := 3) (q0 := 0) rfl rfl) rfl hl.1 rfl (Nat.le_of_ble_eq_true rfl) d_Mo_ask_143 ⟨Nat.zero_le _, Nat.zero_le _⟩ ?_
                      refine lv_if_eq (tgt := 151) hx hb d_Mo_ask_146 (by decide) (fun c_11 => ?_) (fun c_11 => ?_)
                      · have hv := hv.trans (if_pos c_11)
                        refine lv_aload_n hx hb d_Mo_ask_151 rfl (lv_at hl 0 rfl) ?_
                        refine va_get (D := (dC, dI)) (ci := 3) (v := .int (F 4)) (C := R_Mo) (T := F_Mo) (N := 19) hx hb hW i_Mo hown hK hP 0 rfl rfl 12 (by decide) (hW _ k_196) (fun _ h9 => h9) rfl d_Mo_ask_152 ?_
                        refine lv_iconst (v := 1) hx hb d_Mo_ask_155 (by decide) ?_
                        refine lv_iadd hx hb d_Mo_ask_156 ?_
                        refine lv_istore (lv' := [(6, .int ((F 4) + 1)), (0, .ref (r 0)), (1, .int rb), (2, .int pc), (3, .int fr), (4, .int tt), (5, .int pr)]) hx hb d_Mo_ask_157 hl (by decide) rfl (fun ls hl => ?_)
                        refine lv_aload_n hx hb d_Mo_ask_159 rfl (lv_at hl 1 rfl) ?_
                        refine va_get (D := (dC, dI)) (ci := 3) (v := .ref (r 9)) (C := R_Mo) (T := F_Mo) (N := 19) hx hb hW i_Mo hown hK hP 0 rfl rfl 13 (by decide) (hW _ k_217) (fun _ h9 => h9) rfl d_Mo_ask_160 ?_
                        refine lv_iload hx hb d_Mo_ask_163 (lv_at hl 0 rfl) ?_
                        refine lv_iload_n hx hb d_Mo_ask_165 rfl (lv_at hl 2 rfl) ?_
                        refine va_iast hx hb hK hP hD hS 9 8 rfl rfl (mxM hI c_9) d_Mo_ask_166 (fun H locs hP hD hS => ?_)
                        have hP := pMA_8 hP
                        have hD := dMA_8 hD
                        generalize hAg2 : (uA A1_ 8 (upd (A1_ 8) ((F 4) + 1).toNatClampNeg rb)) = A2_ at hP hD hv
                        refine lv_aload_n hx hb d_Mo_ask_167 rfl (lv_at hl 1 rfl) ?_
                        refine va_get (D := (dC, dI)) (ci := 3) (v := .ref (r 10)) (C := R_Mo) (T := F_Mo) (N := 19) hx hb hW i_Mo hown hK hP 0 rfl rfl 14 (by decide) (hW _ k_213) (fun _ h9 => h9) rfl d_Mo_ask_168 ?_
                        refine lv_iload hx hb d_Mo_ask_171 (lv_at hl 0 rfl) ?_
                        refine lv_iload_n hx hb d_Mo_ask_173 rfl (lv_at hl 3 rfl) ?_
                        refine va_iast hx hb hK hP hD hS 10 9 rfl rfl (mxM hI c_9) d_Mo_ask_174 (fun H locs hP hD hS => ?_)
                        have hP := pMA_9 hP
                        have hD := dMA_9 hD
                        generalize hAg3 : (uA A2_ 9 (upd (A2_ 9) ((F 4) + 1).toNatClampNeg pc)) = A3_ at hP hD hv
                        refine lv_aload_n hx hb d_Mo_ask_175 rfl (lv_at hl 1 rfl) ?_
                        refine va_get (D := (dC, dI)) (ci := 3) (v := .ref (r 11)) (C := R_Mo) (T := F_Mo) (N := 19) hx hb hW i_Mo hown hK hP 0 rfl rfl 15 (by decide) (hW _ k_214) (fun _ h9 => h9) rfl d_Mo_ask_176 ?_
                        refine lv_iload hx hb d_Mo_ask_179 (lv_at hl 0 rfl) ?_
                        refine lv_iload_n hx hb d_Mo_ask_181 rfl (lv_at hl 4 rfl) ?_
                        refine va_iast hx hb hK hP hD hS 11 10 rfl rfl (mxM hI c_9) d_Mo_ask_182 (fun H locs hP hD hS => ?_)
                        have hP := pMA_10 hP
                        have hD := dMA_10 hD
                        generalize hAg4 : (uA A3_ 10 (upd (A3_ 10) ((F 4) + 1).toNatClampNeg fr)) = A4_ at hP hD hv
                        refine lv_aload_n hx hb d_Mo_ask_183 rfl (lv_at hl 1 rfl) ?_
                        refine va_get (D := (dC, dI)) (ci := 3) (v := .ref (r 12)) (C := R_Mo) (T := F_Mo) (N := 19) hx hb hW i_Mo hown hK hP 0 rfl rfl 16 (by decide) (hW _ k_215) (fun _ h9 => h9) rfl d_Mo_ask_184 ?_
                        refine lv_iload hx hb d_Mo_ask_187 (lv_at hl 0 rfl) ?_
                        refine lv_iload hx hb d_Mo_ask_189 (lv_at hl 5 rfl) ?_
                        refine va_iast hx hb hK hP hD hS 12 11 rfl rfl (mxM hI c_9) d_Mo_ask_191 (fun H locs hP hD hS => ?_)
                        have hP := pMA_11 hP
                        have hD := dMA_11 hD
                        generalize hAg5 : (uA A4_ 11 (upd (A4_ 11) ((F 4) + 1).toNatClampNeg tt)) = A5_ at hP hD hv
                        refine lv_aload_n hx hb d_Mo_ask_192 rfl (lv_at hl 1 rfl) ?_
                        refine va_get (D := (dC, dI)) (ci := 3) (v := .ref (r 13)) (C := R_Mo) (T := F_Mo) (N := 19) hx hb hW i_Mo hown hK hP 0 rfl rfl 17 (by decide) (hW _ k_235) (fun _ h9 => h9) rfl d_Mo_ask_193 ?_
                        refine lv_iload hx hb d_Mo_ask_196 (lv_at hl 0 rfl) ?_
                        refine lv_iload hx hb d_Mo_ask_198 (lv_at hl 6 rfl) ?_
                        refine va_iast hx hb hK hP hD hS 13 12 rfl rfl (mxM hI c_9) d_Mo_ask_200 (fun H locs hP hD hS => ?_)
                        have hP := pMA_12 hP
                        have hD := dMA_12 hD
                        generalize hAg6 : (uA A5_ 12 (upd (A5_ 12) ((F 4) + 1).toNatClampNeg pr)) = A6_ at hP hD hv
                        refine lv_iconst (v := 1) hx hb d_Mo_ask_201 (by decide) ?_
                        refine lv_istore (lv' := [(7, .int 1), (6, .int ((F 4) + 1)), (0, .ref (r 0)), (1, .int rb), (2, .int pc), (3, .int fr), (4, .int tt), (5, .int pr)]) hx hb d_Mo_ask_202 hl (by decide) rfl (fun ls hl => ?_)
                        have loop204 : ∀ (n204 : Nat) (x7 : Int32) (ls : Array Slot), LC ((F 4) + 1) x7 n204 → f_Mo_ask F A rb pc fr tt pr = f_Mo_ask_L204 F A rb pc fr tt pr A6_ n204 x7 → lv_has ls 8 [(0, .ref (r 0)), (1, .int rb), (2, .int pc), (3, .int fr), (4, .int tt), (5, .int pr), (6, .int ((F 4) + 1)), (7, .int x7)] → W p l e (headSpec w_Mo_ask ({ frames := 2, cells := 0, slots := 0, locals := 44 })).room s m ([.ref (r 0), .int rb, .int pc, .int fr, .int tt, .int pr] : List Value).toArray below meth c H locs 0 0 (MQ below (va_Qi (fun v (u : SC) => (v, u) = f_Mo_ask F A rb pc fr tt pr) (fun (u : SC) t => aW (dC, dI) (tM k) Ad (wM r k u.1 u.2) t) Ad) ([.ref (r 0), .int rb, .int pc, .int fr, .int tt, .int pr] : List Value).toArray s 0 0 Ad) (F0 m 204 ls []) := by
                          intro n204
                          induction n204 with
                          | zero => intro x7 ls hlp; exact (hlp.z).elim
                          | succ n204 ih204 =>
                            intro x7 ls hlp204 hv hl
                            rw [f_Mo_ask_L204] at hv
                            refine lv_iload hx hb d_Mo_ask_204 (lv_at hl 7 rfl) ?_
                            refine lv_iload hx hb d_Mo_ask_206 (lv_at hl 6 rfl) ?_
                            refine lv_icmp_ge (tgt := 258) hx hb d_Mo_ask_208 (by decide) (fun c_12 => ?_) (fun c_12 => ?_)
                            · have hv := hv.trans (if_pos c_12)
                              refine lv_iconst (v := 1) hx hb d_Mo_ask_258 (by decide) ?_
                              refine lv_istore (lv' := [(7, .int 1), (0, .ref (r 0)), (1, .int rb), (2, .int pc), (3, .int fr), (4, .int tt), (5, .int pr), (6, .int ((F 4) + 1))]) hx hb d_Mo_ask_259 hl (by decide) rfl (fun ls hl => ?_)
                              have loop261 : ∀ (n261 : Nat) (x7 : Int32) (B : Nat → Nat → Int32) (H : Heap) (locs : List Loc) (ls : Array Slot), LC ((F 4) + 1) x7 n261 → f_Mo_ask F A rb pc fr tt pr = f_Mo_ask_L261 F A rb pc fr tt pr n261 B x7 → va_P (dC, dI) classes (wM r k (uF (uF F 0 0) 0 0) B) H → va_D Ad (wM r k (uF (uF F 0 0) 0 0) B) → va_S Ad s.heap H locs → lv_has ls 8 [(0, .ref (r 0)), (1, .int rb), (2, .int pc), (3, .int fr), (4, .int tt), (5, .int pr), (6, .int ((F 4) + 1)), (7, .int x7)] → W p l e (headSpec w_Mo_ask ({ frames := 2, cells := 0, slots := 0, locals := 44 })).room s m ([.ref (r 0), .int rb, .int pc, .int fr, .int tt, .int pr] : List Value).toArray below meth c H locs 0 0 (MQ below (va_Qi (fun v (u : SC) => (v, u) = f_Mo_ask F A rb pc fr tt pr) (fun (u : SC) t => aW (dC, dI) (tM k) Ad (wM r k u.1 u.2) t) Ad) ([.ref (r 0), .int rb, .int pc, .int fr, .int tt, .int pr] : List Value).toArray s 0 0 Ad) (F0 m 261 ls []) := by
                                intro n261
                                induction n261 with
                                | zero => intro x7 B H locs ls hlp; exact (hlp.z).elim
                                | succ n261 ih261 =>
                                  intro x7 B H locs ls hlp261 hv hP hD hS hl
                                  rw [f_Mo_ask_L261] at hv
                                  refine lv_iload hx hb d_Mo_ask_261 (lv_at hl 7 rfl) ?_
                                  refine lv_iload hx hb d_Mo_ask_263 (lv_at hl 6 rfl) ?_
                                  refine lv_icmp_ge (tgt := 293) hx hb d_Mo_ask_265 (by decide) (fun c_13 => ?_) (fun c_13 => ?_)
                                  · have hv := hv.trans (if_pos c_13)
                                    refine lv_aload_n hx hb d_Mo_ask_293 rfl (lv_at hl 0 rfl) ?_
                                    refine va_get (D := (dC, dI)) (ci := 3) (v := .ref (r 14)) (C := R_Mo) (T := F_Mo) (N := 19) hx hb hW i_Mo hown hK hP 0 rfl rfl 18 (by decide) (hW _ k_216) (fun _ h9 => h9) rfl d_Mo_ask_294 ?_
                                    refine lv_iload hx hb d_Mo_ask_297 (lv_at hl 6 rfl) ?_
                                    refine lv_iconst (v := 0) hx hb d_Mo_ask_299 (by decide) ?_
                                    refine va_iast hx hb hK hP hD hS 14 13 rfl rfl (mxM hI c_9) d_Mo_ask_300 (fun H locs hP hD hS => ?_)
                                    have hP := pMA_13 hP
                                    have hD := dMA_13 hD
                                    generalize hAg7 : (uA B 13 (upd (B 13) ((F 4) + 1).toNatClampNeg 0)) = A7_ at hP hD hv
                                    refine lv_aload_n hx hb d_Mo_ask_301 rfl (lv_at hl 0 rfl) ?_
                                    refine lv_iload hx hb d_Mo_ask_302 (lv_at hl 6 rfl) ?_
                                    refine va_put (D := (dC, dI)) (ci := 3) (v := .int ((F 4) + 1)) (ty := .int) (C := R_Mo) (T := F_Mo) (N := 19) hx hb hW i_Mo t_Mo t_Mo_ok n_Mo hown hK hP hD hS 0 rfl rfl 12 (by decide) (hW _ k_196) (fun _ h9 => h9) rfl (by decide +kernel) rfl rfl (Nat.le_of_ble_eq_true rfl) d_Mo_ask_304 (fun H locs hP hD hS => ?_)
                                    have hP := pMF_4 hP
                                    have hD := dMF_4 hD
                                    refine lv_iload hx hb d_Mo_ask_307 (lv_at hl 6 rfl) ?_
                                    exact W.iret (v := (F 4) + 1) hx hb hr (fun t ht hW9 => ⟨⟨(F 4) + 1, ((uF (uF (uF F 0 0) 0 0) 4 ((F 4) + 1)), A7_), rfl, hv.symm, by rw [ht]; exact hP, va_K.moved hW9.alike hK, hD⟩, hS.F ht⟩) hS.2.2 d_Mo_ask_309
                                  · have hv := hv.trans (if_neg c_13)
                                    refine lv_aload_n hx hb d_Mo_ask_268 rfl (lv_at hl 0 rfl) ?_
                                    refine lv_iload hx hb d_Mo_ask_269 (lv_at hl 7 rfl) ?_
                                    refine lv_iload hx hb d_Mo_ask_271 (lv_at hl 6 rfl) ?_
                                    refine rdV ⟨hx, hb, hml, hown, hW⟩ (c_Mo_isRival l dC dI r k (uF (uF F 0 0) 0 0) B x7 ((F 4) + 1)  (LC.ix hlp261 c_13 (mxM1 hI)) (mxM hI c_9)) (cwV 2 hW (gIn k_236 k_237 k_238 k_193 k_239) rfl rfl rfl (by decide +kernel) ⟨Nat.le_of_ble_eq_true rfl, Nat.le_of_ble_eq_true rfl⟩) hK hP (va_recv hK hP (ci := 3) (q0 := 0) rfl rfl) rfl hl.1 rfl (Nat.le_of_ble_eq_true rfl) d_Mo_ask_273 ⟨Nat.zero_le _, Nat.zero_le _⟩ ?_
                                    refine lv_if_eq (tgt := 287) hx hb d_Mo_ask_276 (by decide) (fun c_14 => ?_) (fun c_14 => ?_)
                                    · have hv := hv.trans (if_pos c_14)
                                      refine lv_iinc (v := x7 + 1) (lv' := [(7, .int (x7 + 1)), (0, .ref (r 0)), (1, .int rb), (2, .int pc), (3, .int fr), (4, .int tt), (5, .int pr), (6, .int ((F 4) + 1))]) hx hb d_Mo_ask_287 hl (k := 7) rfl rfl (by decide) rfl (fun ls hl => ?_)
                                      refine lv_goto (tgt := 261) hx hb d_Mo_ask_290 (by decide) ?_
                                      exact ih261 (x7 + 1) B H locs ls (LC.s hlp261 c_13 (mxM1 hI)) hv hP hD hS (lv_sub hl [1, 2, 3, 4, 5, 6, 7, 0] rfl)
                                    · have hv := hv.trans (if_neg c_14)
                                      refine lv_aload_n hx hb d_Mo_ask_279 rfl (lv_at hl 0 rfl) ?_
                                      refine va_get (D := (dC, dI)) (ci := 3) (v := .ref (r 14)) (C := R_Mo) (T := F_Mo) (N := 19) hx hb hW i_Mo hown hK hP 0 rfl rfl 18 (by decide) (hW _ k_216) (fun _ h9 => h9) rfl d_Mo_ask_280 ?_
                                      refine lv_iload hx hb d_Mo_ask_283 (lv_at hl 7 rfl) ?_
                                      refine lv_iconst (v := 3) hx hb d_Mo_ask_285 (by decide) ?_
                                      refine va_iast hx hb hK hP hD hS 14 13 rfl rfl (LC.ix hlp261 c_13 (mxM1 hI)) d_Mo_ask_286 (fun H locs hP hD hS => ?_)
                                      have hP := pMA_13 hP
                                      have hD := dMA_13 hD
                                      generalize hAg8 : (uA B 13 (upd (B 13) x7.toNatClampNeg 3)) = A8_ at hP hD hv
                                      refine lv_iinc (v := x7 + 1) (lv' := [(7, .int (x7 + 1)), (0, .ref (r 0)), (1, .int rb), (2, .int pc), (3, .int fr), (4, .int tt), (5, .int pr), (6, .int ((F 4) + 1))]) hx hb d_Mo_ask_287 hl (k := 7) rfl rfl (by decide) rfl (fun ls hl => ?_)
                                      refine lv_goto (tgt := 261) hx hb d_Mo_ask_290 (by decide) ?_
                                      exact ih261 (x7 + 1) A8_ H locs ls (LC.s hlp261 c_13 (mxM1 hI)) hv hP hD hS (lv_sub hl [1, 2, 3, 4, 5, 6, 7, 0] rfl)
                              exact loop261 64 1 A6_ H locs ls (LC.i (mxM0 hI) (mxM1 hI)) hv hP hD hS (lv_sub hl [1, 2, 3, 4, 5, 6, 7, 0] rfl)
                            · have hv := hv.trans (if_neg c_12)
                              refine lv_aload_n hx hb d_Mo_ask_211 rfl (lv_at hl 0 rfl) ?_
                              refine lv_iload hx hb d_Mo_ask_212 (lv_at hl 7 rfl) ?_
                              refine lv_iload hx hb d_Mo_ask_214 (lv_at hl 6 rfl) ?_
                              refine rdV ⟨hx, hb, hml, hown, hW⟩ (c_Mo_isRival l dC dI r k (uF (uF F 0 0) 0 0) A6_ x7 ((F 4) + 1)  (LC.ix hlp204 c_12 (mxM1 hI)) (mxM hI c_9)) (cwV 2 hW (gIn k_236 k_237 k_238 k_193 k_239) rfl rfl rfl (by decide +kernel) ⟨Nat.le_of_ble_eq_true rfl, Nat.le_of_ble_eq_true rfl⟩) hK hP (va_recv hK hP (ci := 3) (q0 := 0) rfl rfl) rfl hl.1 rfl (Nat.le_of_ble_eq_true rfl) d_Mo_ask_216 ⟨Nat.zero_le _, Nat.zero_le _⟩ ?_
                              refine lv_if_eq (tgt := 252) hx hb d_Mo_ask_219 (by decide) (fun c_15 => ?_) (fun c_15 => ?_)
                              · have hv := hv.trans (if_pos c_15)
                                refine lv_iinc (v := x7 + 1) (lv' := [(7, .int (x7 + 1)), (0, .ref (r 0)), (1, .int rb), (2, .int pc), (3, .int fr), (4, .int tt), (5, .int pr), (6, .int ((F 4) + 1))]) hx hb d_Mo_ask_252 hl (k := 7) rfl rfl (by decide) rfl (fun ls hl => ?_)
                                refine lv_goto (tgt := 204) hx hb d_Mo_ask_255 (by decide) ?_
                                exact ih204 (x7 + 1) ls (LC.s hlp204 c_12 (mxM1 hI)) hv (lv_sub hl [1, 2, 3, 4, 5, 6, 7, 0] rfl)
                              · have hv := hv.trans (if_neg c_15)
                                refine lv_aload_n hx hb d_Mo_ask_222 rfl (lv_at hl 0 rfl) ?_
                                refine va_get (D := (dC, dI)) (ci := 3) (v := .ref (r 13)) (C := R_Mo) (T := F_Mo) (N := 19) hx hb hW i_Mo hown hK hP 0 rfl rfl 17 (by decide) (hW _ k_235) (fun _ h9 => h9) rfl d_Mo_ask_223 ?_
                                refine lv_iload hx hb d_Mo_ask_226 (lv_at hl 7 rfl) ?_
                                refine va_iald hx hb hK hP 13 12 rfl rfl (LC.ix hlp204 c_12 (mxM1 hI)) d_Mo_ask_228 ?_
                                refine lv_iload hx hb d_Mo_ask_229 (lv_at hl 5 rfl) ?_
                                refine lv_icmp_ge (tgt := 248) hx hb d_Mo_ask_231 (by decide) (fun c_16 => ?_) (fun c_16 => ?_)
                                · have hv := hv.trans (if_pos c_16)
                                  refine lv_iload hx hb d_Mo_ask_248 (lv_at hl 7 rfl) ?_
                                  refine lv_ineg hx hb d_Mo_ask_250 ?_
                                  exact W.iret (v := -x7) hx hb hr (fun t ht hW9 => ⟨⟨-x7, ((uF (uF F 0 0) 0 0), A6_), rfl, hv.symm, by rw [ht]; exact hP, va_K.moved hW9.alike hK, hD⟩, hS.F ht⟩) hS.2.2 d_Mo_ask_251
                                · have hv := hv.trans (if_neg c_16)
                                  refine lv_aload_n hx hb d_Mo_ask_234 rfl (lv_at hl 0 rfl) ?_
                                  refine va_get (D := (dC, dI)) (ci := 3) (v := .ref (r 11)) (C := R_Mo) (T := F_Mo) (N := 19) hx hb hW i_Mo hown hK hP 0 rfl rfl 15 (by decide) (hW _ k_214) (fun _ h9 => h9) rfl d_Mo_ask_235 ?_
                                  refine lv_iload hx hb d_Mo_ask_238 (lv_at hl 7 rfl) ?_
                                  refine va_iald hx hb hK hP 11 10 rfl rfl (LC.ix hlp204 c_12 (mxM1 hI)) d_Mo_ask_240 ?_
                                  refine lv_aload_n hx hb d_Mo_ask_241 rfl (lv_at hl 0 rfl) ?_
                                  refine va_get (D := (dC, dI)) (ci := 3) (v := .int (F 1)) (C := R_Mo) (T := F_Mo) (N := 19) hx hb hW i_Mo hown hK hP 0 rfl rfl 1 (by decide) (hW _ k_212) (fun _ h9 => h9) rfl d_Mo_ask_242 ?_
                                  refine lv_icmp_gt (tgt := 252) hx hb d_Mo_ask_245 (by decide) (fun c_17 => ?_) (fun c_17 => ?_)
                                  · have hv := hv.trans (if_pos c_17)
                                    refine lv_iinc (v := x7 + 1) (lv' := [(7, .int (x7 + 1)), (0, .ref (r 0)), (1, .int rb), (2, .int pc), (3, .int fr), (4, .int tt), (5, .int pr), (6, .int ((F 4) + 1))]) hx hb d_Mo_ask_252 hl (k := 7) rfl rfl (by decide) rfl (fun ls hl => ?_)
                                    refine lv_goto (tgt := 204) hx hb d_Mo_ask_255 (by decide) ?_
                                    exact ih204 (x7 + 1) ls (LC.s hlp204 c_12 (mxM1 hI)) hv (lv_sub hl [1, 2, 3, 4, 5, 6, 7, 0] rfl)
                                  · have hv := hv.trans (if_neg c_17)
                                    refine lv_iload hx hb d_Mo_ask_248 (lv_at hl 7 rfl) ?_
                                    refine lv_ineg hx hb d_Mo_ask_250 ?_
                                    exact W.iret (v := -x7) hx hb hr (fun t ht hW9 => ⟨⟨-x7, ((uF (uF F 0 0) 0 0), A6_), rfl, hv.symm, by rw [ht]; exact hP, va_K.moved hW9.alike hK, hD⟩, hS.F ht⟩) hS.2.2 d_Mo_ask_251
                        exact loop204 64 1 ls (LC.i (mxM0 hI) (mxM1 hI)) hv (lv_sub hl [2, 3, 4, 5, 6, 7, 1, 0] rfl)
                      · have hv := hv.trans (if_neg c_11)
                        refine lv_iconst (v := 0) hx hb d_Mo_ask_149 (by decide) ?_
                        exact W.iret (v := 0) hx hb hr (fun t ht hW9 => ⟨⟨0, ((uF (uF F 0 0) 0 0), A1_), rfl, hv.symm, by rw [ht]; exact hP, va_K.moved hW9.alike hK, hD⟩, hS.F ht⟩) hS.2.2 d_Mo_ask_150
                  · have hv := hv.trans (if_pos c_9)
                    refine lv_iconst (v := 4) hx hb d_Mo_ask_104 (by decide) ?_
                    refine lv_goto (tgt := 109) hx hb d_Mo_ask_105 (by decide) ?_
                    refine va_put (D := (dC, dI)) (ci := 3) (v := .int 4) (ty := .int) (C := R_Mo) (T := F_Mo) (N := 19) hx hb hW i_Mo t_Mo t_Mo_ok n_Mo hown hK hP hD hS 0 rfl rfl 0 (by decide) (hW _ k_189) (fun _ h9 => h9) rfl (by decide +kernel) rfl rfl (Nat.le_of_ble_eq_true rfl) d_Mo_ask_109 (fun H locs hP hD hS => ?_)
                    have hP := pMF_0 hP
                    have hD := dMF_0 hD
                    refine lv_aload_n hx hb d_Mo_ask_112 rfl (lv_at hl 0 rfl) ?_
                    refine va_get (D := (dC, dI)) (ci := 3) (v := .int 4) (C := R_Mo) (T := F_Mo) (N := 19) hx hb hW i_Mo hown hK hP 0 rfl rfl 0 (by decide) (hW _ k_189) (fun _ h9 => h9) rfl d_Mo_ask_113 ?_
                    refine lv_if_le (tgt := 121) hx hb d_Mo_ask_116 (by decide) (fun h9 => absurd h9 (by decide)) (fun _ => ?_)
                    refine lv_iconst (v := 0) hx hb d_Mo_ask_119 (by decide) ?_
                    exact W.iret (v := 0) hx hb hr (fun t ht hW9 => ⟨⟨0, ((uF (uF F 0 0) 0 4), A), rfl, hv.symm, by rw [ht]; exact hP, va_K.moved hW9.alike hK, hD⟩, hS.F ht⟩) hS.2.2 d_Mo_ask_120
                · have hv := hv.trans (if_neg c_8)
                  refine lv_iconst (v := 3) hx hb d_Mo_ask_91 (by decide) ?_
                  refine lv_goto (tgt := 109) hx hb d_Mo_ask_92 (by decide) ?_
                  refine va_put (D := (dC, dI)) (ci := 3) (v := .int 3) (ty := .int) (C := R_Mo) (T := F_Mo) (N := 19) hx hb hW i_Mo t_Mo t_Mo_ok n_Mo hown hK hP hD hS 0 rfl rfl 0 (by decide) (hW _ k_189) (fun _ h9 => h9) rfl (by decide +kernel) rfl rfl (Nat.le_of_ble_eq_true rfl) d_Mo_ask_109 (fun H locs hP hD hS => ?_)
                  have hP := pMF_0 hP
                  have hD := dMF_0 hD
                  refine lv_aload_n hx hb d_Mo_ask_112 rfl (lv_at hl 0 rfl) ?_
                  refine va_get (D := (dC, dI)) (ci := 3) (v := .int 3) (C := R_Mo) (T := F_Mo) (N := 19) hx hb hW i_Mo hown hK hP 0 rfl rfl 0 (by decide) (hW _ k_189) (fun _ h9 => h9) rfl d_Mo_ask_113 ?_
                  refine lv_if_le (tgt := 121) hx hb d_Mo_ask_116 (by decide) (fun h9 => absurd h9 (by decide)) (fun _ => ?_)
                  refine lv_iconst (v := 0) hx hb d_Mo_ask_119 (by decide) ?_
                  exact W.iret (v := 0) hx hb hr (fun t ht hW9 => ⟨⟨0, ((uF (uF F 0 0) 0 3), A), rfl, hv.symm, by rw [ht]; exact hP, va_K.moved hW9.alike hK, hD⟩, hS.F ht⟩) hS.2.2 d_Mo_ask_120
            · have hv := hv.trans (if_pos c_6)
              refine lv_iconst (v := 2) hx hb d_Mo_ask_58 (by decide) ?_
              refine lv_goto (tgt := 63) hx hb d_Mo_ask_59 (by decide) ?_
              refine va_put (D := (dC, dI)) (ci := 3) (v := .int 2) (ty := .int) (C := R_Mo) (T := F_Mo) (N := 19) hx hb hW i_Mo t_Mo t_Mo_ok n_Mo hown hK hP hD hS 0 rfl rfl 0 (by decide) (hW _ k_189) (fun _ h9 => h9) rfl (by decide +kernel) rfl rfl (Nat.le_of_ble_eq_true rfl) d_Mo_ask_63 (fun H locs hP hD hS => ?_)
              have hP := pMF_0 hP
              have hD := dMF_0 hD
              refine lv_aload_n hx hb d_Mo_ask_66 rfl (lv_at hl 0 rfl) ?_
              refine va_get (D := (dC, dI)) (ci := 3) (v := .int 2) (C := R_Mo) (T := F_Mo) (N := 19) hx hb hW i_Mo hown hK hP 0 rfl rfl 0 (by decide) (hW _ k_189) (fun _ h9 => h9) rfl d_Mo_ask_67 ?_
              refine lv_if_ne (tgt := 112) hx hb d_Mo_ask_70 (by decide) (fun _ => ?_) (fun h9 => absurd h9 (by decide))
              refine lv_aload_n hx hb d_Mo_ask_112 rfl (lv_at hl 0 rfl) ?_
              refine va_get (D := (dC, dI)) (ci := 3) (v := .int 2) (C := R_Mo) (T := F_Mo) (N := 19) hx hb hW i_Mo hown hK hP 0 rfl rfl 0 (by decide) (hW _ k_189) (fun _ h9 => h9) rfl d_Mo_ask_113 ?_
              refine lv_if_le (tgt := 121) hx hb d_Mo_ask_116 (by decide) (fun h9 => absurd h9 (by decide)) (fun _ => ?_)
              refine lv_iconst (v := 0) hx hb d_Mo_ask_119 (by decide) ?_
              exact W.iret (v := 0) hx hb hr (fun t ht hW9 => ⟨⟨0, ((uF F 0 2), A), rfl, hv.symm, by rw [ht]; exact hP, va_K.moved hW9.alike hK, hD⟩, hS.F ht⟩) hS.2.2 d_Mo_ask_120
    · have hv := hv.trans (if_pos c_2)
      refine lv_iconst (v := 1) hx hb d_Mo_ask_17 (by decide) ?_
      refine lv_goto (tgt := 63) hx hb d_Mo_ask_18 (by decide) ?_
      refine va_put (D := (dC, dI)) (ci := 3) (v := .int 1) (ty := .int) (C := R_Mo) (T := F_Mo) (N := 19) hx hb hW i_Mo t_Mo t_Mo_ok n_Mo hown hK hP hD hS 0 rfl rfl 0 (by decide) (hW _ k_189) (fun _ h9 => h9) rfl (by decide +kernel) rfl rfl (Nat.le_of_ble_eq_true rfl) d_Mo_ask_63 (fun H locs hP hD hS => ?_)
      have hP := pMF_0 hP
      have hD := dMF_0 hD
      refine lv_aload_n hx hb d_Mo_ask_66 rfl (lv_at hl 0 rfl) ?_
      refine va_get (D := (dC, dI)) (ci := 3) (v := .int 1) (C := R_Mo) (T := F_Mo) (N := 19) hx hb hW i_Mo hown hK hP 0 rfl rfl 0 (by decide) (hW _ k_189) (fun _ h9 => h9) rfl d_Mo_ask_67 ?_
      refine lv_if_ne (tgt := 112) hx hb d_Mo_ask_70 (by decide) (fun _ => ?_) (fun h9 => absurd h9 (by decide))
      refine lv_aload_n hx hb d_Mo_ask_112 rfl (lv_at hl 0 rfl) ?_
      refine va_get (D := (dC, dI)) (ci := 3) (v := .int 1) (C := R_Mo) (T := F_Mo) (N := 19) hx hb hW i_Mo hown hK hP 0 rfl rfl 0 (by decide) (hW _ k_189) (fun _ h9 => h9) rfl d_Mo_ask_113 ?_
      refine lv_if_le (tgt := 121) hx hb d_Mo_ask_116 (by decide) (fun h9 => absurd h9 (by decide)) (fun _ => ?_)
      refine lv_iconst (v := 0) hx hb d_Mo_ask_119 (by decide) ?_
      exact W.iret (v := 0) hx hb hr (fun t ht hW9 => ⟨⟨0, ((uF F 0 1), A), rfl, hv.symm, by rw [ht]; exact hP, va_K.moved hW9.alike hK, hD⟩, hS.F ht⟩) hS.2.2 d_Mo_ask_120
def f_Mo_liveOf_L4 (F : Nat → Int32) (A : Nat → Nat → Int32) (rb : Int32) : Nat → Int32 → Int32 → Int32
  | 0, _, _ => 0
  | n4 + 1, x2, x3 => if F 4 < x3 then x2 else (if A 8 x3.toNatClampNeg = rb then (if A 13 x3.toNatClampNeg = 0 then (f_Mo_liveOf_L4 F A rb n4 (x2 + 1) (x3 + 1)) else (f_Mo_liveOf_L4 F A rb n4 (x2 + 0) (x3 + 1))) else (f_Mo_liveOf_L4 F A rb n4 (x2 + 0) (x3 + 1)))
def f_Mo_liveOf (F : Nat → Int32) (A : Nat → Nat → Int32) (rb : Int32) : Int32 := f_Mo_liveOf_L4 F A rb 64 0 1
set_option maxHeartbeats 4000000 in
set_option maxRecDepth 100000 in
theorem c_Mo_liveOf (l : Launch) (dC : Nat → ClassId) (dI : Nat → Nat → Nat) (r : Nat → Nat) (k : Nat → ClassId) (F : Nat → Int32) (A : Nat → Nat → Int32) (rb : Int32) (hI : SI F) : Met l y_Mo_liveOf w_Mo_liveOf ({ frames := 0, cells := 0, slots := 0, locals := 0 }) (va_Pc [.ref (r 0), .int rb] (RO (dC, dI) (wM r k F A) (tM k))) (vp_Si (fun v => v = f_Mo_liveOf F A rb)) 0 0 (fun _ => False) := by
  refine Met.ofW (cc := b_Mo_liveOf) (maxL := 4) (ret := (some .int)) (by decide) rfl ?_
  intro p e s m args below meth c s₁ B hml hv0
  obtain ⟨rfl, hP, hK⟩ := hv0
  have hx := B.exec
  have hb := B.bytes
  have hr := B.returns
  have hts := atoms_spec (ws := w_Mo_liveOf) B.pre
  have hW : ∀ w ∈ WALL, w.before ([.ref (r 0), .int rb] : List Value).toArray s = true := fun w h => hts w (List.mem_cons_of_mem _ h)
  have hown : s.vm.findClass R_Mo = some m.cls := findClass_of_methodNamed B.named
  have hlocks := B.notSynchronized
  have hl := lv_entry ([.ref (r 0), .int rb]) (n := 4) (Nat.le_of_ble_eq_true rfl)
  rw [lg_entry_eq]
  generalize (lg_sl ([.ref (r 0), .int rb]) ++ List.replicate (4 - (lg_sl ([.ref (r 0), .int rb])).length) Slot.unset).toArray = ls at hl ⊢
  have hl : lv_has ls 4 [(0, .ref (r 0)), (1, .int rb)] := hl
  obtain ⟨⟨hp0, hp1⟩, ⟨hr0, hr1⟩, hg0, hg1⟩ := id hI; have hr2 : (F 3).toInt ≤ 60 := Int.le_trans hr1 (by decide); have hp2 : (F 2).toInt ≤ 60 := Int.le_trans hp1 (by decide)
  have hv := f_Mo_liveOf.eq_1 F A rb
  refine lv_iconst (v := 0) hx hb d_Mo_liveOf_0 (by decide) ?_
  refine lv_istore_n (lv' := [(2, .int 0), (0, .ref (r 0)), (1, .int rb)]) hx hb d_Mo_liveOf_1 rfl hl (by decide) rfl (fun ls hl => ?_)
  refine lv_iconst (v := 1) hx hb d_Mo_liveOf_2 (by decide) ?_
  refine lv_istore_n (lv' := [(3, .int 1), (2, .int 0), (0, .ref (r 0)), (1, .int rb)]) hx hb d_Mo_liveOf_3 rfl hl (by decide) rfl (fun ls hl => ?_)
  have loop4 : ∀ (n4 : Nat) (x2 : Int32) (x3 : Int32) (ls : Array Slot), LA (F 4) x3 n4 → f_Mo_liveOf F A rb = f_Mo_liveOf_L4 F A rb n4 x2 x3 → lv_has ls 4 [(0, .ref (r 0)), (1, .int rb), (2, .int x2), (3, .int x3)] → W p l e (headSpec w_Mo_liveOf ({ frames := 0, cells := 0, slots := 0, locals := 0 })).room s m ([.ref (r 0), .int rb] : List Value).toArray below meth c s.heap [] 0 0 (MQ below (vp_Si (fun v => v = f_Mo_liveOf F A rb)) ([.ref (r 0), .int rb] : List Value).toArray s 0 0 (fun _ => False)) (F0 m 4 ls []) := by
    intro n4
    induction n4 with
    | zero => intro x2 x3 ls hlp; exact (hlp.z).elim
    | succ n4 ih4 =>
      intro x2 x3 ls hlp4 hv hl
      rw [f_Mo_liveOf_L4] at hv
      refine lv_iload_n hx hb d_Mo_liveOf_4 rfl (lv_at hl 3 rfl) ?_
      refine lv_aload_n hx hb d_Mo_liveOf_5 rfl (lv_at hl 0 rfl) ?_
      refine va_get (D := (dC, dI)) (ci := 3) (v := .int (F 4)) (C := R_Mo) (T := F_Mo) (N := 19) hx hb hW i_Mo hown hK hP 0 rfl rfl 12 (by decide) (hW _ k_196) (fun _ h9 => h9) rfl d_Mo_liveOf_6 ?_
      refine lv_icmp_gt (tgt := 45) hx hb d_Mo_liveOf_9 (by decide) (fun c_1 => ?_) (fun c_1 => ?_)
      · have hv := hv.trans (if_pos c_1)
        refine lv_iload_n hx hb d_Mo_liveOf_45 rfl (lv_at hl 2 rfl) ?_
        exact W.iret (v := x2) hx hb hr (fun t ht hW9 => ⟨x2, rfl, hv.symm, ht⟩) (fun q hq => nomatch hq) d_Mo_liveOf_46
      · have hv := hv.trans (if_neg c_1)
        refine lv_iload_n hx hb d_Mo_liveOf_12 rfl (lv_at hl 2 rfl) ?_
        refine lv_aload_n hx hb d_Mo_liveOf_13 rfl (lv_at hl 0 rfl) ?_
        refine va_get (D := (dC, dI)) (ci := 3) (v := .ref (r 9)) (C := R_Mo) (T := F_Mo) (N := 19) hx hb hW i_Mo hown hK hP 0 rfl rfl 13 (by decide) (hW _ k_217) (fun _ h9 => h9) rfl d_Mo_liveOf_14 ?_
        refine lv_iload_n hx hb d_Mo_liveOf_17 rfl (lv_at hl 3 rfl) ?_
        refine va_iald hx hb hK hP 9 8 rfl rfl (LA.ix hlp4 c_1 hg1) d_Mo_liveOf_18 ?_
        refine lv_iload_n hx hb d_Mo_liveOf_19 rfl (lv_at hl 1 rfl) ?_
        refine lv_icmp_ne (tgt := 36) hx hb d_Mo_liveOf_20 (by decide) (fun c_2 => ?_) (fun c_2 => ?_)
        · have hv := hv.trans (if_neg c_2)
          refine lv_iconst (v := 0) hx hb d_Mo_liveOf_36 (by decide) ?_
          refine lv_iadd hx hb d_Mo_liveOf_37 ?_
          refine lv_istore_n (lv' := [(2, .int (x2 + 0)), (0, .ref (r 0)), (1, .int rb), (3, .int x3)]) hx hb d_Mo_liveOf_38 rfl hl (by decide) rfl (fun ls hl => ?_)
          refine lv_iinc (v := x3 + 1) (lv' := [(3, .int (x3 + 1)), (2, .int (x2 + 0)), (0, .ref (r 0)), (1, .int rb)]) hx hb d_Mo_liveOf_39 hl (k := 3) rfl rfl (by decide) rfl (fun ls hl => ?_)
          refine lv_goto (tgt := 4) hx hb d_Mo_liveOf_42 (by decide) ?_
          exact ih4 (x2 + 0) (x3 + 1) ls (LA.s hlp4 c_1 hg1) hv (lv_sub hl [2, 3, 1, 0] rfl)
        · have hv := hv.trans (if_pos c_2)
          refine lv_aload_n hx hb d_Mo_liveOf_23 rfl (lv_at hl 0 rfl) ?_
          refine va_get (D := (dC, dI)) (ci := 3) (v := .ref (r 14)) (C := R_Mo) (T := F_Mo) (N := 19) hx hb hW i_Mo hown hK hP 0 rfl rfl 18 (by decide) (hW _ k_216) (fun _ h9 => h9) rfl d_Mo_liveOf_24 ?_
          refine lv_iload_n hx hb d_Mo_liveOf_27 rfl (lv_at hl 3 rfl) ?_
          refine va_iald hx hb hK hP 14 13 rfl rfl (LA.ix hlp4 c_1 hg1) d_Mo_liveOf_28 ?_
          refine lv_if_ne (tgt := 36) hx hb d_Mo_liveOf_29 (by decide) (fun c_3 => ?_) (fun c_3 => ?_)
          · have hv := hv.trans (if_neg c_3)
            refine lv_iconst (v := 0) hx hb d_Mo_liveOf_36 (by decide) ?_
            refine lv_iadd hx hb d_Mo_liveOf_37 ?_
            refine lv_istore_n (lv' := [(2, .int (x2 + 0)), (0, .ref (r 0)), (1, .int rb), (3, .int x3)]) hx hb d_Mo_liveOf_38 rfl hl (by decide) rfl (fun ls hl => ?_)
            refine lv_iinc (v := x3 + 1) (lv' := [(3, .int (x3 + 1)), (2, .int (x2 + 0)), (0, .ref (r 0)), (1, .int rb)]) hx hb d_Mo_liveOf_39 hl (k := 3) rfl rfl (by decide) rfl (fun ls hl => ?_)
            refine lv_goto (tgt := 4) hx hb d_Mo_liveOf_42 (by decide) ?_
            exact ih4 (x2 + 0) (x3 + 1) ls (LA.s hlp4 c_1 hg1) hv (lv_sub hl [2, 3, 1, 0] rfl)
          · have hv := hv.trans (if_pos c_3)
            refine lv_iconst (v := 1) hx hb d_Mo_liveOf_32 (by decide) ?_
            refine lv_goto (tgt := 37) hx hb d_Mo_liveOf_33 (by decide) ?_
            refine lv_iadd hx hb d_Mo_liveOf_37 ?_
            refine lv_istore_n (lv' := [(2, .int (x2 + 1)), (0, .ref (r 0)), (1, .int rb), (3, .int x3)]) hx hb d_Mo_liveOf_38 rfl hl (by decide) rfl (fun ls hl => ?_)
            refine lv_iinc (v := x3 + 1) (lv' := [(3, .int (x3 + 1)), (2, .int (x2 + 1)), (0, .ref (r 0)), (1, .int rb)]) hx hb d_Mo_liveOf_39 hl (k := 3) rfl rfl (by decide) rfl (fun ls hl => ?_)
            refine lv_goto (tgt := 4) hx hb d_Mo_liveOf_42 (by decide) ?_
            exact ih4 (x2 + 1) (x3 + 1) ls (LA.s hlp4 c_1 hg1) hv (lv_sub hl [2, 3, 1, 0] rfl)
  exact loop4 64 0 1 ls (LA.i hg0 hg1) hv (lv_sub hl [2, 3, 1, 0] rfl)
def f_Mo_free (F : Nat → Int32) (A : Nat → Nat → Int32) (gr : Int32) : Int32 × SC := if f_Mo_isGrant F A gr = 0 then (0, (uF F 0 1), A) else (if A 13 gr.toNatClampNeg = 0 then (f_Mo_liveOf (uF (uF F 0 0) 0 0) (uA A 13 (upd (A 13) gr.toNatClampNeg 2)) ((uA A 13 (upd (A 13) gr.toNatClampNeg 2)) 8 gr.toNatClampNeg), (uF (uF F 0 0) 0 0), (uA A 13 (upd (A 13) gr.toNatClampNeg 2))) else (0, (uF (uF F 0 0) 0 2), A))
set_option maxHeartbeats 4000000 in
set_option maxRecDepth 100000 in
theorem c_Mo_free (l : Launch) (dC : Nat → ClassId) (dI : Nat → Nat → Nat) (r : Nat → Nat) (k : Nat → ClassId) (F : Nat → Int32) (A : Nat → Nat → Int32) (sz : Nat) (gr : Int32) (hI : SI F) : Met l y_Mo_free w_Mo_free ({ frames := 2, cells := 0, slots := 0, locals := 43 }) (va_Pc [.ref (r 0), .int gr] (SP (dC, dI) (wM r k F A) (tM k) sz)) (va_Qi (fun v (u : SC) => (v, u) = f_Mo_free F A gr) (fun (u : SC) t => aW (dC, dI) (tM k) (va_A (wM r k F A) sz) (wM r k u.1 u.2) t) (va_A (wM r k F A) sz)) 0 0 (va_A (wM r k F A) sz) := by
  refine Met.ofW (cc := b_Mo_free) (maxL := 2) (ret := (some .int)) (by decide) rfl ?_
  intro p e s m args below meth c s₁ B hml hv0
  obtain ⟨rfl, hsz, hP, hK, hD0⟩ := hv0
  have hx := B.exec
  have hb := B.bytes
  have hr := B.returns
  have hts := atoms_spec (ws := w_Mo_free) B.pre
  have hW : ∀ w ∈ WALL, w.before ([.ref (r 0), .int gr] : List Value).toArray s = true := fun w h => hts w (List.mem_cons_of_mem _ h)
  have hown : s.vm.findClass R_Mo = some m.cls := findClass_of_methodNamed B.named
  have hlocks := B.notSynchronized
  subst hsz
  have hD := hD0.self (sz := s.heap.size)
  generalize hAe : va_A (wM r k F A) s.heap.size = Ad at hD ⊢
  have hA : ∀ q : Nat, s.heap.size ≤ q → Ad q := fun q h => by rw [← hAe]; exact Or.inr h
  have hS : va_S Ad s.heap s.heap [] := va_S.rf
  have hl := lv_entry ([.ref (r 0), .int gr]) (n := 2) (Nat.le_of_ble_eq_true rfl)
  rw [lg_entry_eq]
  generalize (lg_sl ([.ref (r 0), .int gr]) ++ List.replicate (2 - (lg_sl ([.ref (r 0), .int gr])).length) Slot.unset).toArray = ls at hl ⊢
  have hl : lv_has ls 2 [(0, .ref (r 0)), (1, .int gr)] := hl
  obtain ⟨⟨hp0, hp1⟩, ⟨hr0, hr1⟩, hg0, hg1⟩ := id hI; have hr2 : (F 3).toInt ≤ 60 := Int.le_trans hr1 (by decide); have hp2 : (F 2).toInt ≤ 60 := Int.le_trans hp1 (by decide)
  have hv := f_Mo_free.eq_1 F A gr
  refine lv_aload_n hx hb d_Mo_free_0 rfl (lv_at hl 0 rfl) ?_
  refine lv_aload_n hx hb d_Mo_free_1 rfl (lv_at hl 0 rfl) ?_
  refine lv_iload_n hx hb d_Mo_free_2 rfl (lv_at hl 1 rfl) ?_
  refine rdV ⟨hx, hb, hml, hown, hW⟩ (c_Mo_isGrant l dC dI r k F A gr  ) (cwV 1 hW (gIn k_240 k_241 k_242 k_193 k_243) rfl rfl rfl (by decide +kernel) ⟨Nat.le_of_ble_eq_true rfl, Nat.le_of_ble_eq_true rfl⟩) hK hP (va_recv hK hP (ci := 3) (q0 := 0) rfl rfl) rfl hl.1 rfl (Nat.le_of_ble_eq_true rfl) d_Mo_free_3 ⟨Nat.zero_le _, Nat.zero_le _⟩ ?_
  refine lv_if_ne (tgt := 13) hx hb d_Mo_free_6 (by decide) (fun c_1 => ?_) (fun c_1 => ?_)
  · have hv := hv.trans (if_neg c_1)
    refine lv_iconst (v := 0) hx hb d_Mo_free_13 (by decide) ?_
    refine va_put (D := (dC, dI)) (ci := 3) (v := .int 0) (ty := .int) (C := R_Mo) (T := F_Mo) (N := 19) hx hb hW i_Mo t_Mo t_Mo_ok n_Mo hown hK hP hD hS 0 rfl rfl 0 (by decide) (hW _ k_189) (fun _ h9 => h9) rfl (by decide +kernel) rfl rfl (Nat.le_of_ble_eq_true rfl) d_Mo_free_14 (fun H locs hP hD hS => ?_)
    have hP := pMF_0 hP
    have hD := dMF_0 hD
    refine lv_aload_n hx hb d_Mo_free_17 rfl (lv_at hl 0 rfl) ?_
    refine va_get (D := (dC, dI)) (ci := 3) (v := .int 0) (C := R_Mo) (T := F_Mo) (N := 19) hx hb hW i_Mo hown hK hP 0 rfl rfl 0 (by decide) (hW _ k_189) (fun _ h9 => h9) rfl d_Mo_free_18 ?_
    refine lv_if_ne (tgt := 42) hx hb d_Mo_free_21 (by decide) (fun h9 => absurd h9 (by decide)) (fun _ => ?_)
    refine lv_aload_n hx hb d_Mo_free_24 rfl (lv_at hl 0 rfl) ?_
    refine lv_aload_n hx hb d_Mo_free_25 rfl (lv_at hl 0 rfl) ?_
    refine va_get (D := (dC, dI)) (ci := 3) (v := .ref (r 14)) (C := R_Mo) (T := F_Mo) (N := 19) hx hb hW i_Mo hown hK hP 0 rfl rfl 18 (by decide) (hW _ k_216) (fun _ h9 => h9) rfl d_Mo_free_26 ?_
    refine lv_iload_n hx hb d_Mo_free_29 rfl (lv_at hl 1 rfl) ?_
    refine va_iald hx hb hK hP 14 13 rfl rfl (mxG hI c_1) d_Mo_free_30 ?_
    refine lv_if_eq (tgt := 38) hx hb d_Mo_free_31 (by decide) (fun c_2 => ?_) (fun c_2 => ?_)
    · have hv := hv.trans (if_pos c_2)
      refine lv_iconst (v := 0) hx hb d_Mo_free_38 (by decide) ?_
      refine va_put (D := (dC, dI)) (ci := 3) (v := .int 0) (ty := .int) (C := R_Mo) (T := F_Mo) (N := 19) hx hb hW i_Mo t_Mo t_Mo_ok n_Mo hown hK hP hD hS 0 rfl rfl 0 (by decide) (hW _ k_189) (fun _ h9 => h9) rfl (by decide +kernel) rfl rfl (Nat.le_of_ble_eq_true rfl) d_Mo_free_39 (fun H locs hP hD hS => ?_)
      have hP := pMF_0 hP
      have hD := dMF_0 hD
      refine lv_aload_n hx hb d_Mo_free_42 rfl (lv_at hl 0 rfl) ?_
      refine va_get (D := (dC, dI)) (ci := 3) (v := .int 0) (C := R_Mo) (T := F_Mo) (N := 19) hx hb hW i_Mo hown hK hP 0 rfl rfl 0 (by decide) (hW _ k_189) (fun _ h9 => h9) rfl d_Mo_free_43 ?_
      refine lv_if_le (tgt := 51) hx hb d_Mo_free_46 (by decide) (fun _ => ?_) (fun h9 => absurd h9 (by decide))
      refine lv_aload_n hx hb d_Mo_free_51 rfl (lv_at hl 0 rfl) ?_
      refine va_get (D := (dC, dI)) (ci := 3) (v := .ref (r 14)) (C := R_Mo) (T := F_Mo) (N := 19) hx hb hW i_Mo hown hK hP 0 rfl rfl 18 (by decide) (hW _ k_216) (fun _ h9 => h9) rfl d_Mo_free_52 ?_
      refine lv_iload_n hx hb d_Mo_free_55 rfl (lv_at hl 1 rfl) ?_
      refine lv_iconst (v := 2) hx hb d_Mo_free_56 (by decide) ?_
      refine va_iast hx hb hK hP hD hS 14 13 rfl rfl (mxG hI c_1) d_Mo_free_57 (fun H locs hP hD hS => ?_)
      have hP := pMA_13 hP
      have hD := dMA_13 hD
      generalize hAg1 : (uA A 13 (upd (A 13) gr.toNatClampNeg 2)) = A1_ at hP hD hv
      refine lv_aload_n hx hb d_Mo_free_58 rfl (lv_at hl 0 rfl) ?_
      refine lv_aload_n hx hb d_Mo_free_59 rfl (lv_at hl 0 rfl) ?_
      refine va_get (D := (dC, dI)) (ci := 3) (v := .ref (r 9)) (C := R_Mo) (T := F_Mo) (N := 19) hx hb hW i_Mo hown hK hP 0 rfl rfl 13 (by decide) (hW _ k_217) (fun _ h9 => h9) rfl d_Mo_free_60 ?_
      refine lv_iload_n hx hb d_Mo_free_63 rfl (lv_at hl 1 rfl) ?_
      refine va_iald hx hb hK hP 9 8 rfl rfl (mxG hI c_1) d_Mo_free_64 ?_
      refine rdV ⟨hx, hb, hml, hown, hW⟩ (c_Mo_liveOf l dC dI r k (uF (uF F 0 0) 0 0) A1_ (A1_ 8 gr.toNatClampNeg) hI ) (cwV 1 hW (gIn k_244 k_245 k_246 k_193 k_247) rfl rfl rfl (by decide +kernel) ⟨Nat.le_of_ble_eq_true rfl, Nat.le_of_ble_eq_true rfl⟩) hK hP (va_recv hK hP (ci := 3) (q0 := 0) rfl rfl) rfl hl.1 rfl (Nat.le_of_ble_eq_true rfl) d_Mo_free_65 ⟨Nat.zero_le _, Nat.zero_le _⟩ ?_
      exact W.iret (v := f_Mo_liveOf (uF (uF F 0 0) 0 0) A1_ (A1_ 8 gr.toNatClampNeg)) hx hb hr (fun t ht hW9 => ⟨⟨f_Mo_liveOf (uF (uF F 0 0) 0 0) A1_ (A1_ 8 gr.toNatClampNeg), ((uF (uF F 0 0) 0 0), A1_), rfl, hv.symm, by rw [ht]; exact hP, va_K.moved hW9.alike hK, hD⟩, hS.F ht⟩) hS.2.2 d_Mo_free_68
    · have hv := hv.trans (if_neg c_2)
      refine lv_iconst (v := 2) hx hb d_Mo_free_34 (by decide) ?_
      refine lv_goto (tgt := 39) hx hb d_Mo_free_35 (by decide) ?_
      refine va_put (D := (dC, dI)) (ci := 3) (v := .int 2) (ty := .int) (C := R_Mo) (T := F_Mo) (N := 19) hx hb hW i_Mo t_Mo t_Mo_ok n_Mo hown hK hP hD hS 0 rfl rfl 0 (by decide) (hW _ k_189) (fun _ h9 => h9) rfl (by decide +kernel) rfl rfl (Nat.le_of_ble_eq_true rfl) d_Mo_free_39 (fun H locs hP hD hS => ?_)
      have hP := pMF_0 hP
      have hD := dMF_0 hD
      refine lv_aload_n hx hb d_Mo_free_42 rfl (lv_at hl 0 rfl) ?_
      refine va_get (D := (dC, dI)) (ci := 3) (v := .int 2) (C := R_Mo) (T := F_Mo) (N := 19) hx hb hW i_Mo hown hK hP 0 rfl rfl 0 (by decide) (hW _ k_189) (fun _ h9 => h9) rfl d_Mo_free_43 ?_
      refine lv_if_le (tgt := 51) hx hb d_Mo_free_46 (by decide) (fun h9 => absurd h9 (by decide)) (fun _ => ?_)
      refine lv_iconst (v := 0) hx hb d_Mo_free_49 (by decide) ?_
      exact W.iret (v := 0) hx hb hr (fun t ht hW9 => ⟨⟨0, ((uF (uF F 0 0) 0 2), A), rfl, hv.symm, by rw [ht]; exact hP, va_K.moved hW9.alike hK, hD⟩, hS.F ht⟩) hS.2.2 d_Mo_free_50
  · have hv := hv.trans (if_pos c_1)
    refine lv_iconst (v := 1) hx hb d_Mo_free_9 (by decide) ?_
    refine lv_goto (tgt := 14) hx hb d_Mo_free_10 (by decide) ?_
    refine va_put (D := (dC, dI)) (ci := 3) (v := .int 1) (ty := .int) (C := R_Mo) (T := F_Mo) (N := 19) hx hb hW i_Mo t_Mo t_Mo_ok n_Mo hown hK hP hD hS 0 rfl rfl 0 (by decide) (hW _ k_189) (fun _ h9 => h9) rfl (by decide +kernel) rfl rfl (Nat.le_of_ble_eq_true rfl) d_Mo_free_14 (fun H locs hP hD hS => ?_)
    have hP := pMF_0 hP
    have hD := dMF_0 hD
    refine lv_aload_n hx hb d_Mo_free_17 rfl (lv_at hl 0 rfl) ?_
    refine va_get (D := (dC, dI)) (ci := 3) (v := .int 1) (C := R_Mo) (T := F_Mo) (N := 19) hx hb hW i_Mo hown hK hP 0 rfl rfl 0 (by decide) (hW _ k_189) (fun _ h9 => h9) rfl d_Mo_free_18 ?_
    refine lv_if_ne (tgt := 42) hx hb d_Mo_free_21 (by decide) (fun _ => ?_) (fun h9 => absurd h9 (by decide))
    refine lv_aload_n hx hb d_Mo_free_42 rfl (lv_at hl 0 rfl) ?_
    refine va_get (D := (dC, dI)) (ci := 3) (v := .int 1) (C := R_Mo) (T := F_Mo) (N := 19) hx hb hW i_Mo hown hK hP 0 rfl rfl 0 (by decide) (hW _ k_189) (fun _ h9 => h9) rfl d_Mo_free_43 ?_
    refine lv_if_le (tgt := 51) hx hb d_Mo_free_46 (by decide) (fun h9 => absurd h9 (by decide)) (fun _ => ?_)
    refine lv_iconst (v := 0) hx hb d_Mo_free_49 (by decide) ?_
    exact W.iret (v := 0) hx hb hr (fun t ht hW9 => ⟨⟨0, ((uF F 0 1), A), rfl, hv.symm, by rw [ht]; exact hP, va_K.moved hW9.alike hK, hD⟩, hS.F ht⟩) hS.2.2 d_Mo_free_50
