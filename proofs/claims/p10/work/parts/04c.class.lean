def f_Gr_takeFromOthers_L3 (F : Nat → Int32) (A : Nat → Nat → Int32) (rb pc fr tt : Int32) : Nat → (Nat → Nat → Int32) → Int32 → Int32 × SC
  | 0, _, _ => (0, F, A)
  | n3 + 1, B, x5 => if F 3 < x5 then (0, F, B) else (if f_Gr_isRival F B x5 rb pc fr tt = 0 then (f_Gr_takeFromOthers_L3 F A rb pc fr tt n3 B (x5 + 1)) else (f_Gr_takeFromOthers_L3 F A rb pc fr tt n3 (uA B 13 (upd (B 13) x5.toNatClampNeg 3)) (x5 + 1)))
def f_Gr_takeFromOthers (F : Nat → Int32) (A : Nat → Nat → Int32) (rb pc fr tt : Int32) : Int32 × SC := f_Gr_takeFromOthers_L3 F A rb pc fr tt 64 A 1
set_option maxHeartbeats 4000000 in
set_option maxRecDepth 100000 in
theorem c_Gr_takeFromOthers (l : Launch) (dC : Nat → ClassId) (dI : Nat → Nat → Nat) (r : Nat → Nat) (k : Nat → ClassId) (F : Nat → Int32) (A : Nat → Nat → Int32) (sz : Nat) (rb pc fr tt : Int32) (hI : CI F) : Met l y_Gr_takeFromOthers w_Gr_takeFromOthers ({ frames := 3, cells := 0, slots := 0, locals := 68 }) (va_Pc [.ref (r 2), .int rb, .int pc, .int fr, .int tt] (SP (dC, dI) (wC r k F A) (tC k) sz)) (va_Qv (fun u : SC => (0, u) = f_Gr_takeFromOthers F A rb pc fr tt) (fun (u : SC) t => aW (dC, dI) (tC k) (va_A (wC r k F A) sz) (wC r k u.1 u.2) t) (va_A (wC r k F A) sz)) 0 0 (va_A (wC r k F A) sz) := by
  refine Met.ofW (cc := b_Gr_takeFromOthers) (maxL := 6) (ret := none) (by decide) rfl ?_
  intro p e s m args below meth c s₁ B hml hv0
  obtain ⟨rfl, hsz, hP, hK, hD0⟩ := hv0
  have hx := B.exec
  have hb := B.bytes
  have hr := B.returns
  have hts := atoms_spec (ws := w_Gr_takeFromOthers) B.pre
  have hW : ∀ w ∈ WALL, w.before ([.ref (r 2), .int rb, .int pc, .int fr, .int tt] : List Value).toArray s = true := fun w h => hts w (List.mem_cons_of_mem _ h)
  have hown : s.vm.findClass R_Gr = some m.cls := findClass_of_methodNamed B.named
  have hlocks := B.notSynchronized
  subst hsz
  have hD := hD0.self (sz := s.heap.size)
  generalize hAe : va_A (wC r k F A) s.heap.size = Ad at hD ⊢
  have hA : ∀ q : Nat, s.heap.size ≤ q → Ad q := fun q h => by rw [← hAe]; exact Or.inr h
  have hS : va_S Ad s.heap s.heap [] := va_S.rf
  have hl := lv_entry ([.ref (r 2), .int rb, .int pc, .int fr, .int tt]) (n := 6) (Nat.le_of_ble_eq_true rfl)
  rw [lg_entry_eq]
  generalize (lg_sl ([.ref (r 2), .int rb, .int pc, .int fr, .int tt]) ++ List.replicate (6 - (lg_sl ([.ref (r 2), .int rb, .int pc, .int fr, .int tt])).length) Slot.unset).toArray = ls at hl ⊢
  have hl : lv_has ls 6 [(0, .ref (r 2)), (1, .int rb), (2, .int pc), (3, .int fr), (4, .int tt)] := hl
  obtain ⟨⟨hp0, hp1⟩, ⟨hr0, hr1⟩, hg0, hg1⟩ := id hI; have hr2 : (F 2).toInt ≤ 60 := Int.le_trans hr1 (by decide)
  have hv := f_Gr_takeFromOthers.eq_1 F A rb pc fr tt
  refine lv_iconst (v := 1) hx hb d_Gr_takeFromOthers_0 (by decide) ?_
  refine lv_istore (lv' := [(5, .int 1), (0, .ref (r 2)), (1, .int rb), (2, .int pc), (3, .int fr), (4, .int tt)]) hx hb d_Gr_takeFromOthers_1 hl (by decide) rfl (fun ls hl => ?_)
  have loop3 : ∀ (n3 : Nat) (x5 : Int32) (B : Nat → Nat → Int32) (H : Heap) (locs : List Loc) (ls : Array Slot), LA (F 3) x5 n3 → f_Gr_takeFromOthers F A rb pc fr tt = f_Gr_takeFromOthers_L3 F A rb pc fr tt n3 B x5 → va_P (dC, dI) classes (wC r k F B) H → va_D Ad (wC r k F B) → va_S Ad s.heap H locs → lv_has ls 6 [(0, .ref (r 2)), (1, .int rb), (2, .int pc), (3, .int fr), (4, .int tt), (5, .int x5)] → W p l e (headSpec w_Gr_takeFromOthers ({ frames := 3, cells := 0, slots := 0, locals := 68 })).room s m ([.ref (r 2), .int rb, .int pc, .int fr, .int tt] : List Value).toArray below meth c H locs 0 0 (MQ below (va_Qv (fun u : SC => (0, u) = f_Gr_takeFromOthers F A rb pc fr tt) (fun (u : SC) t => aW (dC, dI) (tC k) Ad (wC r k u.1 u.2) t) Ad) ([.ref (r 2), .int rb, .int pc, .int fr, .int tt] : List Value).toArray s 0 0 Ad) (F0 m 3 ls []) := by
    intro n3
    induction n3 with
    | zero => intro x5 B H locs ls hlp; exact (hlp.z).elim
    | succ n3 ih3 =>
      intro x5 B H locs ls hlp3 hv hP hD hS hl
      rw [f_Gr_takeFromOthers_L3] at hv
      refine lv_iload hx hb d_Gr_takeFromOthers_3 (lv_at hl 5 rfl) ?_
      refine lv_aload_n hx hb d_Gr_takeFromOthers_5 rfl (lv_at hl 0 rfl) ?_
      refine va_get (D := (dC, dI)) (ci := 2) (v := .int (F 3)) (C := R_Gr) (T := F_Gr) (N := 7) hx hb hW i_Gr hown hK hP 2 rfl rfl 0 (by decide) (hW _ k_74) (fun _ h9 => h9) rfl d_Gr_takeFromOthers_6 ?_
      refine lv_icmp_gt (tgt := 40) hx hb d_Gr_takeFromOthers_9 (by decide) (fun c_1 => ?_) (fun c_1 => ?_)
      · have hv := hv.trans (if_pos c_1)
        exact W.vret hx hb hr (fun t ht hW9 => ⟨⟨(F, B), rfl, hv.symm, by rw [ht]; exact hP, va_K.moved hW9.alike hK, hD⟩, hS.F ht⟩) hS.2.2 d_Gr_takeFromOthers_40
      · have hv := hv.trans (if_neg c_1)
        refine lv_aload_n hx hb d_Gr_takeFromOthers_12 rfl (lv_at hl 0 rfl) ?_
        refine lv_iload hx hb d_Gr_takeFromOthers_13 (lv_at hl 5 rfl) ?_
        refine lv_iload_n hx hb d_Gr_takeFromOthers_15 rfl (lv_at hl 1 rfl) ?_
        refine lv_iload_n hx hb d_Gr_takeFromOthers_16 rfl (lv_at hl 2 rfl) ?_
        refine lv_iload_n hx hb d_Gr_takeFromOthers_17 rfl (lv_at hl 3 rfl) ?_
        refine lv_iload hx hb d_Gr_takeFromOthers_18 (lv_at hl 4 rfl) ?_
        refine rdV ⟨hx, hb, hml, hown, hW⟩ (c_Gr_isRival l dC dI r k F B x5 rb pc fr tt hI (LA.ix hlp3 c_1 hg1)) (cwV 5 hW (gIn k_75 k_67 k_68 k_52 k_69) rfl rfl rfl (by decide +kernel) ⟨Nat.le_of_ble_eq_true rfl, Nat.le_of_ble_eq_true rfl⟩) hK hP (va_recv hK hP (ci := 2) (q0 := 2) rfl rfl) rfl hl.1 rfl (Nat.le_of_ble_eq_true rfl) d_Gr_takeFromOthers_20 ⟨Nat.zero_le _, Nat.zero_le _⟩ ?_
        refine lv_if_eq (tgt := 34) hx hb d_Gr_takeFromOthers_23 (by decide) (fun c_2 => ?_) (fun c_2 => ?_)
        · have hv := hv.trans (if_pos c_2)
          refine lv_iinc (v := x5 + 1) (lv' := [(5, .int (x5 + 1)), (0, .ref (r 2)), (1, .int rb), (2, .int pc), (3, .int fr), (4, .int tt)]) hx hb d_Gr_takeFromOthers_34 hl (k := 5) rfl rfl (by decide) rfl (fun ls hl => ?_)
          refine lv_goto (tgt := 3) hx hb d_Gr_takeFromOthers_37 (by decide) ?_
          exact ih3 (x5 + 1) B H locs ls (LA.s hlp3 c_1 hg1) hv hP hD hS (lv_sub hl [1, 2, 3, 4, 5, 0] rfl)
        · have hv := hv.trans (if_neg c_2)
          refine lv_aload_n hx hb d_Gr_takeFromOthers_26 rfl (lv_at hl 0 rfl) ?_
          refine va_get (D := (dC, dI)) (ci := 2) (v := .ref (r 16)) (C := R_Gr) (T := F_Gr) (N := 7) hx hb hW i_Gr hown hK hP 2 rfl rfl 6 (by decide) (hW _ k_48) (fun _ h9 => h9) rfl d_Gr_takeFromOthers_27 ?_
          refine lv_iload hx hb d_Gr_takeFromOthers_30 (lv_at hl 5 rfl) ?_
          refine lv_iconst (v := 3) hx hb d_Gr_takeFromOthers_32 (by decide) ?_
          refine va_iast hx hb hK hP hD hS 16 13 rfl rfl (LA.ix hlp3 c_1 hg1) d_Gr_takeFromOthers_33 (fun H locs hP hD hS => ?_)
          have hP := pCA_13 hP
          have hD := dCA_13 hD
          generalize hAg1 : (uA B 13 (upd (B 13) x5.toNatClampNeg 3)) = A1_ at hP hD hv
          refine lv_iinc (v := x5 + 1) (lv' := [(5, .int (x5 + 1)), (0, .ref (r 2)), (1, .int rb), (2, .int pc), (3, .int fr), (4, .int tt)]) hx hb d_Gr_takeFromOthers_34 hl (k := 5) rfl rfl (by decide) rfl (fun ls hl => ?_)
          refine lv_goto (tgt := 3) hx hb d_Gr_takeFromOthers_37 (by decide) ?_
          exact ih3 (x5 + 1) A1_ H locs ls (LA.s hlp3 c_1 hg1) hv hP hD hS (lv_sub hl [1, 2, 3, 4, 5, 0] rfl)
  exact loop3 64 1 A _ _ ls (LA.i hg0 hg1) hv hP hD hS (lv_sub hl [1, 2, 3, 4, 5, 0] rfl)
theorem kf_Gr_takeFromOthers_L (F : Nat → Int32) (A : Nat → Nat → Int32) (rb pc fr tt : Int32) : ∀ (n : Nat) (B : Nat → Nat → Int32) (i0 : Int32), (f_Gr_takeFromOthers_L3 F A rb pc fr tt n B i0).2.1 = F := by
  intro n
  induction n with
  | zero => intros; rfl
  | succ n ih =>
    intro B i0
    rw [f_Gr_takeFromOthers_L3]
    repeat' split
    all_goals first | rfl | exact ih _ _
theorem kf_Gr_takeFromOthers (F : Nat → Int32) (A : Nat → Nat → Int32) (rb pc fr tt : Int32) : (f_Gr_takeFromOthers F A rb pc fr tt).2.1 = F := kf_Gr_takeFromOthers_L F A rb pc fr tt 64 A 1
def f_Gr_add (F : Nat → Int32) (A : Nat → Nat → Int32) (rb pc fr tt pr : Int32) : Int32 × SC := ((F 3) + 1, (uF F 3 ((F 3) + 1)), (uA (uA (uA (uA (uA (uA A 8 (upd (A 8) ((F 3) + 1).toNatClampNeg rb)) 9 (upd ((uA A 8 (upd (A 8) ((F 3) + 1).toNatClampNeg rb)) 9) ((F 3) + 1).toNatClampNeg pc)) 10 (upd ((uA (uA A 8 (upd (A 8) ((F 3) + 1).toNatClampNeg rb)) 9 (upd ((uA A 8 (upd (A 8) ((F 3) + 1).toNatClampNeg rb)) 9) ((F 3) + 1).toNatClampNeg pc)) 10) ((F 3) + 1).toNatClampNeg fr)) 11 (upd ((uA (uA (uA A 8 (upd (A 8) ((F 3) + 1).toNatClampNeg rb)) 9 (upd ((uA A 8 (upd (A 8) ((F 3) + 1).toNatClampNeg rb)) 9) ((F 3) + 1).toNatClampNeg pc)) 10 (upd ((uA (uA A 8 (upd (A 8) ((F 3) + 1).toNatClampNeg rb)) 9 (upd ((uA A 8 (upd (A 8) ((F 3) + 1).toNatClampNeg rb)) 9) ((F 3) + 1).toNatClampNeg pc)) 10) ((F 3) + 1).toNatClampNeg fr)) 11) ((F 3) + 1).toNatClampNeg tt)) 12 (upd ((uA (uA (uA (uA A 8 (upd (A 8) ((F 3) + 1).toNatClampNeg rb)) 9 (upd ((uA A 8 (upd (A 8) ((F 3) + 1).toNatClampNeg rb)) 9) ((F 3) + 1).toNatClampNeg pc)) 10 (upd ((uA (uA A 8 (upd (A 8) ((F 3) + 1).toNatClampNeg rb)) 9 (upd ((uA A 8 (upd (A 8) ((F 3) + 1).toNatClampNeg rb)) 9) ((F 3) + 1).toNatClampNeg pc)) 10) ((F 3) + 1).toNatClampNeg fr)) 11 (upd ((uA (uA (uA A 8 (upd (A 8) ((F 3) + 1).toNatClampNeg rb)) 9 (upd ((uA A 8 (upd (A 8) ((F 3) + 1).toNatClampNeg rb)) 9) ((F 3) + 1).toNatClampNeg pc)) 10 (upd ((uA (uA A 8 (upd (A 8) ((F 3) + 1).toNatClampNeg rb)) 9 (upd ((uA A 8 (upd (A 8) ((F 3) + 1).toNatClampNeg rb)) 9) ((F 3) + 1).toNatClampNeg pc)) 10) ((F 3) + 1).toNatClampNeg fr)) 11) ((F 3) + 1).toNatClampNeg tt)) 12) ((F 3) + 1).toNatClampNeg pr)) 13 (upd ((uA (uA (uA (uA (uA A 8 (upd (A 8) ((F 3) + 1).toNatClampNeg rb)) 9 (upd ((uA A 8 (upd (A 8) ((F 3) + 1).toNatClampNeg rb)) 9) ((F 3) + 1).toNatClampNeg pc)) 10 (upd ((uA (uA A 8 (upd (A 8) ((F 3) + 1).toNatClampNeg rb)) 9 (upd ((uA A 8 (upd (A 8) ((F 3) + 1).toNatClampNeg rb)) 9) ((F 3) + 1).toNatClampNeg pc)) 10) ((F 3) + 1).toNatClampNeg fr)) 11 (upd ((uA (uA (uA A 8 (upd (A 8) ((F 3) + 1).toNatClampNeg rb)) 9 (upd ((uA A 8 (upd (A 8) ((F 3) + 1).toNatClampNeg rb)) 9) ((F 3) + 1).toNatClampNeg pc)) 10 (upd ((uA (uA A 8 (upd (A 8) ((F 3) + 1).toNatClampNeg rb)) 9 (upd ((uA A 8 (upd (A 8) ((F 3) + 1).toNatClampNeg rb)) 9) ((F 3) + 1).toNatClampNeg pc)) 10) ((F 3) + 1).toNatClampNeg fr)) 11) ((F 3) + 1).toNatClampNeg tt)) 12 (upd ((uA (uA (uA (uA A 8 (upd (A 8) ((F 3) + 1).toNatClampNeg rb)) 9 (upd ((uA A 8 (upd (A 8) ((F 3) + 1).toNatClampNeg rb)) 9) ((F 3) + 1).toNatClampNeg pc)) 10 (upd ((uA (uA A 8 (upd (A 8) ((F 3) + 1).toNatClampNeg rb)) 9 (upd ((uA A 8 (upd (A 8) ((F 3) + 1).toNatClampNeg rb)) 9) ((F 3) + 1).toNatClampNeg pc)) 10) ((F 3) + 1).toNatClampNeg fr)) 11 (upd ((uA (uA (uA A 8 (upd (A 8) ((F 3) + 1).toNatClampNeg rb)) 9 (upd ((uA A 8 (upd (A 8) ((F 3) + 1).toNatClampNeg rb)) 9) ((F 3) + 1).toNatClampNeg pc)) 10 (upd ((uA (uA A 8 (upd (A 8) ((F 3) + 1).toNatClampNeg rb)) 9 (upd ((uA A 8 (upd (A 8) ((F 3) + 1).toNatClampNeg rb)) 9) ((F 3) + 1).toNatClampNeg pc)) 10) ((F 3) + 1).toNatClampNeg fr)) 11) ((F 3) + 1).toNatClampNeg tt)) 12) ((F 3) + 1).toNatClampNeg pr)) 13) ((F 3) + 1).toNatClampNeg 0)))
set_option maxHeartbeats 4000000 in
set_option maxRecDepth 100000 in
theorem c_Gr_add (l : Launch) (dC : Nat → ClassId) (dI : Nat → Nat → Nat) (r : Nat → Nat) (k : Nat → ClassId) (F : Nat → Int32) (A : Nat → Nat → Int32) (sz : Nat) (rb pc fr tt pr : Int32) (hI : CI F) (h_sz : (F 3).toInt < 60) : Met l y_Gr_add w_Gr_add ({ frames := 0, cells := 0, slots := 0, locals := 0 }) (va_Pc [.ref (r 2), .int rb, .int pc, .int fr, .int tt, .int pr] (SP (dC, dI) (wC r k F A) (tC k) sz)) (va_Qi (fun v (u : SC) => (v, u) = f_Gr_add F A rb pc fr tt pr) (fun (u : SC) t => aW (dC, dI) (tC k) (va_A (wC r k F A) sz) (wC r k u.1 u.2) t) (va_A (wC r k F A) sz)) 0 0 (va_A (wC r k F A) sz) := by
  refine Met.ofW (cc := b_Gr_add) (maxL := 6) (ret := (some .int)) (by decide) rfl ?_
  intro p e s m args below meth c s₁ B hml hv0
  obtain ⟨rfl, hsz, hP, hK, hD0⟩ := hv0
  have hx := B.exec
  have hb := B.bytes
  have hr := B.returns
  have hts := atoms_spec (ws := w_Gr_add) B.pre
  have hW : ∀ w ∈ WALL, w.before ([.ref (r 2), .int rb, .int pc, .int fr, .int tt, .int pr] : List Value).toArray s = true := fun w h => hts w (List.mem_cons_of_mem _ h)
  have hown : s.vm.findClass R_Gr = some m.cls := findClass_of_methodNamed B.named
  have hlocks := B.notSynchronized
  subst hsz
  have hD := hD0.self (sz := s.heap.size)
  generalize hAe : va_A (wC r k F A) s.heap.size = Ad at hD ⊢
  have hA : ∀ q : Nat, s.heap.size ≤ q → Ad q := fun q h => by rw [← hAe]; exact Or.inr h
  have hS : va_S Ad s.heap s.heap [] := va_S.rf
  have hl := lv_entry ([.ref (r 2), .int rb, .int pc, .int fr, .int tt, .int pr]) (n := 6) (Nat.le_of_ble_eq_true rfl)
  rw [lg_entry_eq]
  generalize (lg_sl ([.ref (r 2), .int rb, .int pc, .int fr, .int tt, .int pr]) ++ List.replicate (6 - (lg_sl ([.ref (r 2), .int rb, .int pc, .int fr, .int tt, .int pr])).length) Slot.unset).toArray = ls at hl ⊢
  have hl : lv_has ls 6 [(0, .ref (r 2)), (1, .int rb), (2, .int pc), (3, .int fr), (4, .int tt), (5, .int pr)] := hl
  obtain ⟨⟨hp0, hp1⟩, ⟨hr0, hr1⟩, hg0, hg1⟩ := id hI; have hr2 : (F 2).toInt ≤ 60 := Int.le_trans hr1 (by decide)
  have hv := f_Gr_add.eq_1 F A rb pc fr tt pr
  refine lv_aload_n hx hb d_Gr_add_0 rfl (lv_at hl 0 rfl) ?_
  refine lv_dup hx hb d_Gr_add_1 rfl ?_
  refine va_get (D := (dC, dI)) (ci := 2) (v := .int (F 3)) (C := R_Gr) (T := F_Gr) (N := 7) hx hb hW i_Gr hown hK hP 2 rfl rfl 0 (by decide) (hW _ k_74) (fun _ h9 => h9) rfl d_Gr_add_2 ?_
  refine lv_iconst (v := 1) hx hb d_Gr_add_5 (by decide) ?_
  refine lv_iadd hx hb d_Gr_add_6 ?_
  refine va_put (D := (dC, dI)) (ci := 2) (v := .int ((F 3) + 1)) (ty := .int) (C := R_Gr) (T := F_Gr) (N := 7) hx hb hW i_Gr t_Gr t_Gr_ok n_Gr hown hK hP hD hS 2 rfl rfl 0 (by decide) (hW _ k_74) (fun _ h9 => h9) rfl (by decide +kernel) rfl rfl (Nat.le_of_ble_eq_true rfl) d_Gr_add_7 (fun H locs hP hD hS => ?_)
  have hP := pCF_3 hP
  have hD := dCF_3 hD
  refine lv_aload_n hx hb d_Gr_add_10 rfl (lv_at hl 0 rfl) ?_
  refine va_get (D := (dC, dI)) (ci := 2) (v := .ref (r 11)) (C := R_Gr) (T := F_Gr) (N := 7) hx hb hW i_Gr hown hK hP 2 rfl rfl 1 (by decide) (hW _ k_60) (fun _ h9 => h9) rfl d_Gr_add_11 ?_
  refine lv_aload_n hx hb d_Gr_add_14 rfl (lv_at hl 0 rfl) ?_
  refine va_get (D := (dC, dI)) (ci := 2) (v := .int ((F 3) + 1)) (C := R_Gr) (T := F_Gr) (N := 7) hx hb hW i_Gr hown hK hP 2 rfl rfl 0 (by decide) (hW _ k_74) (fun _ h9 => h9) rfl d_Gr_add_15 ?_
  refine lv_iload_n hx hb d_Gr_add_18 rfl (lv_at hl 1 rfl) ?_
  refine va_iast hx hb hK hP hD hS 11 8 rfl rfl (ixM hg0 h_sz) d_Gr_add_19 (fun H locs hP hD hS => ?_)
  have hP := pCA_8 hP
  have hD := dCA_8 hD
  generalize hAg1 : (uA A 8 (upd (A 8) ((F 3) + 1).toNatClampNeg rb)) = A1_ at hP hD hv
  refine lv_aload_n hx hb d_Gr_add_20 rfl (lv_at hl 0 rfl) ?_
  refine va_get (D := (dC, dI)) (ci := 2) (v := .ref (r 12)) (C := R_Gr) (T := F_Gr) (N := 7) hx hb hW i_Gr hown hK hP 2 rfl rfl 2 (by decide) (hW _ k_54) (fun _ h9 => h9) rfl d_Gr_add_21 ?_
  refine lv_aload_n hx hb d_Gr_add_24 rfl (lv_at hl 0 rfl) ?_
  refine va_get (D := (dC, dI)) (ci := 2) (v := .int ((F 3) + 1)) (C := R_Gr) (T := F_Gr) (N := 7) hx hb hW i_Gr hown hK hP 2 rfl rfl 0 (by decide) (hW _ k_74) (fun _ h9 => h9) rfl d_Gr_add_25 ?_
  refine lv_iload_n hx hb d_Gr_add_28 rfl (lv_at hl 2 rfl) ?_
  refine va_iast hx hb hK hP hD hS 12 9 rfl rfl (ixM hg0 h_sz) d_Gr_add_29 (fun H locs hP hD hS => ?_)
  have hP := pCA_9 hP
  have hD := dCA_9 hD
  generalize hAg2 : (uA A1_ 9 (upd (A1_ 9) ((F 3) + 1).toNatClampNeg pc)) = A2_ at hP hD hv
  refine lv_aload_n hx hb d_Gr_add_30 rfl (lv_at hl 0 rfl) ?_
  refine va_get (D := (dC, dI)) (ci := 2) (v := .ref (r 13)) (C := R_Gr) (T := F_Gr) (N := 7) hx hb hW i_Gr hown hK hP 2 rfl rfl 3 (by decide) (hW _ k_47) (fun _ h9 => h9) rfl d_Gr_add_31 ?_
  refine lv_aload_n hx hb d_Gr_add_34 rfl (lv_at hl 0 rfl) ?_
  refine va_get (D := (dC, dI)) (ci := 2) (v := .int ((F 3) + 1)) (C := R_Gr) (T := F_Gr) (N := 7) hx hb hW i_Gr hown hK hP 2 rfl rfl 0 (by decide) (hW _ k_74) (fun _ h9 => h9) rfl d_Gr_add_35 ?_
  refine lv_iload_n hx hb d_Gr_add_38 rfl (lv_at hl 3 rfl) ?_
  refine va_iast hx hb hK hP hD hS 13 10 rfl rfl (ixM hg0 h_sz) d_Gr_add_39 (fun H locs hP hD hS => ?_)
  have hP := pCA_10 hP
  have hD := dCA_10 hD
  generalize hAg3 : (uA A2_ 10 (upd (A2_ 10) ((F 3) + 1).toNatClampNeg fr)) = A3_ at hP hD hv
  refine lv_aload_n hx hb d_Gr_add_40 rfl (lv_at hl 0 rfl) ?_
  refine va_get (D := (dC, dI)) (ci := 2) (v := .ref (r 14)) (C := R_Gr) (T := F_Gr) (N := 7) hx hb hW i_Gr hown hK hP 2 rfl rfl 4 (by decide) (hW _ k_55) (fun _ h9 => h9) rfl d_Gr_add_41 ?_
  refine lv_aload_n hx hb d_Gr_add_44 rfl (lv_at hl 0 rfl) ?_
  refine va_get (D := (dC, dI)) (ci := 2) (v := .int ((F 3) + 1)) (C := R_Gr) (T := F_Gr) (N := 7) hx hb hW i_Gr hown hK hP 2 rfl rfl 0 (by decide) (hW _ k_74) (fun _ h9 => h9) rfl d_Gr_add_45 ?_
  refine lv_iload hx hb d_Gr_add_48 (lv_at hl 4 rfl) ?_
  refine va_iast hx hb hK hP hD hS 14 11 rfl rfl (ixM hg0 h_sz) d_Gr_add_50 (fun H locs hP hD hS => ?_)
  have hP := pCA_11 hP
  have hD := dCA_11 hD
  generalize hAg4 : (uA A3_ 11 (upd (A3_ 11) ((F 3) + 1).toNatClampNeg tt)) = A4_ at hP hD hv
  refine lv_aload_n hx hb d_Gr_add_51 rfl (lv_at hl 0 rfl) ?_
  refine va_get (D := (dC, dI)) (ci := 2) (v := .ref (r 15)) (C := R_Gr) (T := F_Gr) (N := 7) hx hb hW i_Gr hown hK hP 2 rfl rfl 5 (by decide) (hW _ k_76) (fun _ h9 => h9) rfl d_Gr_add_52 ?_
  refine lv_aload_n hx hb d_Gr_add_55 rfl (lv_at hl 0 rfl) ?_
  refine va_get (D := (dC, dI)) (ci := 2) (v := .int ((F 3) + 1)) (C := R_Gr) (T := F_Gr) (N := 7) hx hb hW i_Gr hown hK hP 2 rfl rfl 0 (by decide) (hW _ k_74) (fun _ h9 => h9) rfl d_Gr_add_56 ?_
  refine lv_iload hx hb d_Gr_add_59 (lv_at hl 5 rfl) ?_
  refine va_iast hx hb hK hP hD hS 15 12 rfl rfl (ixM hg0 h_sz) d_Gr_add_61 (fun H locs hP hD hS => ?_)
  have hP := pCA_12 hP
  have hD := dCA_12 hD
  generalize hAg5 : (uA A4_ 12 (upd (A4_ 12) ((F 3) + 1).toNatClampNeg pr)) = A5_ at hP hD hv
  refine lv_aload_n hx hb d_Gr_add_62 rfl (lv_at hl 0 rfl) ?_
  refine va_get (D := (dC, dI)) (ci := 2) (v := .ref (r 16)) (C := R_Gr) (T := F_Gr) (N := 7) hx hb hW i_Gr hown hK hP 2 rfl rfl 6 (by decide) (hW _ k_48) (fun _ h9 => h9) rfl d_Gr_add_63 ?_
  refine lv_aload_n hx hb d_Gr_add_66 rfl (lv_at hl 0 rfl) ?_
  refine va_get (D := (dC, dI)) (ci := 2) (v := .int ((F 3) + 1)) (C := R_Gr) (T := F_Gr) (N := 7) hx hb hW i_Gr hown hK hP 2 rfl rfl 0 (by decide) (hW _ k_74) (fun _ h9 => h9) rfl d_Gr_add_67 ?_
  refine lv_iconst (v := 0) hx hb d_Gr_add_70 (by decide) ?_
  refine va_iast hx hb hK hP hD hS 16 13 rfl rfl (ixM hg0 h_sz) d_Gr_add_71 (fun H locs hP hD hS => ?_)
  have hP := pCA_13 hP
  have hD := dCA_13 hD
  generalize hAg6 : (uA A5_ 13 (upd (A5_ 13) ((F 3) + 1).toNatClampNeg 0)) = A6_ at hP hD hv
  refine lv_aload_n hx hb d_Gr_add_72 rfl (lv_at hl 0 rfl) ?_
  refine va_get (D := (dC, dI)) (ci := 2) (v := .int ((F 3) + 1)) (C := R_Gr) (T := F_Gr) (N := 7) hx hb hW i_Gr hown hK hP 2 rfl rfl 0 (by decide) (hW _ k_74) (fun _ h9 => h9) rfl d_Gr_add_73 ?_
  exact W.iret (v := (F 3) + 1) hx hb hr (fun t ht hW9 => ⟨⟨(F 3) + 1, ((uF F 3 ((F 3) + 1)), A6_), rfl, hv.symm, by rw [ht]; exact hP, va_K.moved hW9.alike hK, hD⟩, hS.F ht⟩) hS.2.2 d_Gr_add_76
def f_RS_ask (F : Nat → Int32) (A : Nat → Nat → Int32) (rb pc fr tt pr : Int32) : Nat × Int32 × SC := if f_RS_needRobot F A rb = 0 then (if f_RS_needPiece F A pc = 0 then (if f_RS_needSpan F A fr tt = 0 then (if f_RS_needPriority F A pr = 0 then (if f_RS_needActive F A rb = 0 then (if F 3 < 60 then (if (uA A 7 (upd (A 7) rb.toNatClampNeg (F 0))) 1 pc.toNatClampNeg = 0 then (if f_Rb_otherStandsOn F (uA A 7 (upd (A 7) rb.toNatClampNeg (F 0))) rb pc = 0 then (if f_RS_firstBar F (uA A 7 (upd (A 7) rb.toNatClampNeg (F 0))) rb pc fr tt pr = 0 then (0, (f_Gr_add ((f_Gr_takeFromOthers F (uA A 7 (upd (A 7) rb.toNatClampNeg (F 0))) rb pc fr tt).2.1) ((f_Gr_takeFromOthers F (uA A 7 (upd (A 7) rb.toNatClampNeg (F 0))) rb pc fr tt).2.2) rb pc fr tt pr).1, ((f_Gr_add ((f_Gr_takeFromOthers F (uA A 7 (upd (A 7) rb.toNatClampNeg (F 0))) rb pc fr tt).2.1) ((f_Gr_takeFromOthers F (uA A 7 (upd (A 7) rb.toNatClampNeg (F 0))) rb pc fr tt).2.2) rb pc fr tt pr).2.1), ((f_Gr_add ((f_Gr_takeFromOthers F (uA A 7 (upd (A 7) rb.toNatClampNeg (F 0))) rb pc fr tt).2.1) ((f_Gr_takeFromOthers F (uA A 7 (upd (A 7) rb.toNatClampNeg (F 0))) rb pc fr tt).2.2) rb pc fr tt pr).2.2)) else (0, -(f_RS_firstBar F (uA A 7 (upd (A 7) rb.toNatClampNeg (F 0))) rb pc fr tt pr), F, (uA A 7 (upd (A 7) rb.toNatClampNeg (F 0))))) else (0, 0, F, (uA A 7 (upd (A 7) rb.toNatClampNeg (F 0))))) else (0, 0, F, (uA A 7 (upd (A 7) rb.toNatClampNeg (F 0))))) else (4, 0, F, A)) else (f_RS_needActive F A rb, 0, F, A)) else (f_RS_needPriority F A pr, 0, F, A)) else (f_RS_needSpan F A fr tt, 0, F, A)) else (f_RS_needPiece F A pc, 0, F, A)) else (f_RS_needRobot F A rb, 0, F, A)
set_option maxHeartbeats 4000000 in
set_option maxRecDepth 100000 in
theorem c_RS_ask_k (l : Launch) (dC : Nat → ClassId) (dI : Nat → Nat → Nat) (r : Nat → Nat) (k : Nat → ClassId) (F : Nat → Int32) (A : Nat → Nat → Int32) (sz : Nat) (rb pc fr tt pr : Int32) (hI : CI F) (hk : (f_RS_ask F A rb pc fr tt pr).1 = 0) : Met l y_RS_ask w_RS_ask ({ frames := 4, cells := 0, slots := 0, locals := 95 }) (va_Pc [.ref (r 0), .int rb, .int pc, .int fr, .int tt, .int pr] (SP (dC, dI) (wC r k F A) (tC k) sz)) (va_Qi (fun v (u : SC) => (0, v, u) = f_RS_ask F A rb pc fr tt pr) (fun (u : SC) t => aW (dC, dI) (tC k) (va_A (wC r k F A) sz) (wC r k u.1 u.2) t) (va_A (wC r k F A) sz)) 0 0 (va_A (wC r k F A) sz) := by
  refine Met.ofW (cc := b_RS_ask) (maxL := 7) (ret := (some .int)) (by decide) rfl ?_
  intro p e s m args below meth c s₁ B hml hv0
  obtain ⟨rfl, hsz, hP, hK, hD0⟩ := hv0
  have hx := B.exec
  have hb := B.bytes
  have hr := B.returns
  have hts := atoms_spec (ws := w_RS_ask) B.pre
  have hW : ∀ w ∈ WALL, w.before ([.ref (r 0), .int rb, .int pc, .int fr, .int tt, .int pr] : List Value).toArray s = true := fun w h => hts w (List.mem_cons_of_mem _ h)
  have hown : s.vm.findClass R_RS = some m.cls := findClass_of_methodNamed B.named
  have hlocks := B.notSynchronized
  subst hsz
  have hD := hD0.self (sz := s.heap.size)
  generalize hAe : va_A (wC r k F A) s.heap.size = Ad at hD ⊢
  have hA : ∀ q : Nat, s.heap.size ≤ q → Ad q := fun q h => by rw [← hAe]; exact Or.inr h
  have hS : va_S Ad s.heap s.heap [] := va_S.rf
  have hl := lv_entry ([.ref (r 0), .int rb, .int pc, .int fr, .int tt, .int pr]) (n := 7) (Nat.le_of_ble_eq_true rfl)
  rw [lg_entry_eq]
  generalize (lg_sl ([.ref (r 0), .int rb, .int pc, .int fr, .int tt, .int pr]) ++ List.replicate (7 - (lg_sl ([.ref (r 0), .int rb, .int pc, .int fr, .int tt, .int pr])).length) Slot.unset).toArray = ls at hl ⊢
  have hl : lv_has ls 7 [(0, .ref (r 0)), (1, .int rb), (2, .int pc), (3, .int fr), (4, .int tt), (5, .int pr)] := hl
  obtain ⟨⟨hp0, hp1⟩, ⟨hr0, hr1⟩, hg0, hg1⟩ := id hI; have hr2 : (F 2).toInt ≤ 60 := Int.le_trans hr1 (by decide)
  have hv := f_RS_ask.eq_1 F A rb pc fr tt pr
  refine lv_aload_n hx hb d_RS_ask_0 rfl (lv_at hl 0 rfl) ?_
  refine lv_iload_n hx hb d_RS_ask_1 rfl (lv_at hl 1 rfl) ?_
  by_cases c_1 : f_RS_needRobot F A rb = 0
  · have hv := hv.trans (if_pos c_1)
    refine rdVv ⟨hx, hb, hml, hown, hW⟩ (c_RS_needRobot_k l dC dI r k F A rb   c_1) (cwV 1 hW (gIn k_77 k_78 k_79 k_15 k_80) rfl rfl rfl (by decide +kernel) ⟨Nat.le_of_ble_eq_true rfl, Nat.le_of_ble_eq_true rfl⟩) hK hP (va_recv hK hP (ci := 0) (q0 := 0) rfl rfl) rfl hl.1 rfl (Nat.le_of_ble_eq_true rfl) d_RS_ask_2 ⟨Nat.zero_le _, Nat.zero_le _⟩ ?_
    refine lv_aload_n hx hb d_RS_ask_5 rfl (lv_at hl 0 rfl) ?_
    refine lv_iload_n hx hb d_RS_ask_6 rfl (lv_at hl 2 rfl) ?_
    by_cases c_2 : f_RS_needPiece F A pc = 0
    · have hv := hv.trans (if_pos c_2)
      refine rdVv ⟨hx, hb, hml, hown, hW⟩ (c_RS_needPiece_k l dC dI r k F A pc   c_2) (cwV 1 hW (gIn k_12 k_13 k_14 k_15 k_16) rfl rfl rfl (by decide +kernel) ⟨Nat.le_of_ble_eq_true rfl, Nat.le_of_ble_eq_true rfl⟩) hK hP (va_recv hK hP (ci := 0) (q0 := 0) rfl rfl) rfl hl.1 rfl (Nat.le_of_ble_eq_true rfl) d_RS_ask_7 ⟨Nat.zero_le _, Nat.zero_le _⟩ ?_
      refine lv_aload_n hx hb d_RS_ask_10 rfl (lv_at hl 0 rfl) ?_
      refine lv_iload_n hx hb d_RS_ask_11 rfl (lv_at hl 3 rfl) ?_
      refine lv_iload hx hb d_RS_ask_12 (lv_at hl 4 rfl) ?_
      by_cases c_3 : f_RS_needSpan F A fr tt = 0
      · have hv := hv.trans (if_pos c_3)
        refine rdVv ⟨hx, hb, hml, hown, hW⟩ (c_RS_needSpan_k l dC dI r k F A fr tt   c_3) (cwV 2 hW (gIn k_81 k_82 k_83 k_15 k_84) rfl rfl rfl (by decide +kernel) ⟨Nat.le_of_ble_eq_true rfl, Nat.le_of_ble_eq_true rfl⟩) hK hP (va_recv hK hP (ci := 0) (q0 := 0) rfl rfl) rfl hl.1 rfl (Nat.le_of_ble_eq_true rfl) d_RS_ask_14 ⟨Nat.zero_le _, Nat.zero_le _⟩ ?_
        refine lv_aload_n hx hb d_RS_ask_17 rfl (lv_at hl 0 rfl) ?_
        refine lv_iload hx hb d_RS_ask_18 (lv_at hl 5 rfl) ?_
        by_cases c_4 : f_RS_needPriority F A pr = 0
        · have hv := hv.trans (if_pos c_4)
          refine rdVv ⟨hx, hb, hml, hown, hW⟩ (c_RS_needPriority_k l dC dI r k F A pr   c_4) (cwV 1 hW (gIn k_85 k_86 k_87 k_15 k_88) rfl rfl rfl (by decide +kernel) ⟨Nat.le_of_ble_eq_true rfl, Nat.le_of_ble_eq_true rfl⟩) hK hP (va_recv hK hP (ci := 0) (q0 := 0) rfl rfl) rfl hl.1 rfl (Nat.le_of_ble_eq_true rfl) d_RS_ask_20 ⟨Nat.zero_le _, Nat.zero_le _⟩ ?_
          refine lv_aload_n hx hb d_RS_ask_23 rfl (lv_at hl 0 rfl) ?_
          refine lv_iload_n hx hb d_RS_ask_24 rfl (lv_at hl 1 rfl) ?_
          by_cases c_5 : f_RS_needActive F A rb = 0
          · have hv := hv.trans (if_pos c_5)
            refine rdVv ⟨hx, hb, hml, hown, hW⟩ (c_RS_needActive_k l dC dI r k F A rb hI (ixR hI c_1) c_5) (cwV 1 hW (gIn k_89 k_90 k_91 k_15 k_92) rfl rfl rfl (by decide +kernel) ⟨Nat.le_of_ble_eq_true rfl, Nat.le_of_ble_eq_true rfl⟩) hK hP (va_recv hK hP (ci := 0) (q0 := 0) rfl rfl) rfl hl.1 rfl (Nat.le_of_ble_eq_true rfl) d_RS_ask_25 ⟨Nat.zero_le _, Nat.zero_le _⟩ ?_
            refine lv_aload_n hx hb d_RS_ask_28 rfl (lv_at hl 0 rfl) ?_
            refine va_get (D := (dC, dI)) (ci := 0) (v := .ref (r 2)) (C := R_RS) (T := F_RS) (N := 6) hx hb hW i_RS hown hK hP 0 rfl rfl 5 (by decide) (hW _ k_5) (fun _ h9 => h9) rfl d_RS_ask_29 ?_
            refine va_get (D := (dC, dI)) (ci := 2) (v := .int (F 3)) (C := R_Gr) (T := F_Gr) (N := 7) hx hb hW i_Gr hown hK hP 2 rfl rfl 0 (by decide) (hW _ k_6) (fun _ h9 => h9) rfl d_RS_ask_32 ?_
            refine lv_bipush (v := 60) hx hb d_RS_ask_35 (by decide) ?_
            refine lv_icmp_lt (tgt := 50) hx hb d_RS_ask_37 (by decide) (fun c_6 => ?_) (fun c_6 => ?_)
            · have hv := hv.trans (if_pos c_6)
              refine lv_aload_n hx hb d_RS_ask_50 rfl (lv_at hl 0 rfl) ?_
              refine va_get (D := (dC, dI)) (ci := 0) (v := .ref (r 1)) (C := R_RS) (T := F_RS) (N := 6) hx hb hW i_RS hown hK hP 0 rfl rfl 4 (by decide) (hW _ k_3) (fun _ h9 => h9) rfl d_RS_ask_51 ?_
              refine va_get (D := (dC, dI)) (ci := 1) (v := .ref (r 10)) (C := R_Rb) (T := F_Rb) (N := 7) hx hb hW i_Rb hown hK hP 1 rfl rfl 6 (by decide) (hW _ k_93) (fun _ h9 => h9) rfl d_RS_ask_54 ?_
              refine lv_iload_n hx hb d_RS_ask_57 rfl (lv_at hl 1 rfl) ?_
              refine lv_aload_n hx hb d_RS_ask_58 rfl (lv_at hl 0 rfl) ?_
              refine va_get (D := (dC, dI)) (ci := 0) (v := .int (F 0)) (C := R_RS) (T := F_RS) (N := 6) hx hb hW i_RS hown hK hP 0 rfl rfl 0 (by decide) (hW _ k_7) (fun _ h9 => h9) rfl d_RS_ask_59 ?_
              refine va_iast hx hb hK hP hD hS 10 7 rfl rfl (ixR hI c_1) d_RS_ask_62 (fun H locs hP hD hS => ?_)
              have hP := pCA_7 hP
              have hD := dCA_7 hD
              generalize hAg1 : (uA A 7 (upd (A 7) rb.toNatClampNeg (F 0))) = A1_ at hP hD hv
              refine lv_aload_n hx hb d_RS_ask_63 rfl (lv_at hl 0 rfl) ?_
              refine va_get (D := (dC, dI)) (ci := 0) (v := .ref (r 4)) (C := R_RS) (T := F_RS) (N := 6) hx hb hW i_RS hown hK hP 0 rfl rfl 3 (by decide) (hW _ k_29) (fun _ h9 => h9) rfl d_RS_ask_64 ?_
              refine lv_iload_n hx hb d_RS_ask_67 rfl (lv_at hl 2 rfl) ?_
              refine va_zald hx hb hK hP 4 1 rfl rfl (ixP hI c_2) d_RS_ask_68 ?_
              refine lv_if_ne (tgt := 84) hx hb d_RS_ask_69 (by decide) (fun c_7 => ?_) (fun c_7 => ?_)
              · have hv := hv.trans (if_neg c_7)
                refine lv_iconst (v := 0) hx hb d_RS_ask_84 (by decide) ?_
                exact W.iret (v := 0) hx hb hr (fun t ht hW9 => ⟨⟨0, (F, A1_), rfl, hv.symm, by rw [ht]; exact hP, va_K.moved hW9.alike hK, hD⟩, hS.F ht⟩) hS.2.2 d_RS_ask_85
              · have hv := hv.trans (if_pos c_7)
                refine lv_aload_n hx hb d_RS_ask_72 rfl (lv_at hl 0 rfl) ?_
                refine va_get (D := (dC, dI)) (ci := 0) (v := .ref (r 1)) (C := R_RS) (T := F_RS) (N := 6) hx hb hW i_RS hown hK hP 0 rfl rfl 4 (by decide) (hW _ k_3) (fun _ h9 => h9) rfl d_RS_ask_73 ?_
                refine lv_iload_n hx hb d_RS_ask_76 rfl (lv_at hl 1 rfl) ?_
                refine lv_iload_n hx hb d_RS_ask_77 rfl (lv_at hl 2 rfl) ?_
                refine rdV ⟨hx, hb, hml, hown, hW⟩ (c_Rb_otherStandsOn l dC dI r k F A1_ rb pc hI ) (cwV 2 hW (gIn k_94 k_95 k_96 k_33 k_97) rfl rfl rfl (by decide +kernel) ⟨Nat.le_of_ble_eq_true rfl, Nat.le_of_ble_eq_true rfl⟩) hK hP (va_recv hK hP (ci := 1) (q0 := 1) rfl rfl) rfl hl.1 rfl (Nat.le_of_ble_eq_true rfl) d_RS_ask_78 ⟨Nat.zero_le _, Nat.zero_le _⟩ ?_
                refine lv_if_eq (tgt := 86) hx hb d_RS_ask_81 (by decide) (fun c_8 => ?_) (fun c_8 => ?_)
                · have hv := hv.trans (if_pos c_8)
                  refine lv_aload_n hx hb d_RS_ask_86 rfl (lv_at hl 0 rfl) ?_
                  refine lv_iload_n hx hb d_RS_ask_87 rfl (lv_at hl 1 rfl) ?_
                  refine lv_iload_n hx hb d_RS_ask_88 rfl (lv_at hl 2 rfl) ?_
                  refine lv_iload_n hx hb d_RS_ask_89 rfl (lv_at hl 3 rfl) ?_
                  refine lv_iload hx hb d_RS_ask_90 (lv_at hl 4 rfl) ?_
                  refine lv_iload hx hb d_RS_ask_92 (lv_at hl 5 rfl) ?_
                  refine rdV ⟨hx, hb, hml, hown, hW⟩ (c_RS_firstBar l dC dI r k F A1_ rb pc fr tt pr hI ) (cwV 5 hW (gIn k_98 k_99 k_100 k_15 k_101) rfl rfl rfl (by decide +kernel) ⟨Nat.le_of_ble_eq_true rfl, Nat.le_of_ble_eq_true rfl⟩) hK hP (va_recv hK hP (ci := 0) (q0 := 0) rfl rfl) rfl hl.1 rfl (Nat.le_of_ble_eq_true rfl) d_RS_ask_94 ⟨Nat.zero_le _, Nat.zero_le _⟩ ?_
                  refine lv_istore (lv' := [(6, .int (f_RS_firstBar F A1_ rb pc fr tt pr)), (0, .ref (r 0)), (1, .int rb), (2, .int pc), (3, .int fr), (4, .int tt), (5, .int pr)]) hx hb d_RS_ask_97 hl (by decide) rfl (fun ls hl => ?_)
                  refine lv_iload hx hb d_RS_ask_99 (lv_at hl 0 rfl) ?_
                  refine lv_if_eq (tgt := 108) hx hb d_RS_ask_101 (by decide) (fun c_9 => ?_) (fun c_9 => ?_)
                  · have hv := hv.trans (if_pos c_9)
                    refine lv_aload_n hx hb d_RS_ask_108 rfl (lv_at hl 1 rfl) ?_
                    refine va_get (D := (dC, dI)) (ci := 0) (v := .ref (r 2)) (C := R_RS) (T := F_RS) (N := 6) hx hb hW i_RS hown hK hP 0 rfl rfl 5 (by decide) (hW _ k_5) (fun _ h9 => h9) rfl d_RS_ask_109 ?_
                    refine lv_iload_n hx hb d_RS_ask_112 rfl (lv_at hl 2 rfl) ?_
                    refine lv_iload_n hx hb d_RS_ask_113 rfl (lv_at hl 3 rfl) ?_
                    refine lv_iload_n hx hb d_RS_ask_114 rfl (lv_at hl 4 rfl) ?_
                    refine lv_iload hx hb d_RS_ask_115 (lv_at hl 5 rfl) ?_
                    refine stVv (wf := fun u : SC => wC r k u.1 u.2) ⟨hx, hb, hml, hown, hW⟩ (c_Gr_takeFromOthers l dC dI r k F A1_ _ rb pc fr tt hI ) (cwV 4 hW (gIn k_102 k_103 k_104 k_52 k_105) rfl rfl rfl (by decide +kernel) ⟨Nat.le_of_ble_eq_true rfl, Nat.le_of_ble_eq_true rfl⟩) hK hP hD hS hA (va_recv hK hP (ci := 2) (q0 := 2) rfl rfl) rfl hl.1 rfl (Nat.le_of_ble_eq_true rfl) d_RS_ask_117 ⟨Nat.zero_le _, Nat.zero_le _⟩ (fun H locs hP hD hS => ?_)
                    have hP : va_P (dC, dI) classes (wC r k ((f_Gr_takeFromOthers F A1_ rb pc fr tt).2.1) ((f_Gr_takeFromOthers F A1_ rb pc fr tt).2.2)) H := hP
                    have hD : va_D Ad (wC r k ((f_Gr_takeFromOthers F A1_ rb pc fr tt).2.1) ((f_Gr_takeFromOthers F A1_ rb pc fr tt).2.2)) := hD
                    refine lv_aload_n hx hb d_RS_ask_120 rfl (lv_at hl 1 rfl) ?_
                    refine va_get (D := (dC, dI)) (ci := 0) (v := .ref (r 2)) (C := R_RS) (T := F_RS) (N := 6) hx hb hW i_RS hown hK hP 0 rfl rfl 5 (by decide) (hW _ k_5) (fun _ h9 => h9) rfl d_RS_ask_121 ?_
                    refine lv_iload_n hx hb d_RS_ask_124 rfl (lv_at hl 2 rfl) ?_
                    refine lv_iload_n hx hb d_RS_ask_125 rfl (lv_at hl 3 rfl) ?_
                    refine lv_iload_n hx hb d_RS_ask_126 rfl (lv_at hl 4 rfl) ?_
                    refine lv_iload hx hb d_RS_ask_127 (lv_at hl 5 rfl) ?_
                    refine lv_iload hx hb d_RS_ask_129 (lv_at hl 6 rfl) ?_
                    refine stVi (wf := fun u : SC => wC r k u.1 u.2) ⟨hx, hb, hml, hown, hW⟩ (c_Gr_add l dC dI r k ((f_Gr_takeFromOthers F A1_ rb pc fr tt).2.1) ((f_Gr_takeFromOthers F A1_ rb pc fr tt).2.2) _ rb pc fr tt pr (by first | exact hI | (rw [kf_Gr_takeFromOthers]; exact hI)) (by rw [kf_Gr_takeFromOthers]; exact ixO6 c_6)) (cwV 5 hW (gIn k_106 k_107 k_108 k_52 k_109) rfl rfl rfl (by decide +kernel) ⟨Nat.le_of_ble_eq_true rfl, Nat.le_of_ble_eq_true rfl⟩) hK hP hD hS hA (va_recv hK hP (ci := 2) (q0 := 2) rfl rfl) rfl hl.1 rfl (Nat.le_of_ble_eq_true rfl) d_RS_ask_131 ⟨Nat.zero_le _, Nat.zero_le _⟩ (fun H locs hP hD hS => ?_)
                    have hP : va_P (dC, dI) classes (wC r k ((f_Gr_add ((f_Gr_takeFromOthers F A1_ rb pc fr tt).2.1) ((f_Gr_takeFromOthers F A1_ rb pc fr tt).2.2) rb pc fr tt pr).2.1) ((f_Gr_add ((f_Gr_takeFromOthers F A1_ rb pc fr tt).2.1) ((f_Gr_takeFromOthers F A1_ rb pc fr tt).2.2) rb pc fr tt pr).2.2)) H := hP
                    have hD : va_D Ad (wC r k ((f_Gr_add ((f_Gr_takeFromOthers F A1_ rb pc fr tt).2.1) ((f_Gr_takeFromOthers F A1_ rb pc fr tt).2.2) rb pc fr tt pr).2.1) ((f_Gr_add ((f_Gr_takeFromOthers F A1_ rb pc fr tt).2.1) ((f_Gr_takeFromOthers F A1_ rb pc fr tt).2.2) rb pc fr tt pr).2.2)) := hD
                    exact W.iret (v := (f_Gr_add ((f_Gr_takeFromOthers F A1_ rb pc fr tt).2.1) ((f_Gr_takeFromOthers F A1_ rb pc fr tt).2.2) rb pc fr tt pr).1) hx hb hr (fun t ht hW9 => ⟨⟨(f_Gr_add ((f_Gr_takeFromOthers F A1_ rb pc fr tt).2.1) ((f_Gr_takeFromOthers F A1_ rb pc fr tt).2.2) rb pc fr tt pr).1, (((f_Gr_add ((f_Gr_takeFromOthers F A1_ rb pc fr tt).2.1) ((f_Gr_takeFromOthers F A1_ rb pc fr tt).2.2) rb pc fr tt pr).2.1), ((f_Gr_add ((f_Gr_takeFromOthers F A1_ rb pc fr tt).2.1) ((f_Gr_takeFromOthers F A1_ rb pc fr tt).2.2) rb pc fr tt pr).2.2)), rfl, hv.symm, by rw [ht]; exact hP, va_K.moved hW9.alike hK, hD⟩, hS.F ht⟩) hS.2.2 d_RS_ask_134
                  · have hv := hv.trans (if_neg c_9)
                    refine lv_iload hx hb d_RS_ask_104 (lv_at hl 0 rfl) ?_
                    refine lv_ineg hx hb d_RS_ask_106 ?_
                    exact W.iret (v := -(f_RS_firstBar F A1_ rb pc fr tt pr)) hx hb hr (fun t ht hW9 => ⟨⟨-(f_RS_firstBar F A1_ rb pc fr tt pr), (F, A1_), rfl, hv.symm, by rw [ht]; exact hP, va_K.moved hW9.alike hK, hD⟩, hS.F ht⟩) hS.2.2 d_RS_ask_107
                · have hv := hv.trans (if_neg c_8)
                  refine lv_iconst (v := 0) hx hb d_RS_ask_84 (by decide) ?_
                  exact W.iret (v := 0) hx hb hr (fun t ht hW9 => ⟨⟨0, (F, A1_), rfl, hv.symm, by rw [ht]; exact hP, va_K.moved hW9.alike hK, hD⟩, hS.F ht⟩) hS.2.2 d_RS_ask_85
            · have hv := hv.trans (if_neg c_6)
              rw [hv] at hk
              exact absurd (show (4 : Nat) = 0 from hk) (by decide)
          · have hv := hv.trans (if_neg c_5)
            rw [hv] at hk
            exact absurd hk c_5
        · have hv := hv.trans (if_neg c_4)
          rw [hv] at hk
          exact absurd hk c_4
      · have hv := hv.trans (if_neg c_3)
        rw [hv] at hk
        exact absurd hk c_3
    · have hv := hv.trans (if_neg c_2)
      rw [hv] at hk
      exact absurd hk c_2
  · have hv := hv.trans (if_neg c_1)
    rw [hv] at hk
    exact absurd hk c_1
set_option maxHeartbeats 4000000 in
set_option maxRecDepth 100000 in
theorem c_RS_ask_x (l : Launch) (hl9 : l.stackTraces = false) (dC : Nat → ClassId) (dI : Nat → Nat → Nat) (r : Nat → Nat) (k : Nat → ClassId) (F : Nat → Int32) (A : Nat → Nat → Int32) (sz : Nat) (rb pc fr tt pr : Int32) (hI : CI F) (hk : ¬ (f_RS_ask F A rb pc fr tt pr).1 = 0) : vx_Met l y_RS_ask w_RS_ask ({ frames := 7, cells := 1, slots := 6, locals := 104 }) (va_Pc [.ref (r 0), .int rb, .int pc, .int fr, .int tt, .int pr] (XP (dC, dI) (wC r k F A) (tC k) sz)) (va_Qi (fun _ (_ : SC) => False) (fun (u : SC) t => aW (dC, dI) (tC k) (va_A (wC r k F A) sz) (wC r k u.1 u.2) t) (va_A (wC r k F A) sz)) (vx_X (fun u : Nat => f_RS_ask F A rb pc fr tt pr = (u, 0, F, A)) (fun E u t => E = exN u ∧ aW (dC, dI) (tC k) (va_A (wC r k F A) sz) (wC r k F A) t) (va_A (wC r k F A) sz)) 1 6 (va_A (wC r k F A) sz) := by
  refine vx_ofW (cc := b_RS_ask) (maxL := 7) (ret := (some .int)) (by decide) rfl ?_
  intro p e s m args below meth c s₁ B hml hEx hv0
  obtain ⟨rfl, ⟨hsz, hP, hK, hD0⟩, hXS⟩ := hv0
  have hx := B.exec
  have hb := B.bytes
  have hr := B.returns
  have hts := atoms_spec (ws := w_RS_ask) B.pre
  have hW : ∀ w ∈ WALL, w.before ([.ref (r 0), .int rb, .int pc, .int fr, .int tt, .int pr] : List Value).toArray s = true := fun w h => hts w (List.mem_cons_of_mem _ h)
  have hown : s.vm.findClass R_RS = some m.cls := findClass_of_methodNamed B.named
  have hlocks := B.notSynchronized
  subst hsz
  have hD := hD0.self (sz := s.heap.size)
  generalize hAe : va_A (wC r k F A) s.heap.size = Ad at hD hXS ⊢
  have hA : ∀ q : Nat, s.heap.size ≤ q → Ad q := fun q h => by rw [← hAe]; exact Or.inr h
  have hS : va_S Ad s.heap s.heap [] := va_S.rf
  have hl := lv_entry ([.ref (r 0), .int rb, .int pc, .int fr, .int tt, .int pr]) (n := 7) (Nat.le_of_ble_eq_true rfl)
  rw [lg_entry_eq]
  generalize (lg_sl ([.ref (r 0), .int rb, .int pc, .int fr, .int tt, .int pr]) ++ List.replicate (7 - (lg_sl ([.ref (r 0), .int rb, .int pc, .int fr, .int tt, .int pr])).length) Slot.unset).toArray = ls at hl ⊢
  have hl : lv_has ls 7 [(0, .ref (r 0)), (1, .int rb), (2, .int pc), (3, .int fr), (4, .int tt), (5, .int pr)] := hl
  obtain ⟨⟨hp0, hp1⟩, ⟨hr0, hr1⟩, hg0, hg1⟩ := id hI; have hr2 : (F 2).toInt ≤ 60 := Int.le_trans hr1 (by decide)
  have hv := f_RS_ask.eq_1 F A rb pc fr tt pr
  refine lv_aload_n hx hb d_RS_ask_0 rfl (lv_at hl 0 rfl) ?_
  refine lv_iload_n hx hb d_RS_ask_1 rfl (lv_at hl 1 rfl) ?_
  by_cases c_1 : f_RS_needRobot F A rb = 0
  · have hv := hv.trans (if_pos c_1)
    refine rdVv ⟨hx, hb, hml, hown, hW⟩ (c_RS_needRobot_k l dC dI r k F A rb   c_1) (cwV 1 hW (gIn k_77 k_78 k_79 k_15 k_80) rfl rfl rfl (by decide +kernel) ⟨Nat.le_of_ble_eq_true rfl, Nat.le_of_ble_eq_true rfl⟩) hK hP (va_recv hK hP (ci := 0) (q0 := 0) rfl rfl) rfl hl.1 rfl (Nat.le_of_ble_eq_true rfl) d_RS_ask_2 ⟨Nat.zero_le _, Nat.zero_le _⟩ ?_
    refine lv_aload_n hx hb d_RS_ask_5 rfl (lv_at hl 0 rfl) ?_
    refine lv_iload_n hx hb d_RS_ask_6 rfl (lv_at hl 2 rfl) ?_
    by_cases c_2 : f_RS_needPiece F A pc = 0
    · have hv := hv.trans (if_pos c_2)
      refine rdVv ⟨hx, hb, hml, hown, hW⟩ (c_RS_needPiece_k l dC dI r k F A pc   c_2) (cwV 1 hW (gIn k_12 k_13 k_14 k_15 k_16) rfl rfl rfl (by decide +kernel) ⟨Nat.le_of_ble_eq_true rfl, Nat.le_of_ble_eq_true rfl⟩) hK hP (va_recv hK hP (ci := 0) (q0 := 0) rfl rfl) rfl hl.1 rfl (Nat.le_of_ble_eq_true rfl) d_RS_ask_7 ⟨Nat.zero_le _, Nat.zero_le _⟩ ?_
      refine lv_aload_n hx hb d_RS_ask_10 rfl (lv_at hl 0 rfl) ?_
      refine lv_iload_n hx hb d_RS_ask_11 rfl (lv_at hl 3 rfl) ?_
      refine lv_iload hx hb d_RS_ask_12 (lv_at hl 4 rfl) ?_
      by_cases c_3 : f_RS_needSpan F A fr tt = 0
      · have hv := hv.trans (if_pos c_3)
        refine rdVv ⟨hx, hb, hml, hown, hW⟩ (c_RS_needSpan_k l dC dI r k F A fr tt   c_3) (cwV 2 hW (gIn k_81 k_82 k_83 k_15 k_84) rfl rfl rfl (by decide +kernel) ⟨Nat.le_of_ble_eq_true rfl, Nat.le_of_ble_eq_true rfl⟩) hK hP (va_recv hK hP (ci := 0) (q0 := 0) rfl rfl) rfl hl.1 rfl (Nat.le_of_ble_eq_true rfl) d_RS_ask_14 ⟨Nat.zero_le _, Nat.zero_le _⟩ ?_
        refine lv_aload_n hx hb d_RS_ask_17 rfl (lv_at hl 0 rfl) ?_
        refine lv_iload hx hb d_RS_ask_18 (lv_at hl 5 rfl) ?_
        by_cases c_4 : f_RS_needPriority F A pr = 0
        · have hv := hv.trans (if_pos c_4)
          refine rdVv ⟨hx, hb, hml, hown, hW⟩ (c_RS_needPriority_k l dC dI r k F A pr   c_4) (cwV 1 hW (gIn k_85 k_86 k_87 k_15 k_88) rfl rfl rfl (by decide +kernel) ⟨Nat.le_of_ble_eq_true rfl, Nat.le_of_ble_eq_true rfl⟩) hK hP (va_recv hK hP (ci := 0) (q0 := 0) rfl rfl) rfl hl.1 rfl (Nat.le_of_ble_eq_true rfl) d_RS_ask_20 ⟨Nat.zero_le _, Nat.zero_le _⟩ ?_
          refine lv_aload_n hx hb d_RS_ask_23 rfl (lv_at hl 0 rfl) ?_
          refine lv_iload_n hx hb d_RS_ask_24 rfl (lv_at hl 1 rfl) ?_
          by_cases c_5 : f_RS_needActive F A rb = 0
          · have hv := hv.trans (if_pos c_5)
            refine rdVv ⟨hx, hb, hml, hown, hW⟩ (c_RS_needActive_k l dC dI r k F A rb hI (ixR hI c_1) c_5) (cwV 1 hW (gIn k_89 k_90 k_91 k_15 k_92) rfl rfl rfl (by decide +kernel) ⟨Nat.le_of_ble_eq_true rfl, Nat.le_of_ble_eq_true rfl⟩) hK hP (va_recv hK hP (ci := 0) (q0 := 0) rfl rfl) rfl hl.1 rfl (Nat.le_of_ble_eq_true rfl) d_RS_ask_25 ⟨Nat.zero_le _, Nat.zero_le _⟩ ?_
            refine lv_aload_n hx hb d_RS_ask_28 rfl (lv_at hl 0 rfl) ?_
            refine va_get (D := (dC, dI)) (ci := 0) (v := .ref (r 2)) (C := R_RS) (T := F_RS) (N := 6) hx hb hW i_RS hown hK hP 0 rfl rfl 5 (by decide) (hW _ k_5) (fun _ h9 => h9) rfl d_RS_ask_29 ?_
            refine va_get (D := (dC, dI)) (ci := 2) (v := .int (F 3)) (C := R_Gr) (T := F_Gr) (N := 7) hx hb hW i_Gr hown hK hP 2 rfl rfl 0 (by decide) (hW _ k_6) (fun _ h9 => h9) rfl d_RS_ask_32 ?_
            refine lv_bipush (v := 60) hx hb d_RS_ask_35 (by decide) ?_
            refine lv_icmp_lt (tgt := 50) hx hb d_RS_ask_37 (by decide) (fun c_6 => ?_) (fun c_6 => ?_)
            · have hv := hv.trans (if_pos c_6)
              exact (hk ((congrArg Prod.fst hv).trans (by first | rfl | ((repeat' split) <;> (first | rfl | exact cd_next_L _ _ _ _ _ _ _))))).elim
            · have hv := hv.trans (if_neg c_6)
              exact thr hx hb hl9 hown hW hXS tw_10 hS (hl.1.trans hml.symm) d_RS_ask_40 d_RS_ask_43 d_RS_ask_44 d_RS_ask_46 d_RS_ask_49 hEx (Nat.le_of_ble_eq_true rfl) (Nat.le_of_ble_eq_true rfl) (Nat.le_of_ble_eq_true rfl) (Nat.le_of_ble_eq_true rfl) hlocks (fun t ha hsz hk9 => ⟨4, hv, ⟨rfl, hP.kept (fun k9 q hq => hk9 q.1 (hP k9 q hq).lt), va_K.moved ha hK, hD⟩, Nat.le_trans hS.1 hsz, fun q h1 h2 => (hk9 q (Nat.lt_of_lt_of_le h1 hS.1)).trans (hS.2.1 q h1 h2)⟩) hS.2.2 (Nat.le_of_ble_eq_true rfl) (Nat.le_of_ble_eq_true rfl)
          · have hv := hv.trans (if_neg c_5)
            refine gdV ⟨hx, hb, hml, hown, hW⟩ (c_RS_needActive_x l hl9 dC dI r k F A _ rb hI (ixR hI c_1) c_5) (cwV 1 hW (gIn k_89 k_90 k_91 k_15 k_92) rfl rfl rfl (by decide +kernel) ⟨Nat.le_of_ble_eq_true rfl, Nat.le_of_ble_eq_true rfl⟩) hK hP hXS hA (va_recv hK hP (ci := 0) (q0 := 0) rfl rfl) hS rfl hl.1 rfl (Nat.le_of_ble_eq_true rfl) d_RS_ask_25 ⟨Nat.le_of_ble_eq_true rfl, Nat.le_of_ble_eq_true rfl⟩ (fun H locs q9 ce hP hS hce hcv hcl => ?_)
            exact vx_out (E := exN (f_RS_needActive F A rb)) (fun x hx => (hEx x hx).elim) hlocks hce hcv hcl (fun t ht ha => ⟨f_RS_needActive F A rb, hv, ⟨rfl, by rw [ht]; exact hP, va_K.moved ha hK, hD⟩, hS.F ht⟩) hS.2.2 (Nat.le_of_ble_eq_true rfl) (Nat.le_of_ble_eq_true rfl)
        · have hv := hv.trans (if_neg c_4)
          refine gdV ⟨hx, hb, hml, hown, hW⟩ (c_RS_needPriority_x l hl9 dC dI r k F A _ pr   c_4) (cwV 1 hW (gIn k_85 k_86 k_87 k_15 k_88) rfl rfl rfl (by decide +kernel) ⟨Nat.le_of_ble_eq_true rfl, Nat.le_of_ble_eq_true rfl⟩) hK hP hXS hA (va_recv hK hP (ci := 0) (q0 := 0) rfl rfl) hS rfl hl.1 rfl (Nat.le_of_ble_eq_true rfl) d_RS_ask_20 ⟨Nat.le_of_ble_eq_true rfl, Nat.le_of_ble_eq_true rfl⟩ (fun H locs q9 ce hP hS hce hcv hcl => ?_)
          exact vx_out (E := exN (f_RS_needPriority F A pr)) (fun x hx => (hEx x hx).elim) hlocks hce hcv hcl (fun t ht ha => ⟨f_RS_needPriority F A pr, hv, ⟨rfl, by rw [ht]; exact hP, va_K.moved ha hK, hD⟩, hS.F ht⟩) hS.2.2 (Nat.le_of_ble_eq_true rfl) (Nat.le_of_ble_eq_true rfl)
      · have hv := hv.trans (if_neg c_3)
        refine gdV ⟨hx, hb, hml, hown, hW⟩ (c_RS_needSpan_x l hl9 dC dI r k F A _ fr tt   c_3) (cwV 2 hW (gIn k_81 k_82 k_83 k_15 k_84) rfl rfl rfl (by decide +kernel) ⟨Nat.le_of_ble_eq_true rfl, Nat.le_of_ble_eq_true rfl⟩) hK hP hXS hA (va_recv hK hP (ci := 0) (q0 := 0) rfl rfl) hS rfl hl.1 rfl (Nat.le_of_ble_eq_true rfl) d_RS_ask_14 ⟨Nat.le_of_ble_eq_true rfl, Nat.le_of_ble_eq_true rfl⟩ (fun H locs q9 ce hP hS hce hcv hcl => ?_)
        exact vx_out (E := exN (f_RS_needSpan F A fr tt)) (fun x hx => (hEx x hx).elim) hlocks hce hcv hcl (fun t ht ha => ⟨f_RS_needSpan F A fr tt, hv, ⟨rfl, by rw [ht]; exact hP, va_K.moved ha hK, hD⟩, hS.F ht⟩) hS.2.2 (Nat.le_of_ble_eq_true rfl) (Nat.le_of_ble_eq_true rfl)
    · have hv := hv.trans (if_neg c_2)
      refine gdV ⟨hx, hb, hml, hown, hW⟩ (c_RS_needPiece_x l hl9 dC dI r k F A _ pc   c_2) (cwV 1 hW (gIn k_12 k_13 k_14 k_15 k_16) rfl rfl rfl (by decide +kernel) ⟨Nat.le_of_ble_eq_true rfl, Nat.le_of_ble_eq_true rfl⟩) hK hP hXS hA (va_recv hK hP (ci := 0) (q0 := 0) rfl rfl) hS rfl hl.1 rfl (Nat.le_of_ble_eq_true rfl) d_RS_ask_7 ⟨Nat.le_of_ble_eq_true rfl, Nat.le_of_ble_eq_true rfl⟩ (fun H locs q9 ce hP hS hce hcv hcl => ?_)
      exact vx_out (E := exN (f_RS_needPiece F A pc)) (fun x hx => (hEx x hx).elim) hlocks hce hcv hcl (fun t ht ha => ⟨f_RS_needPiece F A pc, hv, ⟨rfl, by rw [ht]; exact hP, va_K.moved ha hK, hD⟩, hS.F ht⟩) hS.2.2 (Nat.le_of_ble_eq_true rfl) (Nat.le_of_ble_eq_true rfl)
  · have hv := hv.trans (if_neg c_1)
    refine gdV ⟨hx, hb, hml, hown, hW⟩ (c_RS_needRobot_x l hl9 dC dI r k F A _ rb   c_1) (cwV 1 hW (gIn k_77 k_78 k_79 k_15 k_80) rfl rfl rfl (by decide +kernel) ⟨Nat.le_of_ble_eq_true rfl, Nat.le_of_ble_eq_true rfl⟩) hK hP hXS hA (va_recv hK hP (ci := 0) (q0 := 0) rfl rfl) hS rfl hl.1 rfl (Nat.le_of_ble_eq_true rfl) d_RS_ask_2 ⟨Nat.le_of_ble_eq_true rfl, Nat.le_of_ble_eq_true rfl⟩ (fun H locs q9 ce hP hS hce hcv hcl => ?_)
    exact vx_out (E := exN (f_RS_needRobot F A rb)) (fun x hx => (hEx x hx).elim) hlocks hce hcv hcl (fun t ht ha => ⟨f_RS_needRobot F A rb, hv, ⟨rfl, by rw [ht]; exact hP, va_K.moved ha hK, hD⟩, hS.F ht⟩) hS.2.2 (Nat.le_of_ble_eq_true rfl) (Nat.le_of_ble_eq_true rfl)
def f_Gr_isLiveOf (F : Nat → Int32) (A : Nat → Nat → Int32) (gr rb : Int32) : Int32 := if f_Gr_isLive F A gr = 0 then 0 else (if A 8 gr.toNatClampNeg = rb then 1 else 0)
set_option maxHeartbeats 4000000 in
set_option maxRecDepth 100000 in
theorem c_Gr_isLiveOf (l : Launch) (dC : Nat → ClassId) (dI : Nat → Nat → Nat) (r : Nat → Nat) (k : Nat → ClassId) (F : Nat → Int32) (A : Nat → Nat → Int32) (gr rb : Int32) (hI : CI F) (h_gr : vp_in gr 61) : Met l y_Gr_isLiveOf w_Gr_isLiveOf ({ frames := 1, cells := 0, slots := 0, locals := 21 }) (va_Pc [.ref (r 2), .int gr, .int rb] (RO (dC, dI) (wC r k F A) (tC k))) (vp_Si (fun v => v = f_Gr_isLiveOf F A gr rb)) 0 0 (fun _ => False) := by
  refine Met.ofW (cc := b_Gr_isLiveOf) (maxL := 3) (ret := (some .boolean)) (by decide) rfl ?_
  intro p e s m args below meth c s₁ B hml hv0
  obtain ⟨rfl, hP, hK⟩ := hv0
  have hx := B.exec
  have hb := B.bytes
  have hr := B.returns
  have hts := atoms_spec (ws := w_Gr_isLiveOf) B.pre
  have hW : ∀ w ∈ WALL, w.before ([.ref (r 2), .int gr, .int rb] : List Value).toArray s = true := fun w h => hts w (List.mem_cons_of_mem _ h)
  have hown : s.vm.findClass R_Gr = some m.cls := findClass_of_methodNamed B.named
  have hlocks := B.notSynchronized
  have hl := lv_entry ([.ref (r 2), .int gr, .int rb]) (n := 3) (Nat.le_of_ble_eq_true rfl)
  rw [lg_entry_eq]
  generalize (lg_sl ([.ref (r 2), .int gr, .int rb]) ++ List.replicate (3 - (lg_sl ([.ref (r 2), .int gr, .int rb])).length) Slot.unset).toArray = ls at hl ⊢
  have hl : lv_has ls 3 [(0, .ref (r 2)), (1, .int gr), (2, .int rb)] := hl
  obtain ⟨⟨hp0, hp1⟩, ⟨hr0, hr1⟩, hg0, hg1⟩ := id hI; have hr2 : (F 2).toInt ≤ 60 := Int.le_trans hr1 (by decide)
  have hv := f_Gr_isLiveOf.eq_1 F A gr rb
  refine lv_aload_n hx hb d_Gr_isLiveOf_0 rfl (lv_at hl 0 rfl) ?_
  refine lv_iload_n hx hb d_Gr_isLiveOf_1 rfl (lv_at hl 1 rfl) ?_
  refine rdV ⟨hx, hb, hml, hown, hW⟩ (c_Gr_isLive l dC dI r k F A gr hI h_gr) (cwV 1 hW (gIn k_49 k_50 k_51 k_52 k_53) rfl rfl rfl (by decide +kernel) ⟨Nat.le_of_ble_eq_true rfl, Nat.le_of_ble_eq_true rfl⟩) hK hP (va_recv hK hP (ci := 2) (q0 := 2) rfl rfl) rfl hl.1 rfl (Nat.le_of_ble_eq_true rfl) d_Gr_isLiveOf_2 ⟨Nat.zero_le _, Nat.zero_le _⟩ ?_
  refine lv_if_eq (tgt := 22) hx hb d_Gr_isLiveOf_5 (by decide) (fun c_1 => ?_) (fun c_1 => ?_)
  · have hv := hv.trans (if_pos c_1)
    refine lv_iconst (v := 0) hx hb d_Gr_isLiveOf_22 (by decide) ?_
    exact W.zret (v := 0) (ty := .boolean) hx hb hr rfl (fun t ht hW9 => ⟨0, rfl, hv.symm, ht⟩) (fun q hq => nomatch hq) d_Gr_isLiveOf_23
  · have hv := hv.trans (if_neg c_1)
    refine lv_aload_n hx hb d_Gr_isLiveOf_8 rfl (lv_at hl 0 rfl) ?_
    refine va_get (D := (dC, dI)) (ci := 2) (v := .ref (r 11)) (C := R_Gr) (T := F_Gr) (N := 7) hx hb hW i_Gr hown hK hP 2 rfl rfl 1 (by decide) (hW _ k_60) (fun _ h9 => h9) rfl d_Gr_isLiveOf_9 ?_
    refine lv_iload_n hx hb d_Gr_isLiveOf_12 rfl (lv_at hl 1 rfl) ?_
    refine va_iald hx hb hK hP 11 8 rfl rfl h_gr d_Gr_isLiveOf_13 ?_
    refine lv_iload_n hx hb d_Gr_isLiveOf_14 rfl (lv_at hl 2 rfl) ?_
    refine lv_icmp_ne (tgt := 22) hx hb d_Gr_isLiveOf_15 (by decide) (fun c_2 => ?_) (fun c_2 => ?_)
    · have hv := hv.trans (if_neg c_2)
      refine lv_iconst (v := 0) hx hb d_Gr_isLiveOf_22 (by decide) ?_
      exact W.zret (v := 0) (ty := .boolean) hx hb hr rfl (fun t ht hW9 => ⟨0, rfl, hv.symm, ht⟩) (fun q hq => nomatch hq) d_Gr_isLiveOf_23
    · have hv := hv.trans (if_pos c_2)
      refine lv_iconst (v := 1) hx hb d_Gr_isLiveOf_18 (by decide) ?_
      refine lv_goto (tgt := 23) hx hb d_Gr_isLiveOf_19 (by decide) ?_
      exact W.zret (v := 1) (ty := .boolean) hx hb hr rfl (fun t ht hW9 => ⟨1, rfl, hv.symm, ht⟩) (fun q hq => nomatch hq) d_Gr_isLiveOf_23
def f_Gr_liveOf_L4 (F : Nat → Int32) (A : Nat → Nat → Int32) (rb : Int32) : Nat → Int32 → Int32 → Int32
  | 0, _, _ => 0
  | n4 + 1, x2, x3 => if F 3 < x3 then x2 else (if f_Gr_isLiveOf F A x3 rb = 0 then (f_Gr_liveOf_L4 F A rb n4 x2 (x3 + 1)) else (f_Gr_liveOf_L4 F A rb n4 (x2 + 1) (x3 + 1)))
def f_Gr_liveOf (F : Nat → Int32) (A : Nat → Nat → Int32) (rb : Int32) : Int32 := f_Gr_liveOf_L4 F A rb 64 0 1
set_option maxHeartbeats 4000000 in
set_option maxRecDepth 100000 in
theorem c_Gr_liveOf (l : Launch) (dC : Nat → ClassId) (dI : Nat → Nat → Nat) (r : Nat → Nat) (k : Nat → ClassId) (F : Nat → Int32) (A : Nat → Nat → Int32) (rb : Int32) (hI : CI F) : Met l y_Gr_liveOf w_Gr_liveOf ({ frames := 2, cells := 0, slots := 0, locals := 43 }) (va_Pc [.ref (r 2), .int rb] (RO (dC, dI) (wC r k F A) (tC k))) (vp_Si (fun v => v = f_Gr_liveOf F A rb)) 0 0 (fun _ => False) := by
  refine Met.ofW (cc := b_Gr_liveOf) (maxL := 4) (ret := (some .int)) (by decide) rfl ?_
  intro p e s m args below meth c s₁ B hml hv0
  obtain ⟨rfl, hP, hK⟩ := hv0
  have hx := B.exec
  have hb := B.bytes
  have hr := B.returns
  have hts := atoms_spec (ws := w_Gr_liveOf) B.pre
  have hW : ∀ w ∈ WALL, w.before ([.ref (r 2), .int rb] : List Value).toArray s = true := fun w h => hts w (List.mem_cons_of_mem _ h)
  have hown : s.vm.findClass R_Gr = some m.cls := findClass_of_methodNamed B.named
  have hlocks := B.notSynchronized
  have hl := lv_entry ([.ref (r 2), .int rb]) (n := 4) (Nat.le_of_ble_eq_true rfl)
  rw [lg_entry_eq]
  generalize (lg_sl ([.ref (r 2), .int rb]) ++ List.replicate (4 - (lg_sl ([.ref (r 2), .int rb])).length) Slot.unset).toArray = ls at hl ⊢
  have hl : lv_has ls 4 [(0, .ref (r 2)), (1, .int rb)] := hl
  obtain ⟨⟨hp0, hp1⟩, ⟨hr0, hr1⟩, hg0, hg1⟩ := id hI; have hr2 : (F 2).toInt ≤ 60 := Int.le_trans hr1 (by decide)
  have hv := f_Gr_liveOf.eq_1 F A rb
  refine lv_iconst (v := 0) hx hb d_Gr_liveOf_0 (by decide) ?_
  refine lv_istore_n (lv' := [(2, .int 0), (0, .ref (r 2)), (1, .int rb)]) hx hb d_Gr_liveOf_1 rfl hl (by decide) rfl (fun ls hl => ?_)
  refine lv_iconst (v := 1) hx hb d_Gr_liveOf_2 (by decide) ?_
  refine lv_istore_n (lv' := [(3, .int 1), (2, .int 0), (0, .ref (r 2)), (1, .int rb)]) hx hb d_Gr_liveOf_3 rfl hl (by decide) rfl (fun ls hl => ?_)
  have loop4 : ∀ (n4 : Nat) (x2 : Int32) (x3 : Int32) (ls : Array Slot), LA (F 3) x3 n4 → f_Gr_liveOf F A rb = f_Gr_liveOf_L4 F A rb n4 x2 x3 → lv_has ls 4 [(0, .ref (r 2)), (1, .int rb), (2, .int x2), (3, .int x3)] → W p l e (headSpec w_Gr_liveOf ({ frames := 2, cells := 0, slots := 0, locals := 43 })).room s m ([.ref (r 2), .int rb] : List Value).toArray below meth c s.heap [] 0 0 (MQ below (vp_Si (fun v => v = f_Gr_liveOf F A rb)) ([.ref (r 2), .int rb] : List Value).toArray s 0 0 (fun _ => False)) (F0 m 4 ls []) := by
    intro n4
    induction n4 with
    | zero => intro x2 x3 ls hlp; exact (hlp.z).elim
    | succ n4 ih4 =>
      intro x2 x3 ls hlp4 hv hl
      rw [f_Gr_liveOf_L4] at hv
      refine lv_iload_n hx hb d_Gr_liveOf_4 rfl (lv_at hl 3 rfl) ?_
      refine lv_aload_n hx hb d_Gr_liveOf_5 rfl (lv_at hl 0 rfl) ?_
      refine va_get (D := (dC, dI)) (ci := 2) (v := .int (F 3)) (C := R_Gr) (T := F_Gr) (N := 7) hx hb hW i_Gr hown hK hP 2 rfl rfl 0 (by decide) (hW _ k_74) (fun _ h9 => h9) rfl d_Gr_liveOf_6 ?_
      refine lv_icmp_gt (tgt := 30) hx hb d_Gr_liveOf_9 (by decide) (fun c_1 => ?_) (fun c_1 => ?_)
      · have hv := hv.trans (if_pos c_1)
        refine lv_iload_n hx hb d_Gr_liveOf_30 rfl (lv_at hl 2 rfl) ?_
        exact W.iret (v := x2) hx hb hr (fun t ht hW9 => ⟨x2, rfl, hv.symm, ht⟩) (fun q hq => nomatch hq) d_Gr_liveOf_31
      · have hv := hv.trans (if_neg c_1)
        refine lv_aload_n hx hb d_Gr_liveOf_12 rfl (lv_at hl 0 rfl) ?_
        refine lv_iload_n hx hb d_Gr_liveOf_13 rfl (lv_at hl 3 rfl) ?_
        refine lv_iload_n hx hb d_Gr_liveOf_14 rfl (lv_at hl 1 rfl) ?_
        refine rdV ⟨hx, hb, hml, hown, hW⟩ (c_Gr_isLiveOf l dC dI r k F A x3 rb hI (LA.ix hlp4 c_1 hg1)) (cwV 2 hW (gIn k_110 k_111 k_112 k_52 k_113) rfl rfl rfl (by decide +kernel) ⟨Nat.le_of_ble_eq_true rfl, Nat.le_of_ble_eq_true rfl⟩) hK hP (va_recv hK hP (ci := 2) (q0 := 2) rfl rfl) rfl hl.1 rfl (Nat.le_of_ble_eq_true rfl) d_Gr_liveOf_15 ⟨Nat.zero_le _, Nat.zero_le _⟩ ?_
        refine lv_if_eq (tgt := 24) hx hb d_Gr_liveOf_18 (by decide) (fun c_2 => ?_) (fun c_2 => ?_)
        · have hv := hv.trans (if_pos c_2)
          refine lv_iinc (v := x3 + 1) (lv' := [(3, .int (x3 + 1)), (0, .ref (r 2)), (1, .int rb), (2, .int x2)]) hx hb d_Gr_liveOf_24 hl (k := 3) rfl rfl (by decide) rfl (fun ls hl => ?_)
          refine lv_goto (tgt := 4) hx hb d_Gr_liveOf_27 (by decide) ?_
          exact ih4 x2 (x3 + 1) ls (LA.s hlp4 c_1 hg1) hv (lv_sub hl [1, 2, 3, 0] rfl)
        · have hv := hv.trans (if_neg c_2)
          refine lv_iinc (v := x2 + 1) (lv' := [(2, .int (x2 + 1)), (0, .ref (r 2)), (1, .int rb), (3, .int x3)]) hx hb d_Gr_liveOf_21 hl (k := 2) rfl rfl (by decide) rfl (fun ls hl => ?_)
          refine lv_iinc (v := x3 + 1) (lv' := [(3, .int (x3 + 1)), (2, .int (x2 + 1)), (0, .ref (r 2)), (1, .int rb)]) hx hb d_Gr_liveOf_24 hl (k := 3) rfl rfl (by decide) rfl (fun ls hl => ?_)
          refine lv_goto (tgt := 4) hx hb d_Gr_liveOf_27 (by decide) ?_
          exact ih4 (x2 + 1) (x3 + 1) ls (LA.s hlp4 c_1 hg1) hv (lv_sub hl [2, 3, 1, 0] rfl)
  exact loop4 64 0 1 ls (LA.i hg0 hg1) hv (lv_sub hl [2, 3, 1, 0] rfl)
def f_RS_free (F : Nat → Int32) (A : Nat → Nat → Int32) (gr : Int32) : Nat × Int32 × SC := if f_RS_needGrant F A gr = 0 then (if f_Gr_isLive F A gr = 0 then (3, 0, F, A) else (0, f_Gr_liveOf F (uA A 13 (upd (A 13) gr.toNatClampNeg 2)) ((uA A 13 (upd (A 13) gr.toNatClampNeg 2)) 8 gr.toNatClampNeg), F, (uA A 13 (upd (A 13) gr.toNatClampNeg 2)))) else (f_RS_needGrant F A gr, 0, F, A)
set_option maxHeartbeats 4000000 in
set_option maxRecDepth 100000 in
theorem c_RS_free_k (l : Launch) (dC : Nat → ClassId) (dI : Nat → Nat → Nat) (r : Nat → Nat) (k : Nat → ClassId) (F : Nat → Int32) (A : Nat → Nat → Int32) (sz : Nat) (gr : Int32) (hI : CI F) (hk : (f_RS_free F A gr).1 = 0) : Met l y_RS_free w_RS_free ({ frames := 3, cells := 0, slots := 0, locals := 66 }) (va_Pc [.ref (r 0), .int gr] (SP (dC, dI) (wC r k F A) (tC k) sz)) (va_Qi (fun v (u : SC) => (0, v, u) = f_RS_free F A gr) (fun (u : SC) t => aW (dC, dI) (tC k) (va_A (wC r k F A) sz) (wC r k u.1 u.2) t) (va_A (wC r k F A) sz)) 0 0 (va_A (wC r k F A) sz) := by
  refine Met.ofW (cc := b_RS_free) (maxL := 2) (ret := (some .int)) (by decide) rfl ?_
  intro p e s m args below meth c s₁ B hml hv0
  obtain ⟨rfl, hsz, hP, hK, hD0⟩ := hv0
  have hx := B.exec
  have hb := B.bytes
  have hr := B.returns
  have hts := atoms_spec (ws := w_RS_free) B.pre
  have hW : ∀ w ∈ WALL, w.before ([.ref (r 0), .int gr] : List Value).toArray s = true := fun w h => hts w (List.mem_cons_of_mem _ h)
  have hown : s.vm.findClass R_RS = some m.cls := findClass_of_methodNamed B.named
  have hlocks := B.notSynchronized
  subst hsz
  have hD := hD0.self (sz := s.heap.size)
  generalize hAe : va_A (wC r k F A) s.heap.size = Ad at hD ⊢
  have hA : ∀ q : Nat, s.heap.size ≤ q → Ad q := fun q h => by rw [← hAe]; exact Or.inr h
  have hS : va_S Ad s.heap s.heap [] := va_S.rf
  have hl := lv_entry ([.ref (r 0), .int gr]) (n := 2) (Nat.le_of_ble_eq_true rfl)
  rw [lg_entry_eq]
  generalize (lg_sl ([.ref (r 0), .int gr]) ++ List.replicate (2 - (lg_sl ([.ref (r 0), .int gr])).length) Slot.unset).toArray = ls at hl ⊢
  have hl : lv_has ls 2 [(0, .ref (r 0)), (1, .int gr)] := hl
  obtain ⟨⟨hp0, hp1⟩, ⟨hr0, hr1⟩, hg0, hg1⟩ := id hI; have hr2 : (F 2).toInt ≤ 60 := Int.le_trans hr1 (by decide)
  have hv := f_RS_free.eq_1 F A gr
  refine lv_aload_n hx hb d_RS_free_0 rfl (lv_at hl 0 rfl) ?_
  refine lv_iload_n hx hb d_RS_free_1 rfl (lv_at hl 1 rfl) ?_
  by_cases c_1 : f_RS_needGrant F A gr = 0
  · have hv := hv.trans (if_pos c_1)
    refine rdVv ⟨hx, hb, hml, hown, hW⟩ (c_RS_needGrant_k l dC dI r k F A gr   c_1) (cwV 1 hW (gIn k_114 k_115 k_116 k_15 k_117) rfl rfl rfl (by decide +kernel) ⟨Nat.le_of_ble_eq_true rfl, Nat.le_of_ble_eq_true rfl⟩) hK hP (va_recv hK hP (ci := 0) (q0 := 0) rfl rfl) rfl hl.1 rfl (Nat.le_of_ble_eq_true rfl) d_RS_free_2 ⟨Nat.zero_le _, Nat.zero_le _⟩ ?_
    refine lv_aload_n hx hb d_RS_free_5 rfl (lv_at hl 0 rfl) ?_
    refine va_get (D := (dC, dI)) (ci := 0) (v := .ref (r 2)) (C := R_RS) (T := F_RS) (N := 6) hx hb hW i_RS hown hK hP 0 rfl rfl 5 (by decide) (hW _ k_5) (fun _ h9 => h9) rfl d_RS_free_6 ?_
    refine lv_iload_n hx hb d_RS_free_9 rfl (lv_at hl 1 rfl) ?_
    refine rdV ⟨hx, hb, hml, hown, hW⟩ (c_Gr_isLive l dC dI r k F A gr hI (ixG hI c_1)) (cwV 1 hW (gIn k_118 k_50 k_51 k_52 k_53) rfl rfl rfl (by decide +kernel) ⟨Nat.le_of_ble_eq_true rfl, Nat.le_of_ble_eq_true rfl⟩) hK hP (va_recv hK hP (ci := 2) (q0 := 2) rfl rfl) rfl hl.1 rfl (Nat.le_of_ble_eq_true rfl) d_RS_free_10 ⟨Nat.zero_le _, Nat.zero_le _⟩ ?_
    refine lv_if_ne (tgt := 26) hx hb d_RS_free_13 (by decide) (fun c_2 => ?_) (fun c_2 => ?_)
    · have hv := hv.trans (if_neg c_2)
      refine lv_aload_n hx hb d_RS_free_26 rfl (lv_at hl 0 rfl) ?_
      refine va_get (D := (dC, dI)) (ci := 0) (v := .ref (r 2)) (C := R_RS) (T := F_RS) (N := 6) hx hb hW i_RS hown hK hP 0 rfl rfl 5 (by decide) (hW _ k_5) (fun _ h9 => h9) rfl d_RS_free_27 ?_
      refine va_get (D := (dC, dI)) (ci := 2) (v := .ref (r 16)) (C := R_Gr) (T := F_Gr) (N := 7) hx hb hW i_Gr hown hK hP 2 rfl rfl 6 (by decide) (hW _ k_119) (fun _ h9 => h9) rfl d_RS_free_30 ?_
      refine lv_iload_n hx hb d_RS_free_33 rfl (lv_at hl 1 rfl) ?_
      refine lv_iconst (v := 2) hx hb d_RS_free_34 (by decide) ?_
      refine va_iast hx hb hK hP hD hS 16 13 rfl rfl (ixG hI c_1) d_RS_free_35 (fun H locs hP hD hS => ?_)
      have hP := pCA_13 hP
      have hD := dCA_13 hD
      generalize hAg1 : (uA A 13 (upd (A 13) gr.toNatClampNeg 2)) = A1_ at hP hD hv
      refine lv_aload_n hx hb d_RS_free_36 rfl (lv_at hl 0 rfl) ?_
      refine va_get (D := (dC, dI)) (ci := 0) (v := .ref (r 2)) (C := R_RS) (T := F_RS) (N := 6) hx hb hW i_RS hown hK hP 0 rfl rfl 5 (by decide) (hW _ k_5) (fun _ h9 => h9) rfl d_RS_free_37 ?_
      refine lv_aload_n hx hb d_RS_free_40 rfl (lv_at hl 0 rfl) ?_
      refine va_get (D := (dC, dI)) (ci := 0) (v := .ref (r 2)) (C := R_RS) (T := F_RS) (N := 6) hx hb hW i_RS hown hK hP 0 rfl rfl 5 (by decide) (hW _ k_5) (fun _ h9 => h9) rfl d_RS_free_41 ?_
      refine va_get (D := (dC, dI)) (ci := 2) (v := .ref (r 11)) (C := R_Gr) (T := F_Gr) (N := 7) hx hb hW i_Gr hown hK hP 2 rfl rfl 1 (by decide) (hW _ k_120) (fun _ h9 => h9) rfl d_RS_free_44 ?_
      refine lv_iload_n hx hb d_RS_free_47 rfl (lv_at hl 1 rfl) ?_
      refine va_iald hx hb hK hP 11 8 rfl rfl (ixG hI c_1) d_RS_free_48 ?_
      refine rdV ⟨hx, hb, hml, hown, hW⟩ (c_Gr_liveOf l dC dI r k F A1_ (A1_ 8 gr.toNatClampNeg) hI ) (cwV 1 hW (gIn k_121 k_122 k_123 k_52 k_124) rfl rfl rfl (by decide +kernel) ⟨Nat.le_of_ble_eq_true rfl, Nat.le_of_ble_eq_true rfl⟩) hK hP (va_recv hK hP (ci := 2) (q0 := 2) rfl rfl) rfl hl.1 rfl (Nat.le_of_ble_eq_true rfl) d_RS_free_49 ⟨Nat.zero_le _, Nat.zero_le _⟩ ?_
      exact W.iret (v := f_Gr_liveOf F A1_ (A1_ 8 gr.toNatClampNeg)) hx hb hr (fun t ht hW9 => ⟨⟨f_Gr_liveOf F A1_ (A1_ 8 gr.toNatClampNeg), (F, A1_), rfl, hv.symm, by rw [ht]; exact hP, va_K.moved hW9.alike hK, hD⟩, hS.F ht⟩) hS.2.2 d_RS_free_52
    · have hv := hv.trans (if_pos c_2)
      rw [hv] at hk
      exact absurd (show (3 : Nat) = 0 from hk) (by decide)
  · have hv := hv.trans (if_neg c_1)
    rw [hv] at hk
    exact absurd hk c_1
set_option maxHeartbeats 4000000 in
set_option maxRecDepth 100000 in
theorem c_RS_free_x (l : Launch) (hl9 : l.stackTraces = false) (dC : Nat → ClassId) (dI : Nat → Nat → Nat) (r : Nat → Nat) (k : Nat → ClassId) (F : Nat → Int32) (A : Nat → Nat → Int32) (sz : Nat) (gr : Int32) (hI : CI F) (hk : ¬ (f_RS_free F A gr).1 = 0) : vx_Met l y_RS_free w_RS_free ({ frames := 7, cells := 1, slots := 6, locals := 103 }) (va_Pc [.ref (r 0), .int gr] (XP (dC, dI) (wC r k F A) (tC k) sz)) (va_Qi (fun _ (_ : SC) => False) (fun (u : SC) t => aW (dC, dI) (tC k) (va_A (wC r k F A) sz) (wC r k u.1 u.2) t) (va_A (wC r k F A) sz)) (vx_X (fun u : Nat => f_RS_free F A gr = (u, 0, F, A)) (fun E u t => E = exN u ∧ aW (dC, dI) (tC k) (va_A (wC r k F A) sz) (wC r k F A) t) (va_A (wC r k F A) sz)) 1 6 (va_A (wC r k F A) sz) := by
  refine vx_ofW (cc := b_RS_free) (maxL := 2) (ret := (some .int)) (by decide) rfl ?_
  intro p e s m args below meth c s₁ B hml hEx hv0
  obtain ⟨rfl, ⟨hsz, hP, hK, hD0⟩, hXS⟩ := hv0
  have hx := B.exec
  have hb := B.bytes
  have hr := B.returns
  have hts := atoms_spec (ws := w_RS_free) B.pre
  have hW : ∀ w ∈ WALL, w.before ([.ref (r 0), .int gr] : List Value).toArray s = true := fun w h => hts w (List.mem_cons_of_mem _ h)
  have hown : s.vm.findClass R_RS = some m.cls := findClass_of_methodNamed B.named
  have hlocks := B.notSynchronized
  subst hsz
  have hD := hD0.self (sz := s.heap.size)
  generalize hAe : va_A (wC r k F A) s.heap.size = Ad at hD hXS ⊢
  have hA : ∀ q : Nat, s.heap.size ≤ q → Ad q := fun q h => by rw [← hAe]; exact Or.inr h
  have hS : va_S Ad s.heap s.heap [] := va_S.rf
  have hl := lv_entry ([.ref (r 0), .int gr]) (n := 2) (Nat.le_of_ble_eq_true rfl)
  rw [lg_entry_eq]
  generalize (lg_sl ([.ref (r 0), .int gr]) ++ List.replicate (2 - (lg_sl ([.ref (r 0), .int gr])).length) Slot.unset).toArray = ls at hl ⊢
  have hl : lv_has ls 2 [(0, .ref (r 0)), (1, .int gr)] := hl
  obtain ⟨⟨hp0, hp1⟩, ⟨hr0, hr1⟩, hg0, hg1⟩ := id hI; have hr2 : (F 2).toInt ≤ 60 := Int.le_trans hr1 (by decide)
  have hv := f_RS_free.eq_1 F A gr
  refine lv_aload_n hx hb d_RS_free_0 rfl (lv_at hl 0 rfl) ?_
  refine lv_iload_n hx hb d_RS_free_1 rfl (lv_at hl 1 rfl) ?_
  by_cases c_1 : f_RS_needGrant F A gr = 0
  · have hv := hv.trans (if_pos c_1)
    refine rdVv ⟨hx, hb, hml, hown, hW⟩ (c_RS_needGrant_k l dC dI r k F A gr   c_1) (cwV 1 hW (gIn k_114 k_115 k_116 k_15 k_117) rfl rfl rfl (by decide +kernel) ⟨Nat.le_of_ble_eq_true rfl, Nat.le_of_ble_eq_true rfl⟩) hK hP (va_recv hK hP (ci := 0) (q0 := 0) rfl rfl) rfl hl.1 rfl (Nat.le_of_ble_eq_true rfl) d_RS_free_2 ⟨Nat.zero_le _, Nat.zero_le _⟩ ?_
    refine lv_aload_n hx hb d_RS_free_5 rfl (lv_at hl 0 rfl) ?_
    refine va_get (D := (dC, dI)) (ci := 0) (v := .ref (r 2)) (C := R_RS) (T := F_RS) (N := 6) hx hb hW i_RS hown hK hP 0 rfl rfl 5 (by decide) (hW _ k_5) (fun _ h9 => h9) rfl d_RS_free_6 ?_
    refine lv_iload_n hx hb d_RS_free_9 rfl (lv_at hl 1 rfl) ?_
    refine rdV ⟨hx, hb, hml, hown, hW⟩ (c_Gr_isLive l dC dI r k F A gr hI (ixG hI c_1)) (cwV 1 hW (gIn k_118 k_50 k_51 k_52 k_53) rfl rfl rfl (by decide +kernel) ⟨Nat.le_of_ble_eq_true rfl, Nat.le_of_ble_eq_true rfl⟩) hK hP (va_recv hK hP (ci := 2) (q0 := 2) rfl rfl) rfl hl.1 rfl (Nat.le_of_ble_eq_true rfl) d_RS_free_10 ⟨Nat.zero_le _, Nat.zero_le _⟩ ?_
    refine lv_if_ne (tgt := 26) hx hb d_RS_free_13 (by decide) (fun c_2 => ?_) (fun c_2 => ?_)
    · have hv := hv.trans (if_neg c_2)
      exact (hk ((congrArg Prod.fst hv).trans (by first | rfl | ((repeat' split) <;> (first | rfl | exact cd_next_L _ _ _ _ _ _ _))))).elim
    · have hv := hv.trans (if_pos c_2)
      exact thr hx hb hl9 hown hW hXS tw_11 hS (hl.1.trans hml.symm) d_RS_free_16 d_RS_free_19 d_RS_free_20 d_RS_free_22 d_RS_free_25 hEx (Nat.le_of_ble_eq_true rfl) (Nat.le_of_ble_eq_true rfl) (Nat.le_of_ble_eq_true rfl) (Nat.le_of_ble_eq_true rfl) hlocks (fun t ha hsz hk9 => ⟨3, hv, ⟨rfl, hP.kept (fun k9 q hq => hk9 q.1 (hP k9 q hq).lt), va_K.moved ha hK, hD⟩, Nat.le_trans hS.1 hsz, fun q h1 h2 => (hk9 q (Nat.lt_of_lt_of_le h1 hS.1)).trans (hS.2.1 q h1 h2)⟩) hS.2.2 (Nat.le_of_ble_eq_true rfl) (Nat.le_of_ble_eq_true rfl)
  · have hv := hv.trans (if_neg c_1)
    refine gdV ⟨hx, hb, hml, hown, hW⟩ (c_RS_needGrant_x l hl9 dC dI r k F A _ gr   c_1) (cwV 1 hW (gIn k_114 k_115 k_116 k_15 k_117) rfl rfl rfl (by decide +kernel) ⟨Nat.le_of_ble_eq_true rfl, Nat.le_of_ble_eq_true rfl⟩) hK hP hXS hA (va_recv hK hP (ci := 0) (q0 := 0) rfl rfl) hS rfl hl.1 rfl (Nat.le_of_ble_eq_true rfl) d_RS_free_2 ⟨Nat.le_of_ble_eq_true rfl, Nat.le_of_ble_eq_true rfl⟩ (fun H locs q9 ce hP hS hce hcv hcl => ?_)
    exact vx_out (E := exN (f_RS_needGrant F A gr)) (fun x hx => (hEx x hx).elim) hlocks hce hcv hcl (fun t ht ha => ⟨f_RS_needGrant F A gr, hv, ⟨rfl, by rw [ht]; exact hP, va_K.moved ha hK, hD⟩, hS.F ht⟩) hS.2.2 (Nat.le_of_ble_eq_true rfl) (Nat.le_of_ble_eq_true rfl)
