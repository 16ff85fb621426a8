def wRb (h0 : Nat) (r : Nat → Nat) (k : Nat → ClassId) : va_W := [(h0, .inr (1, [.int 0, .ref (r 0), .ref (r 1), .ref (r 2), .ref (r 3), .ref (r 4), .ref (r 5)])), (r 0, .inl (k 0, 6, .inl (fun _ => 0))), (r 1, .inl (k 1, 6, .inl (fun _ => 0))), (r 2, .inl (k 2, 6, .inl (fun _ => 0))), (r 3, .inl (k 3, 6, .inl (fun _ => 0))), (r 4, .inl (k 4, 6, .inl (fun _ => 0))), (r 5, .inl (k 5, 6, .inl (fun _ => 0)))]
def tRb (k : Nat → ClassId) : List (ClassId × FieldType) := [(k 0, .int), (k 1, .boolean), (k 2, .int), (k 3, .int), (k 4, .boolean), (k 5, .int)]
set_option maxHeartbeats 4000000 in
set_option maxRecDepth 100000 in
theorem c_Rb_init (l : Launch) (dC : Nat → ClassId) (dI : Nat → Nat → Nat) (h0 sz : Nat) : Met l y_Rb_init w_Rb_init ({ frames := 1, cells := 6, slots := 36, locals := 12 }) (va_Pc [.ref h0] (SP (dC, dI) [(h0, .inr (1, [.int 0, .null, .null, .null, .null, .null, .null]))] [] sz)) (va_Qv (fun _ : (Nat → Nat) × (Nat → ClassId) => True) (fun u t => aW (dC, dI) (tRb u.2) (va_A [(h0, .inr (1, [.int 0, .null, .null, .null, .null, .null, .null]))] sz) (wRb h0 u.1 u.2) t) (va_A [(h0, .inr (1, [.int 0, .null, .null, .null, .null, .null, .null]))] sz)) 6 36 (va_A [(h0, .inr (1, [.int 0, .null, .null, .null, .null, .null, .null]))] sz) := by
  refine Met.ofW (cc := b_Rb_init) (maxL := 1) (ret := none) (by decide) rfl ?_
  intro p e s m args below meth c s₁ B hml hv0
  obtain ⟨rfl, hsz, hP, hK, hD0⟩ := hv0
  have hx := B.exec
  have hb := B.bytes
  have hr := B.returns
  have hts := atoms_spec (ws := w_Rb_init) B.pre
  have hW : ∀ w ∈ WALL, w.before ([.ref h0] : List Value).toArray s = true := fun w h => hts w (List.mem_cons_of_mem _ h)
  have hown : s.vm.findClass R_Rb = some m.cls := findClass_of_methodNamed B.named
  have hlocks := B.notSynchronized
  have hin : meth.name = "<init>" := (name_of_methodNamed B.named B.method).1
  subst hsz
  have hD := hD0.self (sz := s.heap.size)
  generalize hAe : va_A [(h0, .inr (1, [.int 0, .null, .null, .null, .null, .null, .null]))] s.heap.size = Ad at hD ⊢
  have hA : ∀ q : Nat, s.heap.size ≤ q → Ad q := fun q h => by rw [← hAe]; exact Or.inr h
  have hS : va_S Ad s.heap s.heap [] := va_S.rf
  have hl := lv_entry ([.ref h0]) (n := 1) (Nat.le_of_ble_eq_true rfl)
  rw [lg_entry_eq]
  generalize (lg_sl ([.ref h0]) ++ List.replicate (1 - (lg_sl ([.ref h0])).length) Slot.unset).toArray = ls at hl ⊢
  have hl : lv_has ls 1 [(0, .ref h0)] := hl
  refine lv_aload_n hx hb d_Rb_init_0 rfl (lv_at hl 0 rfl) ?_
  refine W.objInit hx hb hown (hW _ k_252) (hW _ k_253) (hW _ k_254) rfl (by rw [hml]; exact hl.1) rfl d_Rb_init_1 (Nat.le_of_ble_eq_true rfl) (Nat.le_of_ble_eq_true rfl) ?_
  refine W.eq (g2 := F0 m 4 ls []) rfl ?_
  refine lv_aload_n hx hb d_Rb_init_4 rfl (lv_at hl 0 rfl) ?_
  refine lv_iconst (v := 0) hx hb d_Rb_init_5 (by decide) ?_
  refine va_put (D := (dC, dI)) (ci := 1) (v := .int 0) (ty := .int) (C := R_Rb) (T := F_Rb) (N := 7) hx hb hW i_Rb t_Rb t_Rb_ok n_Rb hown hK hP hD hS 0 rfl rfl 0 (by decide) (hW _ k_22) (fun _ h9 => h9) rfl (by decide +kernel) rfl rfl (Nat.le_of_ble_eq_true rfl) d_Rb_init_6 (fun H locs hP hD hS => ?_)
  have hP : va_P (dC, dI) classes [(h0, .inr (1, [.int 0, .null, .null, .null, .null, .null, .null]))] H := hP
  have hD : va_D Ad [(h0, .inr (1, [.int 0, .null, .null, .null, .null, .null, .null]))] := hD
  refine lv_aload_n hx hb d_Rb_init_9 rfl (lv_at hl 0 rfl) ?_
  refine lv_bipush (v := 6) hx hb d_Rb_init_10 (by decide) ?_
  refine va_newa (atype := .int) (N' := 6) (a0 := (6, .inl (fun _ => 0))) (ty := .int) (n := 6) hx hb (hW _ k_255) rfl hK hP hD hS hA (fun _ => rfl) (by decide) rfl (Nat.le_of_ble_eq_true rfl) (Nat.le_of_ble_eq_true rfl) (Nat.le_of_ble_eq_true rfl) d_Rb_init_12 (fun q12 a12 H hK hP hD hS => ?_)
  have hP : va_P (dC, dI) classes [(h0, .inr (1, [.int 0, .null, .null, .null, .null, .null, .null])), (q12, .inl (a12, 6, .inl (fun _ => 0)))] H := hP
  have hD : va_D Ad [(h0, .inr (1, [.int 0, .null, .null, .null, .null, .null, .null])), (q12, .inl (a12, 6, .inl (fun _ => 0)))] := hD
  have hK : va_K (dC, dI) classes [(a12, .int)] s := hK
  refine va_putF (D := (dC, dI)) (ci := 1) (v := .ref q12) (ty := (.array .int)) (C := R_Rb) (T := F_Rb) (N := 7) hx hb hW i_Rb t_Rb t_Rb_ok n_Rb hown hK hP hD hS 0 rfl rfl 1 (by decide) (hW _ k_23) (fun _ h9 => h9) rfl hin rfl (by decide +kernel) rfl rfl (Nat.le_of_ble_eq_true rfl) d_Rb_init_14 (fun H locs hP hD hS => ?_)
  have hP : va_P (dC, dI) classes [(h0, .inr (1, [.int 0, .ref q12, .null, .null, .null, .null, .null])), (q12, .inl (a12, 6, .inl (fun _ => 0)))] H := hP
  have hD : va_D Ad [(h0, .inr (1, [.int 0, .ref q12, .null, .null, .null, .null, .null])), (q12, .inl (a12, 6, .inl (fun _ => 0)))] := hD
  refine lv_aload_n hx hb d_Rb_init_17 rfl (lv_at hl 0 rfl) ?_
  refine lv_bipush (v := 6) hx hb d_Rb_init_18 (by decide) ?_
  refine va_newa (atype := .boolean) (N' := 6) (a0 := (6, .inl (fun _ => 0))) (ty := .boolean) (n := 6) hx hb (hW _ k_256) rfl hK hP hD hS hA (fun _ => rfl) (by decide) rfl (Nat.le_of_ble_eq_true rfl) (Nat.le_of_ble_eq_true rfl) (Nat.le_of_ble_eq_true rfl) d_Rb_init_20 (fun q20 a20 H hK hP hD hS => ?_)
  have hP : va_P (dC, dI) classes [(h0, .inr (1, [.int 0, .ref q12, .null, .null, .null, .null, .null])), (q12, .inl (a12, 6, .inl (fun _ => 0))), (q20, .inl (a20, 6, .inl (fun _ => 0)))] H := hP
  have hD : va_D Ad [(h0, .inr (1, [.int 0, .ref q12, .null, .null, .null, .null, .null])), (q12, .inl (a12, 6, .inl (fun _ => 0))), (q20, .inl (a20, 6, .inl (fun _ => 0)))] := hD
  have hK : va_K (dC, dI) classes [(a12, .int), (a20, .boolean)] s := hK
  refine va_putF (D := (dC, dI)) (ci := 1) (v := .ref q20) (ty := (.array .boolean)) (C := R_Rb) (T := F_Rb) (N := 7) hx hb hW i_Rb t_Rb t_Rb_ok n_Rb hown hK hP hD hS 0 rfl rfl 2 (by decide) (hW _ k_25) (fun _ h9 => h9) rfl hin rfl (by decide +kernel) rfl rfl (Nat.le_of_ble_eq_true rfl) d_Rb_init_22 (fun H locs hP hD hS => ?_)
  have hP : va_P (dC, dI) classes [(h0, .inr (1, [.int 0, .ref q12, .ref q20, .null, .null, .null, .null])), (q12, .inl (a12, 6, .inl (fun _ => 0))), (q20, .inl (a20, 6, .inl (fun _ => 0)))] H := hP
  have hD : va_D Ad [(h0, .inr (1, [.int 0, .ref q12, .ref q20, .null, .null, .null, .null])), (q12, .inl (a12, 6, .inl (fun _ => 0))), (q20, .inl (a20, 6, .inl (fun _ => 0)))] := hD
  refine lv_aload_n hx hb d_Rb_init_25 rfl (lv_at hl 0 rfl) ?_
  refine lv_bipush (v := 6) hx hb d_Rb_init_26 (by decide) ?_
  refine va_newa (atype := .int) (N' := 6) (a0 := (6, .inl (fun _ => 0))) (ty := .int) (n := 6) hx hb (hW _ k_255) rfl hK hP hD hS hA (fun _ => rfl) (by decide) rfl (Nat.le_of_ble_eq_true rfl) (Nat.le_of_ble_eq_true rfl) (Nat.le_of_ble_eq_true rfl) d_Rb_init_28 (fun q28 a28 H hK hP hD hS => ?_)
  have hP : va_P (dC, dI) classes [(h0, .inr (1, [.int 0, .ref q12, .ref q20, .null, .null, .null, .null])), (q12, .inl (a12, 6, .inl (fun _ => 0))), (q20, .inl (a20, 6, .inl (fun _ => 0))), (q28, .inl (a28, 6, .inl (fun _ => 0)))] H := hP
  have hD : va_D Ad [(h0, .inr (1, [.int 0, .ref q12, .ref q20, .null, .null, .null, .null])), (q12, .inl (a12, 6, .inl (fun _ => 0))), (q20, .inl (a20, 6, .inl (fun _ => 0))), (q28, .inl (a28, 6, .inl (fun _ => 0)))] := hD
  have hK : va_K (dC, dI) classes [(a12, .int), (a20, .boolean), (a28, .int)] s := hK
  refine va_putF (D := (dC, dI)) (ci := 1) (v := .ref q28) (ty := (.array .int)) (C := R_Rb) (T := F_Rb) (N := 7) hx hb hW i_Rb t_Rb t_Rb_ok n_Rb hown hK hP hD hS 0 rfl rfl 3 (by decide) (hW _ k_24) (fun _ h9 => h9) rfl hin rfl (by decide +kernel) rfl rfl (Nat.le_of_ble_eq_true rfl) d_Rb_init_30 (fun H locs hP hD hS => ?_)
  have hP : va_P (dC, dI) classes [(h0, .inr (1, [.int 0, .ref q12, .ref q20, .ref q28, .null, .null, .null])), (q12, .inl (a12, 6, .inl (fun _ => 0))), (q20, .inl (a20, 6, .inl (fun _ => 0))), (q28, .inl (a28, 6, .inl (fun _ => 0)))] H := hP
  have hD : va_D Ad [(h0, .inr (1, [.int 0, .ref q12, .ref q20, .ref q28, .null, .null, .null])), (q12, .inl (a12, 6, .inl (fun _ => 0))), (q20, .inl (a20, 6, .inl (fun _ => 0))), (q28, .inl (a28, 6, .inl (fun _ => 0)))] := hD
  refine lv_aload_n hx hb d_Rb_init_33 rfl (lv_at hl 0 rfl) ?_
  refine lv_bipush (v := 6) hx hb d_Rb_init_34 (by decide) ?_
  refine va_newa (atype := .int) (N' := 6) (a0 := (6, .inl (fun _ => 0))) (ty := .int) (n := 6) hx hb (hW _ k_255) rfl hK hP hD hS hA (fun _ => rfl) (by decide) rfl (Nat.le_of_ble_eq_true rfl) (Nat.le_of_ble_eq_true rfl) (Nat.le_of_ble_eq_true rfl) d_Rb_init_36 (fun q36 a36 H hK hP hD hS => ?_)
  have hP : va_P (dC, dI) classes [(h0, .inr (1, [.int 0, .ref q12, .ref q20, .ref q28, .null, .null, .null])), (q12, .inl (a12, 6, .inl (fun _ => 0))), (q20, .inl (a20, 6, .inl (fun _ => 0))), (q28, .inl (a28, 6, .inl (fun _ => 0))), (q36, .inl (a36, 6, .inl (fun _ => 0)))] H := hP
  have hD : va_D Ad [(h0, .inr (1, [.int 0, .ref q12, .ref q20, .ref q28, .null, .null, .null])), (q12, .inl (a12, 6, .inl (fun _ => 0))), (q20, .inl (a20, 6, .inl (fun _ => 0))), (q28, .inl (a28, 6, .inl (fun _ => 0))), (q36, .inl (a36, 6, .inl (fun _ => 0)))] := hD
  have hK : va_K (dC, dI) classes [(a12, .int), (a20, .boolean), (a28, .int), (a36, .int)] s := hK
  refine va_putF (D := (dC, dI)) (ci := 1) (v := .ref q36) (ty := (.array .int)) (C := R_Rb) (T := F_Rb) (N := 7) hx hb hW i_Rb t_Rb t_Rb_ok n_Rb hown hK hP hD hS 0 rfl rfl 4 (by decide) (hW _ k_26) (fun _ h9 => h9) rfl hin rfl (by decide +kernel) rfl rfl (Nat.le_of_ble_eq_true rfl) d_Rb_init_38 (fun H locs hP hD hS => ?_)
  have hP : va_P (dC, dI) classes [(h0, .inr (1, [.int 0, .ref q12, .ref q20, .ref q28, .ref q36, .null, .null])), (q12, .inl (a12, 6, .inl (fun _ => 0))), (q20, .inl (a20, 6, .inl (fun _ => 0))), (q28, .inl (a28, 6, .inl (fun _ => 0))), (q36, .inl (a36, 6, .inl (fun _ => 0)))] H := hP
  have hD : va_D Ad [(h0, .inr (1, [.int 0, .ref q12, .ref q20, .ref q28, .ref q36, .null, .null])), (q12, .inl (a12, 6, .inl (fun _ => 0))), (q20, .inl (a20, 6, .inl (fun _ => 0))), (q28, .inl (a28, 6, .inl (fun _ => 0))), (q36, .inl (a36, 6, .inl (fun _ => 0)))] := hD
  refine lv_aload_n hx hb d_Rb_init_41 rfl (lv_at hl 0 rfl) ?_
  refine lv_bipush (v := 6) hx hb d_Rb_init_42 (by decide) ?_
  refine va_newa (atype := .boolean) (N' := 6) (a0 := (6, .inl (fun _ => 0))) (ty := .boolean) (n := 6) hx hb (hW _ k_256) rfl hK hP hD hS hA (fun _ => rfl) (by decide) rfl (Nat.le_of_ble_eq_true rfl) (Nat.le_of_ble_eq_true rfl) (Nat.le_of_ble_eq_true rfl) d_Rb_init_44 (fun q44 a44 H hK hP hD hS => ?_)
  have hP : va_P (dC, dI) classes [(h0, .inr (1, [.int 0, .ref q12, .ref q20, .ref q28, .ref q36, .null, .null])), (q12, .inl (a12, 6, .inl (fun _ => 0))), (q20, .inl (a20, 6, .inl (fun _ => 0))), (q28, .inl (a28, 6, .inl (fun _ => 0))), (q36, .inl (a36, 6, .inl (fun _ => 0))), (q44, .inl (a44, 6, .inl (fun _ => 0)))] H := hP
  have hD : va_D Ad [(h0, .inr (1, [.int 0, .ref q12, .ref q20, .ref q28, .ref q36, .null, .null])), (q12, .inl (a12, 6, .inl (fun _ => 0))), (q20, .inl (a20, 6, .inl (fun _ => 0))), (q28, .inl (a28, 6, .inl (fun _ => 0))), (q36, .inl (a36, 6, .inl (fun _ => 0))), (q44, .inl (a44, 6, .inl (fun _ => 0)))] := hD
  have hK : va_K (dC, dI) classes [(a12, .int), (a20, .boolean), (a28, .int), (a36, .int), (a44, .boolean)] s := hK
  refine va_putF (D := (dC, dI)) (ci := 1) (v := .ref q44) (ty := (.array .boolean)) (C := R_Rb) (T := F_Rb) (N := 7) hx hb hW i_Rb t_Rb t_Rb_ok n_Rb hown hK hP hD hS 0 rfl rfl 5 (by decide) (hW _ k_27) (fun _ h9 => h9) rfl hin rfl (by decide +kernel) rfl rfl (Nat.le_of_ble_eq_true rfl) d_Rb_init_46 (fun H locs hP hD hS => ?_)
  have hP : va_P (dC, dI) classes [(h0, .inr (1, [.int 0, .ref q12, .ref q20, .ref q28, .ref q36, .ref q44, .null])), (q12, .inl (a12, 6, .inl (fun _ => 0))), (q20, .inl (a20, 6, .inl (fun _ => 0))), (q28, .inl (a28, 6, .inl (fun _ => 0))), (q36, .inl (a36, 6, .inl (fun _ => 0))), (q44, .inl (a44, 6, .inl (fun _ => 0)))] H := hP
  have hD : va_D Ad [(h0, .inr (1, [.int 0, .ref q12, .ref q20, .ref q28, .ref q36, .ref q44, .null])), (q12, .inl (a12, 6, .inl (fun _ => 0))), (q20, .inl (a20, 6, .inl (fun _ => 0))), (q28, .inl (a28, 6, .inl (fun _ => 0))), (q36, .inl (a36, 6, .inl (fun _ => 0))), (q44, .inl (a44, 6, .inl (fun _ => 0)))] := hD
  refine lv_aload_n hx hb d_Rb_init_49 rfl (lv_at hl 0 rfl) ?_
  refine lv_bipush (v := 6) hx hb d_Rb_init_50 (by decide) ?_
  refine va_newa (atype := .int) (N' := 6) (a0 := (6, .inl (fun _ => 0))) (ty := .int) (n := 6) hx hb (hW _ k_255) rfl hK hP hD hS hA (fun _ => rfl) (by decide) rfl (Nat.le_of_ble_eq_true rfl) (Nat.le_of_ble_eq_true rfl) (Nat.le_of_ble_eq_true rfl) d_Rb_init_52 (fun q52 a52 H hK hP hD hS => ?_)
  have hP : va_P (dC, dI) classes [(h0, .inr (1, [.int 0, .ref q12, .ref q20, .ref q28, .ref q36, .ref q44, .null])), (q12, .inl (a12, 6, .inl (fun _ => 0))), (q20, .inl (a20, 6, .inl (fun _ => 0))), (q28, .inl (a28, 6, .inl (fun _ => 0))), (q36, .inl (a36, 6, .inl (fun _ => 0))), (q44, .inl (a44, 6, .inl (fun _ => 0))), (q52, .inl (a52, 6, .inl (fun _ => 0)))] H := hP
  have hD : va_D Ad [(h0, .inr (1, [.int 0, .ref q12, .ref q20, .ref q28, .ref q36, .ref q44, .null])), (q12, .inl (a12, 6, .inl (fun _ => 0))), (q20, .inl (a20, 6, .inl (fun _ => 0))), (q28, .inl (a28, 6, .inl (fun _ => 0))), (q36, .inl (a36, 6, .inl (fun _ => 0))), (q44, .inl (a44, 6, .inl (fun _ => 0))), (q52, .inl (a52, 6, .inl (fun _ => 0)))] := hD
  have hK : va_K (dC, dI) classes [(a12, .int), (a20, .boolean), (a28, .int), (a36, .int), (a44, .boolean), (a52, .int)] s := hK
  refine va_putF (D := (dC, dI)) (ci := 1) (v := .ref q52) (ty := (.array .int)) (C := R_Rb) (T := F_Rb) (N := 7) hx hb hW i_Rb t_Rb t_Rb_ok n_Rb hown hK hP hD hS 0 rfl rfl 6 (by decide) (hW _ k_28) (fun _ h9 => h9) rfl hin rfl (by decide +kernel) rfl rfl (Nat.le_of_ble_eq_true rfl) d_Rb_init_54 (fun H locs hP hD hS => ?_)
  have hP : va_P (dC, dI) classes [(h0, .inr (1, [.int 0, .ref q12, .ref q20, .ref q28, .ref q36, .ref q44, .ref q52])), (q12, .inl (a12, 6, .inl (fun _ => 0))), (q20, .inl (a20, 6, .inl (fun _ => 0))), (q28, .inl (a28, 6, .inl (fun _ => 0))), (q36, .inl (a36, 6, .inl (fun _ => 0))), (q44, .inl (a44, 6, .inl (fun _ => 0))), (q52, .inl (a52, 6, .inl (fun _ => 0)))] H := hP
  have hD : va_D Ad [(h0, .inr (1, [.int 0, .ref q12, .ref q20, .ref q28, .ref q36, .ref q44, .ref q52])), (q12, .inl (a12, 6, .inl (fun _ => 0))), (q20, .inl (a20, 6, .inl (fun _ => 0))), (q28, .inl (a28, 6, .inl (fun _ => 0))), (q36, .inl (a36, 6, .inl (fun _ => 0))), (q44, .inl (a44, 6, .inl (fun _ => 0))), (q52, .inl (a52, 6, .inl (fun _ => 0)))] := hD
  refine W.widen (k := 6) (n := 36) (Nat.le_of_ble_eq_true rfl) (Nat.le_of_ble_eq_true rfl) ?_
  exact W.vret hx hb hr (fun t ht hW9 => ⟨⟨((fun j => match j with | 0 => q12 | 1 => q20 | 2 => q28 | 3 => q36 | 4 => q44 | _ => q52), (fun j => match j with | 0 => a12 | 1 => a20 | 2 => a28 | 3 => a36 | 4 => a44 | _ => a52)), rfl, trivial, by rw [ht]; exact hP, va_K.moved hW9.alike hK, hD⟩, hS.F ht⟩) hS.2.2 d_Rb_init_57
def wGr (h0 : Nat) (r : Nat → Nat) (k : Nat → ClassId) : va_W := [(h0, .inr (2, [.int 0, .ref (r 0), .ref (r 1), .ref (r 2), .ref (r 3), .ref (r 4), .ref (r 5)])), (r 0, .inl (k 0, 61, .inl (fun _ => 0))), (r 1, .inl (k 1, 61, .inl (fun _ => 0))), (r 2, .inl (k 2, 61, .inl (fun _ => 0))), (r 3, .inl (k 3, 61, .inl (fun _ => 0))), (r 4, .inl (k 4, 61, .inl (fun _ => 0))), (r 5, .inl (k 5, 61, .inl (fun _ => 0)))]
def tGr (k : Nat → ClassId) : List (ClassId × FieldType) := [(k 0, .int), (k 1, .int), (k 2, .int), (k 3, .int), (k 4, .int), (k 5, .int)]
set_option maxHeartbeats 4000000 in
set_option maxRecDepth 100000 in
theorem c_Gr_init (l : Launch) (dC : Nat → ClassId) (dI : Nat → Nat → Nat) (h0 sz : Nat) : Met l y_Gr_init w_Gr_init ({ frames := 1, cells := 6, slots := 366, locals := 12 }) (va_Pc [.ref h0] (SP (dC, dI) [(h0, .inr (2, [.int 0, .null, .null, .null, .null, .null, .null]))] [] sz)) (va_Qv (fun _ : (Nat → Nat) × (Nat → ClassId) => True) (fun u t => aW (dC, dI) (tGr u.2) (va_A [(h0, .inr (2, [.int 0, .null, .null, .null, .null, .null, .null]))] sz) (wGr h0 u.1 u.2) t) (va_A [(h0, .inr (2, [.int 0, .null, .null, .null, .null, .null, .null]))] sz)) 6 366 (va_A [(h0, .inr (2, [.int 0, .null, .null, .null, .null, .null, .null]))] sz) := by
  refine Met.ofW (cc := b_Gr_init) (maxL := 1) (ret := none) (by decide) rfl ?_
  intro p e s m args below meth c s₁ B hml hv0
  obtain ⟨rfl, hsz, hP, hK, hD0⟩ := hv0
  have hx := B.exec
  have hb := B.bytes
  have hr := B.returns
  have hts := atoms_spec (ws := w_Gr_init) B.pre
  have hW : ∀ w ∈ WALL, w.before ([.ref h0] : List Value).toArray s = true := fun w h => hts w (List.mem_cons_of_mem _ h)
  have hown : s.vm.findClass R_Gr = some m.cls := findClass_of_methodNamed B.named
  have hlocks := B.notSynchronized
  have hin : meth.name = "<init>" := (name_of_methodNamed B.named B.method).1
  subst hsz
  have hD := hD0.self (sz := s.heap.size)
  generalize hAe : va_A [(h0, .inr (2, [.int 0, .null, .null, .null, .null, .null, .null]))] s.heap.size = Ad at hD ⊢
  have hA : ∀ q : Nat, s.heap.size ≤ q → Ad q := fun q h => by rw [← hAe]; exact Or.inr h
  have hS : va_S Ad s.heap s.heap [] := va_S.rf
  have hl := lv_entry ([.ref h0]) (n := 1) (Nat.le_of_ble_eq_true rfl)
  rw [lg_entry_eq]
  generalize (lg_sl ([.ref h0]) ++ List.replicate (1 - (lg_sl ([.ref h0])).length) Slot.unset).toArray = ls at hl ⊢
  have hl : lv_has ls 1 [(0, .ref h0)] := hl
  refine lv_aload_n hx hb d_Gr_init_0 rfl (lv_at hl 0 rfl) ?_
  refine W.objInit hx hb hown (hW _ k_257) (hW _ k_253) (hW _ k_254) rfl (by rw [hml]; exact hl.1) rfl d_Gr_init_1 (Nat.le_of_ble_eq_true rfl) (Nat.le_of_ble_eq_true rfl) ?_
  refine W.eq (g2 := F0 m 4 ls []) rfl ?_
  refine lv_aload_n hx hb d_Gr_init_4 rfl (lv_at hl 0 rfl) ?_
  refine lv_iconst (v := 0) hx hb d_Gr_init_5 (by decide) ?_
  refine va_put (D := (dC, dI)) (ci := 2) (v := .int 0) (ty := .int) (C := R_Gr) (T := F_Gr) (N := 7) hx hb hW i_Gr t_Gr t_Gr_ok n_Gr hown hK hP hD hS 0 rfl rfl 0 (by decide) (hW _ k_74) (fun _ h9 => h9) rfl (by decide +kernel) rfl rfl (Nat.le_of_ble_eq_true rfl) d_Gr_init_6 (fun H locs hP hD hS => ?_)
  have hP : va_P (dC, dI) classes [(h0, .inr (2, [.int 0, .null, .null, .null, .null, .null, .null]))] H := hP
  have hD : va_D Ad [(h0, .inr (2, [.int 0, .null, .null, .null, .null, .null, .null]))] := hD
  refine lv_aload_n hx hb d_Gr_init_9 rfl (lv_at hl 0 rfl) ?_
  refine lv_bipush (v := 61) hx hb d_Gr_init_10 (by decide) ?_
  refine va_newa (atype := .int) (N' := 61) (a0 := (61, .inl (fun _ => 0))) (ty := .int) (n := 61) hx hb (hW _ k_255) rfl hK hP hD hS hA (fun _ => rfl) (by decide) rfl (Nat.le_of_ble_eq_true rfl) (Nat.le_of_ble_eq_true rfl) (Nat.le_of_ble_eq_true rfl) d_Gr_init_12 (fun q12 a12 H hK hP hD hS => ?_)
  have hP : va_P (dC, dI) classes [(h0, .inr (2, [.int 0, .null, .null, .null, .null, .null, .null])), (q12, .inl (a12, 61, .inl (fun _ => 0)))] H := hP
  have hD : va_D Ad [(h0, .inr (2, [.int 0, .null, .null, .null, .null, .null, .null])), (q12, .inl (a12, 61, .inl (fun _ => 0)))] := hD
  have hK : va_K (dC, dI) classes [(a12, .int)] s := hK
  refine va_putF (D := (dC, dI)) (ci := 2) (v := .ref q12) (ty := (.array .int)) (C := R_Gr) (T := F_Gr) (N := 7) hx hb hW i_Gr t_Gr t_Gr_ok n_Gr hown hK hP hD hS 0 rfl rfl 1 (by decide) (hW _ k_60) (fun _ h9 => h9) rfl hin rfl (by decide +kernel) rfl rfl (Nat.le_of_ble_eq_true rfl) d_Gr_init_14 (fun H locs hP hD hS => ?_)
  have hP : va_P (dC, dI) classes [(h0, .inr (2, [.int 0, .ref q12, .null, .null, .null, .null, .null])), (q12, .inl (a12, 61, .inl (fun _ => 0)))] H := hP
  have hD : va_D Ad [(h0, .inr (2, [.int 0, .ref q12, .null, .null, .null, .null, .null])), (q12, .inl (a12, 61, .inl (fun _ => 0)))] := hD
  refine lv_aload_n hx hb d_Gr_init_17 rfl (lv_at hl 0 rfl) ?_
  refine lv_bipush (v := 61) hx hb d_Gr_init_18 (by decide) ?_
  refine va_newa (atype := .int) (N' := 61) (a0 := (61, .inl (fun _ => 0))) (ty := .int) (n := 61) hx hb (hW _ k_255) rfl hK hP hD hS hA (fun _ => rfl) (by decide) rfl (Nat.le_of_ble_eq_true rfl) (Nat.le_of_ble_eq_true rfl) (Nat.le_of_ble_eq_true rfl) d_Gr_init_20 (fun q20 a20 H hK hP hD hS => ?_)
  have hP : va_P (dC, dI) classes [(h0, .inr (2, [.int 0, .ref q12, .null, .null, .null, .null, .null])), (q12, .inl (a12, 61, .inl (fun _ => 0))), (q20, .inl (a20, 61, .inl (fun _ => 0)))] H := hP
  have hD : va_D Ad [(h0, .inr (2, [.int 0, .ref q12, .null, .null, .null, .null, .null])), (q12, .inl (a12, 61, .inl (fun _ => 0))), (q20, .inl (a20, 61, .inl (fun _ => 0)))] := hD
  have hK : va_K (dC, dI) classes [(a12, .int), (a20, .int)] s := hK
  refine va_putF (D := (dC, dI)) (ci := 2) (v := .ref q20) (ty := (.array .int)) (C := R_Gr) (T := F_Gr) (N := 7) hx hb hW i_Gr t_Gr t_Gr_ok n_Gr hown hK hP hD hS 0 rfl rfl 2 (by decide) (hW _ k_54) (fun _ h9 => h9) rfl hin rfl (by decide +kernel) rfl rfl (Nat.le_of_ble_eq_true rfl) d_Gr_init_22 (fun H locs hP hD hS => ?_)
  have hP : va_P (dC, dI) classes [(h0, .inr (2, [.int 0, .ref q12, .ref q20, .null, .null, .null, .null])), (q12, .inl (a12, 61, .inl (fun _ => 0))), (q20, .inl (a20, 61, .inl (fun _ => 0)))] H := hP
  have hD : va_D Ad [(h0, .inr (2, [.int 0, .ref q12, .ref q20, .null, .null, .null, .null])), (q12, .inl (a12, 61, .inl (fun _ => 0))), (q20, .inl (a20, 61, .inl (fun _ => 0)))] := hD
  refine lv_aload_n hx hb d_Gr_init_25 rfl (lv_at hl 0 rfl) ?_
  refine lv_bipush (v := 61) hx hb d_Gr_init_26 (by decide) ?_
  refine va_newa (atype := .int) (N' := 61) (a0 := (61, .inl (fun _ => 0))) (ty := .int) (n := 61) hx hb (hW _ k_255) rfl hK hP hD hS hA (fun _ => rfl) (by decide) rfl (Nat.le_of_ble_eq_true rfl) (Nat.le_of_ble_eq_true rfl) (Nat.le_of_ble_eq_true rfl) d_Gr_init_28 (fun q28 a28 H hK hP hD hS => ?_)
  have hP : va_P (dC, dI) classes [(h0, .inr (2, [.int 0, .ref q12, .ref q20, .null, .null, .null, .null])), (q12, .inl (a12, 61, .inl (fun _ => 0))), (q20, .inl (a20, 61, .inl (fun _ => 0))), (q28, .inl (a28, 61, .inl (fun _ => 0)))] H := hP
  have hD : va_D Ad [(h0, .inr (2, [.int 0, .ref q12, .ref q20, .null, .null, .null, .null])), (q12, .inl (a12, 61, .inl (fun _ => 0))), (q20, .inl (a20, 61, .inl (fun _ => 0))), (q28, .inl (a28, 61, .inl (fun _ => 0)))] := hD
  have hK : va_K (dC, dI) classes [(a12, .int), (a20, .int), (a28, .int)] s := hK
  refine va_putF (D := (dC, dI)) (ci := 2) (v := .ref q28) (ty := (.array .int)) (C := R_Gr) (T := F_Gr) (N := 7) hx hb hW i_Gr t_Gr t_Gr_ok n_Gr hown hK hP hD hS 0 rfl rfl 3 (by decide) (hW _ k_47) (fun _ h9 => h9) rfl hin rfl (by decide +kernel) rfl rfl (Nat.le_of_ble_eq_true rfl) d_Gr_init_30 (fun H locs hP hD hS => ?_)
  have hP : va_P (dC, dI) classes [(h0, .inr (2, [.int 0, .ref q12, .ref q20, .ref q28, .null, .null, .null])), (q12, .inl (a12, 61, .inl (fun _ => 0))), (q20, .inl (a20, 61, .inl (fun _ => 0))), (q28, .inl (a28, 61, .inl (fun _ => 0)))] H := hP
  have hD : va_D Ad [(h0, .inr (2, [.int 0, .ref q12, .ref q20, .ref q28, .null, .null, .null])), (q12, .inl (a12, 61, .inl (fun _ => 0))), (q20, .inl (a20, 61, .inl (fun _ => 0))), (q28, .inl (a28, 61, .inl (fun _ => 0)))] := hD
  refine lv_aload_n hx hb d_Gr_init_33 rfl (lv_at hl 0 rfl) ?_
  refine lv_bipush (v := 61) hx hb d_Gr_init_34 (by decide) ?_
  refine va_newa (atype := .int) (N' := 61) (a0 := (61, .inl (fun _ => 0))) (ty := .int) (n := 61) hx hb (hW _ k_255) rfl hK hP hD hS hA (fun _ => rfl) (by decide) rfl (Nat.le_of_ble_eq_true rfl) (Nat.le_of_ble_eq_true rfl) (Nat.le_of_ble_eq_true rfl) d_Gr_init_36 (fun q36 a36 H hK hP hD hS => ?_)
  have hP : va_P (dC, dI) classes [(h0, .inr (2, [.int 0, .ref q12, .ref q20, .ref q28, .null, .null, .null])), (q12, .inl (a12, 61, .inl (fun _ => 0))), (q20, .inl (a20, 61, .inl (fun _ => 0))), (q28, .inl (a28, 61, .inl (fun _ => 0))), (q36, .inl (a36, 61, .inl (fun _ => 0)))] H := hP
  have hD : va_D Ad [(h0, .inr (2, [.int 0, .ref q12, .ref q20, .ref q28, .null, .null, .null])), (q12, .inl (a12, 61, .inl (fun _ => 0))), (q20, .inl (a20, 61, .inl (fun _ => 0))), (q28, .inl (a28, 61, .inl (fun _ => 0))), (q36, .inl (a36, 61, .inl (fun _ => 0)))] := hD
  have hK : va_K (dC, dI) classes [(a12, .int), (a20, .int), (a28, .int), (a36, .int)] s := hK
  refine va_putF (D := (dC, dI)) (ci := 2) (v := .ref q36) (ty := (.array .int)) (C := R_Gr) (T := F_Gr) (N := 7) hx hb hW i_Gr t_Gr t_Gr_ok n_Gr hown hK hP hD hS 0 rfl rfl 4 (by decide) (hW _ k_55) (fun _ h9 => h9) rfl hin rfl (by decide +kernel) rfl rfl (Nat.le_of_ble_eq_true rfl) d_Gr_init_38 (fun H locs hP hD hS => ?_)
  have hP : va_P (dC, dI) classes [(h0, .inr (2, [.int 0, .ref q12, .ref q20, .ref q28, .ref q36, .null, .null])), (q12, .inl (a12, 61, .inl (fun _ => 0))), (q20, .inl (a20, 61, .inl (fun _ => 0))), (q28, .inl (a28, 61, .inl (fun _ => 0))), (q36, .inl (a36, 61, .inl (fun _ => 0)))] H := hP
  have hD : va_D Ad [(h0, .inr (2, [.int 0, .ref q12, .ref q20, .ref q28, .ref q36, .null, .null])), (q12, .inl (a12, 61, .inl (fun _ => 0))), (q20, .inl (a20, 61, .inl (fun _ => 0))), (q28, .inl (a28, 61, .inl (fun _ => 0))), (q36, .inl (a36, 61, .inl (fun _ => 0)))] := hD
  refine lv_aload_n hx hb d_Gr_init_41 rfl (lv_at hl 0 rfl) ?_
  refine lv_bipush (v := 61) hx hb d_Gr_init_42 (by decide) ?_
  refine va_newa (atype := .int) (N' := 61) (a0 := (61, .inl (fun _ => 0))) (ty := .int) (n := 61) hx hb (hW _ k_255) rfl hK hP hD hS hA (fun _ => rfl) (by decide) rfl (Nat.le_of_ble_eq_true rfl) (Nat.le_of_ble_eq_true rfl) (Nat.le_of_ble_eq_true rfl) d_Gr_init_44 (fun q44 a44 H hK hP hD hS => ?_)
  have hP : va_P (dC, dI) classes [(h0, .inr (2, [.int 0, .ref q12, .ref q20, .ref q28, .ref q36, .null, .null])), (q12, .inl (a12, 61, .inl (fun _ => 0))), (q20, .inl (a20, 61, .inl (fun _ => 0))), (q28, .inl (a28, 61, .inl (fun _ => 0))), (q36, .inl (a36, 61, .inl (fun _ => 0))), (q44, .inl (a44, 61, .inl (fun _ => 0)))] H := hP
  have hD : va_D Ad [(h0, .inr (2, [.int 0, .ref q12, .ref q20, .ref q28, .ref q36, .null, .null])), (q12, .inl (a12, 61, .inl (fun _ => 0))), (q20, .inl (a20, 61, .inl (fun _ => 0))), (q28, .inl (a28, 61, .inl (fun _ => 0))), (q36, .inl (a36, 61, .inl (fun _ => 0))), (q44, .inl (a44, 61, .inl (fun _ => 0)))] := hD
  have hK : va_K (dC, dI) classes [(a12, .int), (a20, .int), (a28, .int), (a36, .int), (a44, .int)] s := hK
  refine va_putF (D := (dC, dI)) (ci := 2) (v := .ref q44) (ty := (.array .int)) (C := R_Gr) (T := F_Gr) (N := 7) hx hb hW i_Gr t_Gr t_Gr_ok n_Gr hown hK hP hD hS 0 rfl rfl 5 (by decide) (hW _ k_76) (fun _ h9 => h9) rfl hin rfl (by decide +kernel) rfl rfl (Nat.le_of_ble_eq_true rfl) d_Gr_init_46 (fun H locs hP hD hS => ?_)
  have hP : va_P (dC, dI) classes [(h0, .inr (2, [.int 0, .ref q12, .ref q20, .ref q28, .ref q36, .ref q44, .null])), (q12, .inl (a12, 61, .inl (fun _ => 0))), (q20, .inl (a20, 61, .inl (fun _ => 0))), (q28, .inl (a28, 61, .inl (fun _ => 0))), (q36, .inl (a36, 61, .inl (fun _ => 0))), (q44, .inl (a44, 61, .inl (fun _ => 0)))] H := hP
  have hD : va_D Ad [(h0, .inr (2, [.int 0, .ref q12, .ref q20, .ref q28, .ref q36, .ref q44, .null])), (q12, .inl (a12, 61, .inl (fun _ => 0))), (q20, .inl (a20, 61, .inl (fun _ => 0))), (q28, .inl (a28, 61, .inl (fun _ => 0))), (q36, .inl (a36, 61, .inl (fun _ => 0))), (q44, .inl (a44, 61, .inl (fun _ => 0)))] := hD
  refine lv_aload_n hx hb d_Gr_init_49 rfl (lv_at hl 0 rfl) ?_
  refine lv_bipush (v := 61) hx hb d_Gr_init_50 (by decide) ?_
  refine va_newa (atype := .int) (N' := 61) (a0 := (61, .inl (fun _ => 0))) (ty := .int) (n := 61) hx hb (hW _ k_255) rfl hK hP hD hS hA (fun _ => rfl) (by decide) rfl (Nat.le_of_ble_eq_true rfl) (Nat.le_of_ble_eq_true rfl) (Nat.le_of_ble_eq_true rfl) d_Gr_init_52 (fun q52 a52 H hK hP hD hS => ?_)
  have hP : va_P (dC, dI) classes [(h0, .inr (2, [.int 0, .ref q12, .ref q20, .ref q28, .ref q36, .ref q44, .null])), (q12, .inl (a12, 61, .inl (fun _ => 0))), (q20, .inl (a20, 61, .inl (fun _ => 0))), (q28, .inl (a28, 61, .inl (fun _ => 0))), (q36, .inl (a36, 61, .inl (fun _ => 0))), (q44, .inl (a44, 61, .inl (fun _ => 0))), (q52, .inl (a52, 61, .inl (fun _ => 0)))] H := hP
  have hD : va_D Ad [(h0, .inr (2, [.int 0, .ref q12, .ref q20, .ref q28, .ref q36, .ref q44, .null])), (q12, .inl (a12, 61, .inl (fun _ => 0))), (q20, .inl (a20, 61, .inl (fun _ => 0))), (q28, .inl (a28, 61, .inl (fun _ => 0))), (q36, .inl (a36, 61, .inl (fun _ => 0))), (q44, .inl (a44, 61, .inl (fun _ => 0))), (q52, .inl (a52, 61, .inl (fun _ => 0)))] := hD
  have hK : va_K (dC, dI) classes [(a12, .int), (a20, .int), (a28, .int), (a36, .int), (a44, .int), (a52, .int)] s := hK
  refine va_putF (D := (dC, dI)) (ci := 2) (v := .ref q52) (ty := (.array .int)) (C := R_Gr) (T := F_Gr) (N := 7) hx hb hW i_Gr t_Gr t_Gr_ok n_Gr hown hK hP hD hS 0 rfl rfl 6 (by decide) (hW _ k_48) (fun _ h9 => h9) rfl hin rfl (by decide +kernel) rfl rfl (Nat.le_of_ble_eq_true rfl) d_Gr_init_54 (fun H locs hP hD hS => ?_)
  have hP : va_P (dC, dI) classes [(h0, .inr (2, [.int 0, .ref q12, .ref q20, .ref q28, .ref q36, .ref q44, .ref q52])), (q12, .inl (a12, 61, .inl (fun _ => 0))), (q20, .inl (a20, 61, .inl (fun _ => 0))), (q28, .inl (a28, 61, .inl (fun _ => 0))), (q36, .inl (a36, 61, .inl (fun _ => 0))), (q44, .inl (a44, 61, .inl (fun _ => 0))), (q52, .inl (a52, 61, .inl (fun _ => 0)))] H := hP
  have hD : va_D Ad [(h0, .inr (2, [.int 0, .ref q12, .ref q20, .ref q28, .ref q36, .ref q44, .ref q52])), (q12, .inl (a12, 61, .inl (fun _ => 0))), (q20, .inl (a20, 61, .inl (fun _ => 0))), (q28, .inl (a28, 61, .inl (fun _ => 0))), (q36, .inl (a36, 61, .inl (fun _ => 0))), (q44, .inl (a44, 61, .inl (fun _ => 0))), (q52, .inl (a52, 61, .inl (fun _ => 0)))] := hD
  refine W.widen (k := 6) (n := 366) (Nat.le_of_ble_eq_true rfl) (Nat.le_of_ble_eq_true rfl) ?_
  exact W.vret hx hb hr (fun t ht hW9 => ⟨⟨((fun j => match j with | 0 => q12 | 1 => q20 | 2 => q28 | 3 => q36 | 4 => q44 | _ => q52), (fun j => match j with | 0 => a12 | 1 => a20 | 2 => a28 | 3 => a36 | 4 => a44 | _ => a52)), rfl, trivial, by rw [ht]; exact hP, va_K.moved hW9.alike hK, hD⟩, hS.F ht⟩) hS.2.2 d_Gr_init_57
def NP (U : State) : Prop := va_Nw (.methodLinkNest R_RS 26 y_Rb_init "ReserveSteps") U ∧ va_Nw (.methodLinkNest R_RS 33 y_Gr_init "ReserveSteps") U
set_option maxHeartbeats 4000000 in
set_option maxRecDepth 100000 in
theorem c_RS_init (l : Launch) (dC : Nat → ClassId) (dI : Nat → Nat → Nat) (h0 sz : Nat) : Met l y_RS_init w_RS_init ({ frames := 2, cells := 16, slots := 448, locals := 32 }) (va_Pc [.ref h0] (fun U => SP (dC, dI) [(h0, .inr (0, [.int 0, .int 0, .null, .null, .null, .null]))] [] sz U ∧ NP U)) (va_Qv (fun u : (Nat → Nat) × (Nat → ClassId) => u.1 0 = h0) (fun u t => aW (dC, dI) (tC u.2) (va_A [(h0, .inr (0, [.int 0, .int 0, .null, .null, .null, .null]))] sz) (wC u.1 u.2 (fun _ => 0) (fun _ _ => 0)) t) (va_A [(h0, .inr (0, [.int 0, .int 0, .null, .null, .null, .null]))] sz)) 16 448 (va_A [(h0, .inr (0, [.int 0, .int 0, .null, .null, .null, .null]))] sz) := by
  refine Met.ofW (cc := b_RS_init) (maxL := 1) (ret := none) (by decide) rfl ?_
  intro p e s m args below meth c s₁ B hml hv0
  obtain ⟨rfl, ⟨hsz, hP, hK, hD0⟩, hN0, hN1⟩ := hv0
  have hx := B.exec
  have hb := B.bytes
  have hr := B.returns
  have hts := atoms_spec (ws := w_RS_init) B.pre
  have hW : ∀ w ∈ WALL, w.before ([.ref h0] : List Value).toArray s = true := fun w h => hts w (List.mem_cons_of_mem _ h)
  have hown : s.vm.findClass R_RS = some m.cls := findClass_of_methodNamed B.named
  have hlocks := B.notSynchronized
  have hin : meth.name = "<init>" := (name_of_methodNamed B.named B.method).1
  subst hsz
  have hD := hD0.self (sz := s.heap.size)
  generalize hAe : va_A [(h0, .inr (0, [.int 0, .int 0, .null, .null, .null, .null]))] s.heap.size = Ad at hD ⊢
  have hA : ∀ q : Nat, s.heap.size ≤ q → Ad q := fun q h => by rw [← hAe]; exact Or.inr h
  have hS : va_S Ad s.heap s.heap [] := va_S.rf
  have hl := lv_entry ([.ref h0]) (n := 1) (Nat.le_of_ble_eq_true rfl)
  rw [lg_entry_eq]
  generalize (lg_sl ([.ref h0]) ++ List.replicate (1 - (lg_sl ([.ref h0])).length) Slot.unset).toArray = ls at hl ⊢
  have hl : lv_has ls 1 [(0, .ref h0)] := hl
  refine lv_aload_n hx hb d_RS_init_0 rfl (lv_at hl 0 rfl) ?_
  refine W.objInit hx hb hown (hW _ k_259) (hW _ k_253) (hW _ k_254) rfl (by rw [hml]; exact hl.1) rfl d_RS_init_1 (Nat.le_of_ble_eq_true rfl) (Nat.le_of_ble_eq_true rfl) ?_
  refine W.eq (g2 := F0 m 4 ls []) rfl ?_
  refine lv_aload_n hx hb d_RS_init_4 rfl (lv_at hl 0 rfl) ?_
  refine lv_iconst (v := 0) hx hb d_RS_init_5 (by decide) ?_
  refine va_put (D := (dC, dI)) (ci := 0) (v := .int 0) (ty := .int) (C := R_RS) (T := F_RS) (N := 6) hx hb hW i_RS t_RS t_RS_ok n_RS hown hK hP hD hS 0 rfl rfl 0 (by decide) (hW _ k_7) (fun _ h9 => h9) rfl (by decide +kernel) rfl rfl (Nat.le_of_ble_eq_true rfl) d_RS_init_6 (fun H locs hP hD hS => ?_)
  have hP : va_P (dC, dI) classes [(h0, .inr (0, [.int 0, .int 0, .null, .null, .null, .null]))] H := hP
  have hD : va_D Ad [(h0, .inr (0, [.int 0, .int 0, .null, .null, .null, .null]))] := hD
  refine lv_aload_n hx hb d_RS_init_9 rfl (lv_at hl 0 rfl) ?_
  refine lv_iconst (v := 0) hx hb d_RS_init_10 (by decide) ?_
  refine va_put (D := (dC, dI)) (ci := 0) (v := .int 0) (ty := .int) (C := R_RS) (T := F_RS) (N := 6) hx hb hW i_RS t_RS t_RS_ok n_RS hown hK hP hD hS 0 rfl rfl 1 (by decide) (hW _ k_0) (fun _ h9 => h9) rfl (by decide +kernel) rfl rfl (Nat.le_of_ble_eq_true rfl) d_RS_init_11 (fun H locs hP hD hS => ?_)
  have hP : va_P (dC, dI) classes [(h0, .inr (0, [.int 0, .int 0, .null, .null, .null, .null]))] H := hP
  have hD : va_D Ad [(h0, .inr (0, [.int 0, .int 0, .null, .null, .null, .null]))] := hD
  refine lv_aload_n hx hb d_RS_init_14 rfl (lv_at hl 0 rfl) ?_
  refine lv_bipush (v := 16) hx hb d_RS_init_15 (by decide) ?_
  refine va_newa (atype := .int) (N' := 16) (a0 := (16, .inl (fun _ => 0))) (ty := .int) (n := 16) hx hb (hW _ k_255) rfl hK hP hD hS hA (fun _ => rfl) (by decide) rfl (Nat.le_of_ble_eq_true rfl) (Nat.le_of_ble_eq_true rfl) (Nat.le_of_ble_eq_true rfl) d_RS_init_17 (fun q17 a17 H hK hP hD hS => ?_)
  have hP : va_P (dC, dI) classes [(h0, .inr (0, [.int 0, .int 0, .null, .null, .null, .null])), (q17, .inl (a17, 16, .inl (fun _ => 0)))] H := hP
  have hD : va_D Ad [(h0, .inr (0, [.int 0, .int 0, .null, .null, .null, .null])), (q17, .inl (a17, 16, .inl (fun _ => 0)))] := hD
  have hK : va_K (dC, dI) classes [(a17, .int)] s := hK
  refine va_putF (D := (dC, dI)) (ci := 0) (v := .ref q17) (ty := (.array .int)) (C := R_RS) (T := F_RS) (N := 6) hx hb hW i_RS t_RS t_RS_ok n_RS hown hK hP hD hS 0 rfl rfl 2 (by decide) (hW _ k_17) (fun _ h9 => h9) rfl hin rfl (by decide +kernel) rfl rfl (Nat.le_of_ble_eq_true rfl) d_RS_init_19 (fun H locs hP hD hS => ?_)
  have hP : va_P (dC, dI) classes [(h0, .inr (0, [.int 0, .int 0, .ref q17, .null, .null, .null])), (q17, .inl (a17, 16, .inl (fun _ => 0)))] H := hP
  have hD : va_D Ad [(h0, .inr (0, [.int 0, .int 0, .ref q17, .null, .null, .null])), (q17, .inl (a17, 16, .inl (fun _ => 0)))] := hD
  refine lv_aload_n hx hb d_RS_init_22 rfl (lv_at hl 0 rfl) ?_
  refine lv_bipush (v := 16) hx hb d_RS_init_23 (by decide) ?_
  refine va_newa (atype := .boolean) (N' := 16) (a0 := (16, .inl (fun _ => 0))) (ty := .boolean) (n := 16) hx hb (hW _ k_256) rfl hK hP hD hS hA (fun _ => rfl) (by decide) rfl (Nat.le_of_ble_eq_true rfl) (Nat.le_of_ble_eq_true rfl) (Nat.le_of_ble_eq_true rfl) d_RS_init_25 (fun q25 a25 H hK hP hD hS => ?_)
  have hP : va_P (dC, dI) classes [(h0, .inr (0, [.int 0, .int 0, .ref q17, .null, .null, .null])), (q17, .inl (a17, 16, .inl (fun _ => 0))), (q25, .inl (a25, 16, .inl (fun _ => 0)))] H := hP
  have hD : va_D Ad [(h0, .inr (0, [.int 0, .int 0, .ref q17, .null, .null, .null])), (q17, .inl (a17, 16, .inl (fun _ => 0))), (q25, .inl (a25, 16, .inl (fun _ => 0)))] := hD
  have hK : va_K (dC, dI) classes [(a17, .int), (a25, .boolean)] s := hK
  refine va_putF (D := (dC, dI)) (ci := 0) (v := .ref q25) (ty := (.array .boolean)) (C := R_RS) (T := F_RS) (N := 6) hx hb hW i_RS t_RS t_RS_ok n_RS hown hK hP hD hS 0 rfl rfl 3 (by decide) (hW _ k_29) (fun _ h9 => h9) rfl hin rfl (by decide +kernel) rfl rfl (Nat.le_of_ble_eq_true rfl) d_RS_init_27 (fun H locs hP hD hS => ?_)
  have hP : va_P (dC, dI) classes [(h0, .inr (0, [.int 0, .int 0, .ref q17, .ref q25, .null, .null])), (q17, .inl (a17, 16, .inl (fun _ => 0))), (q25, .inl (a25, 16, .inl (fun _ => 0)))] H := hP
  have hD : va_D Ad [(h0, .inr (0, [.int 0, .int 0, .ref q17, .ref q25, .null, .null])), (q17, .inl (a17, 16, .inl (fun _ => 0))), (q25, .inl (a25, 16, .inl (fun _ => 0)))] := hD
  refine lv_aload_n hx hb d_RS_init_30 rfl (lv_at hl 0 rfl) ?_
  refine va_new (ci := 1) (fs := [.int 0, .null, .null, .null, .null, .null, .null]) (C := R_Rb) (T := F_Rb) (N := 7) hx hb hW i_Rb t_Rb t_Rb_ok hown (hW _ k_260) (hW _ k_261) (hW _ k_33) hK hP hD hS hA rfl (fun j hj => by rcases (show j = 0 ∨ j = 1 ∨ j = 2 ∨ j = 3 ∨ j = 4 ∨ j = 5 ∨ j = 6 by omega) with rfl | rfl | rfl | rfl | rfl | rfl | rfl <;> rfl) (Nat.le_of_ble_eq_true rfl) (Nat.le_of_ble_eq_true rfl) d_RS_init_31 (fun q31 H hP hD hS => ?_)
  have hP : va_P (dC, dI) classes [(h0, .inr (0, [.int 0, .int 0, .ref q17, .ref q25, .null, .null])), (q17, .inl (a17, 16, .inl (fun _ => 0))), (q25, .inl (a25, 16, .inl (fun _ => 0))), (q31, .inr (1, [.int 0, .null, .null, .null, .null, .null, .null]))] H := hP
  have hD : va_D Ad [(h0, .inr (0, [.int 0, .int 0, .ref q17, .ref q25, .null, .null])), (q17, .inl (a17, 16, .inl (fun _ => 0))), (q25, .inl (a25, 16, .inl (fun _ => 0))), (q31, .inr (1, [.int 0, .null, .null, .null, .null, .null, .null]))] := hD
  refine lv_dup hx hb d_RS_init_34 rfl ?_
  have hPc := hP.sub (ws' := [(q31, .inr (1, [.int 0, .null, .null, .null, .null, .null, .null]))]) [3] rfl
  have hDc := hD.sub (ws' := [(q31, .inr (1, [.int 0, .null, .null, .null, .null, .null, .null]))]) [3] (by decide) rfl
  have hKc := hK.sub (tys' := []) [] rfl
  have hFc := va_free (wc := [(q31, .inr (1, [.int 0, .null, .null, .null, .null, .null, .null]))]) hD hS hA [3] rfl
  refine va_callv (va_runIN (As := []) (rest := [.ref q31, .ref h0]) ⟨hx, hb, hml, hown, hW⟩ (c_Rb_init l dC dI q31 H.size) ⟨va_cnB 0 hW (gInI k_262) rfl rfl rfl hN0 (hW _ k_33) (by decide +kernel) ⟨Nat.le_of_ble_eq_true rfl, Nat.le_of_ble_eq_true rfl⟩, rfl, hW _ k_263⟩ ⟨SP.blind _, fun U hU hW9 => ⟨rfl, by rw [hU], by rw [hU]; exact hPc, va_K.moved hW9.alike hKc, hDc.weaken (fun _ _ _ _ => trivial)⟩⟩ rfl rfl hl.1 rfl (lv_room (Nat.le_of_ble_eq_true rfl)) d_RS_init_35 ⟨Nat.le_of_ble_eq_true rfl, Nat.le_of_ble_eq_true rfl⟩) hS (fun q _ h => hFc q h) hFc (fun u35 t H1 locs ht hvm hw hB hz1 hk1 hS => ?_)
  obtain ⟨hP1, hK1, hD1⟩ := hB
  rw [ht] at hP1
  have hK1 := va_K.moved hvm.symm hK1
  obtain ⟨hP, hD⟩ := va_join (wr := [(h0, .inr (0, [.int 0, .int 0, .ref q17, .ref q25, .null, .null])), (q17, .inl (a17, 16, .inl (fun _ => 0))), (q25, .inl (a25, 16, .inl (fun _ => 0)))]) (w1 := wRb q31 u35.1 u35.2) hP hD [3] [0, 1, 2] rfl rfl (by decide) (by decide) hk1 hFc hP1 hD1
  have hK := (hK.sub (tys' := [(a17, .int), (a25, .boolean)]) [0, 1] rfl).app hK1
  generalize H1 = H at hP hS ⊢
  have hP : va_P (dC, dI) classes [(h0, .inr (0, [.int 0, .int 0, .ref q17, .ref q25, .null, .null])), (q17, .inl (a17, 16, .inl (fun _ => 0))), (q25, .inl (a25, 16, .inl (fun _ => 0))), (q31, .inr (1, [.int 0, .ref (u35.1 0), .ref (u35.1 1), .ref (u35.1 2), .ref (u35.1 3), .ref (u35.1 4), .ref (u35.1 5)])), (u35.1 0, .inl (u35.2 0, 6, .inl (fun _ => 0))), (u35.1 1, .inl (u35.2 1, 6, .inl (fun _ => 0))), (u35.1 2, .inl (u35.2 2, 6, .inl (fun _ => 0))), (u35.1 3, .inl (u35.2 3, 6, .inl (fun _ => 0))), (u35.1 4, .inl (u35.2 4, 6, .inl (fun _ => 0))), (u35.1 5, .inl (u35.2 5, 6, .inl (fun _ => 0)))] H := hP
  have hD : va_D Ad [(h0, .inr (0, [.int 0, .int 0, .ref q17, .ref q25, .null, .null])), (q17, .inl (a17, 16, .inl (fun _ => 0))), (q25, .inl (a25, 16, .inl (fun _ => 0))), (q31, .inr (1, [.int 0, .ref (u35.1 0), .ref (u35.1 1), .ref (u35.1 2), .ref (u35.1 3), .ref (u35.1 4), .ref (u35.1 5)])), (u35.1 0, .inl (u35.2 0, 6, .inl (fun _ => 0))), (u35.1 1, .inl (u35.2 1, 6, .inl (fun _ => 0))), (u35.1 2, .inl (u35.2 2, 6, .inl (fun _ => 0))), (u35.1 3, .inl (u35.2 3, 6, .inl (fun _ => 0))), (u35.1 4, .inl (u35.2 4, 6, .inl (fun _ => 0))), (u35.1 5, .inl (u35.2 5, 6, .inl (fun _ => 0)))] := hD
  have hK : va_K (dC, dI) classes [(a17, .int), (a25, .boolean), (u35.2 0, .int), (u35.2 1, .boolean), (u35.2 2, .int), (u35.2 3, .int), (u35.2 4, .boolean), (u35.2 5, .int)] s := hK
  refine va_putF (D := (dC, dI)) (ci := 0) (v := .ref q31) (ty := (.object "ReserveSteps$Robots")) (C := R_RS) (T := F_RS) (N := 6) hx hb hW i_RS t_RS t_RS_ok n_RS hown hK hP hD hS 0 rfl rfl 4 (by decide) (hW _ k_3) (fun _ h9 => h9) rfl hin rfl (by decide +kernel) rfl rfl (Nat.le_of_ble_eq_true rfl) d_RS_init_38 (fun H locs hP hD hS => ?_)
  have hP : va_P (dC, dI) classes [(h0, .inr (0, [.int 0, .int 0, .ref q17, .ref q25, .ref q31, .null])), (q17, .inl (a17, 16, .inl (fun _ => 0))), (q25, .inl (a25, 16, .inl (fun _ => 0))), (q31, .inr (1, [.int 0, .ref (u35.1 0), .ref (u35.1 1), .ref (u35.1 2), .ref (u35.1 3), .ref (u35.1 4), .ref (u35.1 5)])), (u35.1 0, .inl (u35.2 0, 6, .inl (fun _ => 0))), (u35.1 1, .inl (u35.2 1, 6, .inl (fun _ => 0))), (u35.1 2, .inl (u35.2 2, 6, .inl (fun _ => 0))), (u35.1 3, .inl (u35.2 3, 6, .inl (fun _ => 0))), (u35.1 4, .inl (u35.2 4, 6, .inl (fun _ => 0))), (u35.1 5, .inl (u35.2 5, 6, .inl (fun _ => 0)))] H := hP
  have hD : va_D Ad [(h0, .inr (0, [.int 0, .int 0, .ref q17, .ref q25, .ref q31, .null])), (q17, .inl (a17, 16, .inl (fun _ => 0))), (q25, .inl (a25, 16, .inl (fun _ => 0))), (q31, .inr (1, [.int 0, .ref (u35.1 0), .ref (u35.1 1), .ref (u35.1 2), .ref (u35.1 3), .ref (u35.1 4), .ref (u35.1 5)])), (u35.1 0, .inl (u35.2 0, 6, .inl (fun _ => 0))), (u35.1 1, .inl (u35.2 1, 6, .inl (fun _ => 0))), (u35.1 2, .inl (u35.2 2, 6, .inl (fun _ => 0))), (u35.1 3, .inl (u35.2 3, 6, .inl (fun _ => 0))), (u35.1 4, .inl (u35.2 4, 6, .inl (fun _ => 0))), (u35.1 5, .inl (u35.2 5, 6, .inl (fun _ => 0)))] := hD
  refine lv_aload_n hx hb d_RS_init_41 rfl (lv_at hl 0 rfl) ?_
  refine va_new (ci := 2) (fs := [.int 0, .null, .null, .null, .null, .null, .null]) (C := R_Gr) (T := F_Gr) (N := 7) hx hb hW i_Gr t_Gr t_Gr_ok hown (hW _ k_264) (hW _ k_265) (hW _ k_52) hK hP hD hS hA rfl (fun j hj => by rcases (show j = 0 ∨ j = 1 ∨ j = 2 ∨ j = 3 ∨ j = 4 ∨ j = 5 ∨ j = 6 by omega) with rfl | rfl | rfl | rfl | rfl | rfl | rfl <;> rfl) (Nat.le_of_ble_eq_true rfl) (Nat.le_of_ble_eq_true rfl) d_RS_init_42 (fun q42 H hP hD hS => ?_)
  have hP : va_P (dC, dI) classes [(h0, .inr (0, [.int 0, .int 0, .ref q17, .ref q25, .ref q31, .null])), (q17, .inl (a17, 16, .inl (fun _ => 0))), (q25, .inl (a25, 16, .inl (fun _ => 0))), (q31, .inr (1, [.int 0, .ref (u35.1 0), .ref (u35.1 1), .ref (u35.1 2), .ref (u35.1 3), .ref (u35.1 4), .ref (u35.1 5)])), (u35.1 0, .inl (u35.2 0, 6, .inl (fun _ => 0))), (u35.1 1, .inl (u35.2 1, 6, .inl (fun _ => 0))), (u35.1 2, .inl (u35.2 2, 6, .inl (fun _ => 0))), (u35.1 3, .inl (u35.2 3, 6, .inl (fun _ => 0))), (u35.1 4, .inl (u35.2 4, 6, .inl (fun _ => 0))), (u35.1 5, .inl (u35.2 5, 6, .inl (fun _ => 0))), (q42, .inr (2, [.int 0, .null, .null, .null, .null, .null, .null]))] H := hP
  have hD : va_D Ad [(h0, .inr (0, [.int 0, .int 0, .ref q17, .ref q25, .ref q31, .null])), (q17, .inl (a17, 16, .inl (fun _ => 0))), (q25, .inl (a25, 16, .inl (fun _ => 0))), (q31, .inr (1, [.int 0, .ref (u35.1 0), .ref (u35.1 1), .ref (u35.1 2), .ref (u35.1 3), .ref (u35.1 4), .ref (u35.1 5)])), (u35.1 0, .inl (u35.2 0, 6, .inl (fun _ => 0))), (u35.1 1, .inl (u35.2 1, 6, .inl (fun _ => 0))), (u35.1 2, .inl (u35.2 2, 6, .inl (fun _ => 0))), (u35.1 3, .inl (u35.2 3, 6, .inl (fun _ => 0))), (u35.1 4, .inl (u35.2 4, 6, .inl (fun _ => 0))), (u35.1 5, .inl (u35.2 5, 6, .inl (fun _ => 0))), (q42, .inr (2, [.int 0, .null, .null, .null, .null, .null, .null]))] := hD
  refine lv_dup hx hb d_RS_init_45 rfl ?_
  have hPc := hP.sub (ws' := [(q42, .inr (2, [.int 0, .null, .null, .null, .null, .null, .null]))]) [10] rfl
  have hDc := hD.sub (ws' := [(q42, .inr (2, [.int 0, .null, .null, .null, .null, .null, .null]))]) [10] (by decide) rfl
  have hKc := hK.sub (tys' := []) [] rfl
  have hFc := va_free (wc := [(q42, .inr (2, [.int 0, .null, .null, .null, .null, .null, .null]))]) hD hS hA [10] rfl
  refine va_callv (va_runIN (As := []) (rest := [.ref q42, .ref h0]) ⟨hx, hb, hml, hown, hW⟩ (c_Gr_init l dC dI q42 H.size) ⟨va_cnB 0 hW (gInI k_266) rfl rfl rfl hN1 (hW _ k_52) (by decide +kernel) ⟨Nat.le_of_ble_eq_true rfl, Nat.le_of_ble_eq_true rfl⟩, rfl, hW _ k_267⟩ ⟨SP.blind _, fun U hU hW9 => ⟨rfl, by rw [hU], by rw [hU]; exact hPc, va_K.moved hW9.alike hKc, hDc.weaken (fun _ _ _ _ => trivial)⟩⟩ rfl rfl hl.1 rfl (lv_room (Nat.le_of_ble_eq_true rfl)) d_RS_init_46 ⟨Nat.le_of_ble_eq_true rfl, Nat.le_of_ble_eq_true rfl⟩) hS (fun q _ h => hFc q h) hFc (fun u46 t H1 locs ht hvm hw hB hz1 hk1 hS => ?_)
  obtain ⟨hP1, hK1, hD1⟩ := hB
  rw [ht] at hP1
  have hK1 := va_K.moved hvm.symm hK1
  obtain ⟨hP, hD⟩ := va_join (wr := [(h0, .inr (0, [.int 0, .int 0, .ref q17, .ref q25, .ref q31, .null])), (q17, .inl (a17, 16, .inl (fun _ => 0))), (q25, .inl (a25, 16, .inl (fun _ => 0))), (q31, .inr (1, [.int 0, .ref (u35.1 0), .ref (u35.1 1), .ref (u35.1 2), .ref (u35.1 3), .ref (u35.1 4), .ref (u35.1 5)])), (u35.1 0, .inl (u35.2 0, 6, .inl (fun _ => 0))), (u35.1 1, .inl (u35.2 1, 6, .inl (fun _ => 0))), (u35.1 2, .inl (u35.2 2, 6, .inl (fun _ => 0))), (u35.1 3, .inl (u35.2 3, 6, .inl (fun _ => 0))), (u35.1 4, .inl (u35.2 4, 6, .inl (fun _ => 0))), (u35.1 5, .inl (u35.2 5, 6, .inl (fun _ => 0)))]) (w1 := wGr q42 u46.1 u46.2) hP hD [10] [0, 1, 2, 3, 4, 5, 6, 7, 8, 9] rfl rfl (by decide) (by decide) hk1 hFc hP1 hD1
  have hK := (hK.sub (tys' := [(a17, .int), (a25, .boolean), (u35.2 0, .int), (u35.2 1, .boolean), (u35.2 2, .int), (u35.2 3, .int), (u35.2 4, .boolean), (u35.2 5, .int)]) [0, 1, 2, 3, 4, 5, 6, 7] rfl).app hK1
  generalize H1 = H at hP hS ⊢
  have hP : va_P (dC, dI) classes [(h0, .inr (0, [.int 0, .int 0, .ref q17, .ref q25, .ref q31, .null])), (q17, .inl (a17, 16, .inl (fun _ => 0))), (q25, .inl (a25, 16, .inl (fun _ => 0))), (q31, .inr (1, [.int 0, .ref (u35.1 0), .ref (u35.1 1), .ref (u35.1 2), .ref (u35.1 3), .ref (u35.1 4), .ref (u35.1 5)])), (u35.1 0, .inl (u35.2 0, 6, .inl (fun _ => 0))), (u35.1 1, .inl (u35.2 1, 6, .inl (fun _ => 0))), (u35.1 2, .inl (u35.2 2, 6, .inl (fun _ => 0))), (u35.1 3, .inl (u35.2 3, 6, .inl (fun _ => 0))), (u35.1 4, .inl (u35.2 4, 6, .inl (fun _ => 0))), (u35.1 5, .inl (u35.2 5, 6, .inl (fun _ => 0))), (q42, .inr (2, [.int 0, .ref (u46.1 0), .ref (u46.1 1), .ref (u46.1 2), .ref (u46.1 3), .ref (u46.1 4), .ref (u46.1 5)])), (u46.1 0, .inl (u46.2 0, 61, .inl (fun _ => 0))), (u46.1 1, .inl (u46.2 1, 61, .inl (fun _ => 0))), (u46.1 2, .inl (u46.2 2, 61, .inl (fun _ => 0))), (u46.1 3, .inl (u46.2 3, 61, .inl (fun _ => 0))), (u46.1 4, .inl (u46.2 4, 61, .inl (fun _ => 0))), (u46.1 5, .inl (u46.2 5, 61, .inl (fun _ => 0)))] H := hP
  have hD : va_D Ad [(h0, .inr (0, [.int 0, .int 0, .ref q17, .ref q25, .ref q31, .null])), (q17, .inl (a17, 16, .inl (fun _ => 0))), (q25, .inl (a25, 16, .inl (fun _ => 0))), (q31, .inr (1, [.int 0, .ref (u35.1 0), .ref (u35.1 1), .ref (u35.1 2), .ref (u35.1 3), .ref (u35.1 4), .ref (u35.1 5)])), (u35.1 0, .inl (u35.2 0, 6, .inl (fun _ => 0))), (u35.1 1, .inl (u35.2 1, 6, .inl (fun _ => 0))), (u35.1 2, .inl (u35.2 2, 6, .inl (fun _ => 0))), (u35.1 3, .inl (u35.2 3, 6, .inl (fun _ => 0))), (u35.1 4, .inl (u35.2 4, 6, .inl (fun _ => 0))), (u35.1 5, .inl (u35.2 5, 6, .inl (fun _ => 0))), (q42, .inr (2, [.int 0, .ref (u46.1 0), .ref (u46.1 1), .ref (u46.1 2), .ref (u46.1 3), .ref (u46.1 4), .ref (u46.1 5)])), (u46.1 0, .inl (u46.2 0, 61, .inl (fun _ => 0))), (u46.1 1, .inl (u46.2 1, 61, .inl (fun _ => 0))), (u46.1 2, .inl (u46.2 2, 61, .inl (fun _ => 0))), (u46.1 3, .inl (u46.2 3, 61, .inl (fun _ => 0))), (u46.1 4, .inl (u46.2 4, 61, .inl (fun _ => 0))), (u46.1 5, .inl (u46.2 5, 61, .inl (fun _ => 0)))] := hD
  have hK : va_K (dC, dI) classes [(a17, .int), (a25, .boolean), (u35.2 0, .int), (u35.2 1, .boolean), (u35.2 2, .int), (u35.2 3, .int), (u35.2 4, .boolean), (u35.2 5, .int), (u46.2 0, .int), (u46.2 1, .int), (u46.2 2, .int), (u46.2 3, .int), (u46.2 4, .int), (u46.2 5, .int)] s := hK
  refine va_putF (D := (dC, dI)) (ci := 0) (v := .ref q42) (ty := (.object "ReserveSteps$Grants")) (C := R_RS) (T := F_RS) (N := 6) hx hb hW i_RS t_RS t_RS_ok n_RS hown hK hP hD hS 0 rfl rfl 5 (by decide) (hW _ k_5) (fun _ h9 => h9) rfl hin rfl (by decide +kernel) rfl rfl (Nat.le_of_ble_eq_true rfl) d_RS_init_49 (fun H locs hP hD hS => ?_)
  have hP : va_P (dC, dI) classes [(h0, .inr (0, [.int 0, .int 0, .ref q17, .ref q25, .ref q31, .ref q42])), (q17, .inl (a17, 16, .inl (fun _ => 0))), (q25, .inl (a25, 16, .inl (fun _ => 0))), (q31, .inr (1, [.int 0, .ref (u35.1 0), .ref (u35.1 1), .ref (u35.1 2), .ref (u35.1 3), .ref (u35.1 4), .ref (u35.1 5)])), (u35.1 0, .inl (u35.2 0, 6, .inl (fun _ => 0))), (u35.1 1, .inl (u35.2 1, 6, .inl (fun _ => 0))), (u35.1 2, .inl (u35.2 2, 6, .inl (fun _ => 0))), (u35.1 3, .inl (u35.2 3, 6, .inl (fun _ => 0))), (u35.1 4, .inl (u35.2 4, 6, .inl (fun _ => 0))), (u35.1 5, .inl (u35.2 5, 6, .inl (fun _ => 0))), (q42, .inr (2, [.int 0, .ref (u46.1 0), .ref (u46.1 1), .ref (u46.1 2), .ref (u46.1 3), .ref (u46.1 4), .ref (u46.1 5)])), (u46.1 0, .inl (u46.2 0, 61, .inl (fun _ => 0))), (u46.1 1, .inl (u46.2 1, 61, .inl (fun _ => 0))), (u46.1 2, .inl (u46.2 2, 61, .inl (fun _ => 0))), (u46.1 3, .inl (u46.2 3, 61, .inl (fun _ => 0))), (u46.1 4, .inl (u46.2 4, 61, .inl (fun _ => 0))), (u46.1 5, .inl (u46.2 5, 61, .inl (fun _ => 0)))] H := hP
  have hD : va_D Ad [(h0, .inr (0, [.int 0, .int 0, .ref q17, .ref q25, .ref q31, .ref q42])), (q17, .inl (a17, 16, .inl (fun _ => 0))), (q25, .inl (a25, 16, .inl (fun _ => 0))), (q31, .inr (1, [.int 0, .ref (u35.1 0), .ref (u35.1 1), .ref (u35.1 2), .ref (u35.1 3), .ref (u35.1 4), .ref (u35.1 5)])), (u35.1 0, .inl (u35.2 0, 6, .inl (fun _ => 0))), (u35.1 1, .inl (u35.2 1, 6, .inl (fun _ => 0))), (u35.1 2, .inl (u35.2 2, 6, .inl (fun _ => 0))), (u35.1 3, .inl (u35.2 3, 6, .inl (fun _ => 0))), (u35.1 4, .inl (u35.2 4, 6, .inl (fun _ => 0))), (u35.1 5, .inl (u35.2 5, 6, .inl (fun _ => 0))), (q42, .inr (2, [.int 0, .ref (u46.1 0), .ref (u46.1 1), .ref (u46.1 2), .ref (u46.1 3), .ref (u46.1 4), .ref (u46.1 5)])), (u46.1 0, .inl (u46.2 0, 61, .inl (fun _ => 0))), (u46.1 1, .inl (u46.2 1, 61, .inl (fun _ => 0))), (u46.1 2, .inl (u46.2 2, 61, .inl (fun _ => 0))), (u46.1 3, .inl (u46.2 3, 61, .inl (fun _ => 0))), (u46.1 4, .inl (u46.2 4, 61, .inl (fun _ => 0))), (u46.1 5, .inl (u46.2 5, 61, .inl (fun _ => 0)))] := hD
  have hP9 := hP.sub (ws' := (wC (fun j => match j with | 0 => h0 | 1 => q31 | 2 => q42 | 3 => q17 | 4 => q25 | 5 => u35.1 0 | 6 => u35.1 1 | 7 => u35.1 2 | 8 => u35.1 3 | 9 => u35.1 4 | 10 => u35.1 5 | 11 => u46.1 0 | 12 => u46.1 1 | 13 => u46.1 2 | 14 => u46.1 3 | 15 => u46.1 4 | _ => u46.1 5) (fun j => match j with | 0 => a17 | 1 => a25 | 2 => u35.2 0 | 3 => u35.2 1 | 4 => u35.2 2 | 5 => u35.2 3 | 6 => u35.2 4 | 7 => u35.2 5 | 8 => u46.2 0 | 9 => u46.2 1 | 10 => u46.2 2 | 11 => u46.2 3 | 12 => u46.2 4 | _ => u46.2 5) (fun _ => 0) (fun _ _ => 0))) [0, 3, 10, 1, 2, 4, 5, 6, 7, 8, 9, 11, 12, 13, 14, 15, 16] rfl
  have hD9 := hD.sub (ws' := (wC (fun j => match j with | 0 => h0 | 1 => q31 | 2 => q42 | 3 => q17 | 4 => q25 | 5 => u35.1 0 | 6 => u35.1 1 | 7 => u35.1 2 | 8 => u35.1 3 | 9 => u35.1 4 | 10 => u35.1 5 | 11 => u46.1 0 | 12 => u46.1 1 | 13 => u46.1 2 | 14 => u46.1 3 | 15 => u46.1 4 | _ => u46.1 5) (fun j => match j with | 0 => a17 | 1 => a25 | 2 => u35.2 0 | 3 => u35.2 1 | 4 => u35.2 2 | 5 => u35.2 3 | 6 => u35.2 4 | 7 => u35.2 5 | 8 => u46.2 0 | 9 => u46.2 1 | 10 => u46.2 2 | 11 => u46.2 3 | 12 => u46.2 4 | _ => u46.2 5) (fun _ => 0) (fun _ _ => 0))) [0, 3, 10, 1, 2, 4, 5, 6, 7, 8, 9, 11, 12, 13, 14, 15, 16] (by decide) rfl
  have hK9 := hK.sub (tys' := (tC (fun j => match j with | 0 => a17 | 1 => a25 | 2 => u35.2 0 | 3 => u35.2 1 | 4 => u35.2 2 | 5 => u35.2 3 | 6 => u35.2 4 | 7 => u35.2 5 | 8 => u46.2 0 | 9 => u46.2 1 | 10 => u46.2 2 | 11 => u46.2 3 | 12 => u46.2 4 | _ => u46.2 5))) [0, 1, 2, 3, 4, 5, 6, 7, 8, 9, 10, 11, 12, 13] rfl
  refine W.widen (k := 16) (n := 448) (Nat.le_of_ble_eq_true rfl) (Nat.le_of_ble_eq_true rfl) ?_
  exact W.vret hx hb hr (fun t ht hW9 => ⟨⟨((fun j => match j with | 0 => h0 | 1 => q31 | 2 => q42 | 3 => q17 | 4 => q25 | 5 => u35.1 0 | 6 => u35.1 1 | 7 => u35.1 2 | 8 => u35.1 3 | 9 => u35.1 4 | 10 => u35.1 5 | 11 => u46.1 0 | 12 => u46.1 1 | 13 => u46.1 2 | 14 => u46.1 3 | 15 => u46.1 4 | _ => u46.1 5), (fun j => match j with | 0 => a17 | 1 => a25 | 2 => u35.2 0 | 3 => u35.2 1 | 4 => u35.2 2 | 5 => u35.2 3 | 6 => u35.2 4 | 7 => u35.2 5 | 8 => u46.2 0 | 9 => u46.2 1 | 10 => u46.2 2 | 11 => u46.2 3 | 12 => u46.2 4 | _ => u46.2 5)), rfl, rfl, by rw [ht]; exact hP9, va_K.moved hW9.alike hK9, hD9⟩, hS.F ht⟩) hS.2.2 d_RS_init_52
