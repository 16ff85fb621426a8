def bc_s (x k : Int32) : Int32 := (x.toUInt32 >>> (k.toUInt32 &&& Int32.toUInt32 31)).toInt32
def bc1 (x : Int32) : Int32 := x - (bc_s x 1 &&& 1431655765)
def bc2 (x : Int32) : Int32 := (x &&& 858993459) + (bc_s x 2 &&& 858993459)
def bc3 (x : Int32) : Int32 := (x + bc_s x 4) &&& 252645135
def bc4 (x : Int32) : Int32 := x + bc_s x 8
def bc5 (x : Int32) : Int32 := x + bc_s x 16
def f_bitCount (x : Int32) : Int32 := bc5 (bc4 (bc3 (bc2 (bc1 x)))) &&& 63
set_option maxHeartbeats 4000000 in
set_option maxRecDepth 100000 in
theorem c_bitCount (l : Launch) (x : Int32) : Met l y_bitCount w_bitCount ({ frames := 0, cells := 0, slots := 0, locals := 0 }) (va_Pc [.int x] (fun _ => True)) (vp_Si (fun v => v = f_bitCount x)) 0 0 (fun _ => False) := by
  refine Met.ofW (cc := b_bitCount) (maxL := 1) (ret := (some .int)) (by decide) rfl ?_
  intro p e s m args below meth c s₁ B hml hv0
  obtain ⟨rfl, -⟩ := hv0
  have hx := B.exec
  have hb := B.bytes
  have hr := B.returns
  have hts := atoms_spec (ws := w_bitCount) B.pre
  have hW : ∀ w ∈ WALL, w.before ([.int x] : List Value).toArray s = true := fun w h => hts w (List.mem_cons_of_mem _ h)
  have hown : s.vm.findClass "java/lang/Integer" = some m.cls := findClass_of_methodNamed B.named
  have hlocks := B.notSynchronized
  have hl := lv_entry ([.int x]) (n := 1) (Nat.le_of_ble_eq_true rfl)
  rw [lg_entry_eq]
  generalize (lg_sl ([.int x]) ++ List.replicate (1 - (lg_sl ([.int x])).length) Slot.unset).toArray = ls at hl ⊢
  have hl : lv_has ls 1 [(0, .int x)] := hl
  refine lv_iload_n hx hb d_bitCount_0 rfl (lv_at hl 0 rfl) ?_
  refine lv_iload_n hx hb d_bitCount_1 rfl (lv_at hl 0 rfl) ?_
  refine lv_iconst (v := 1) hx hb d_bitCount_2 (by decide) ?_
  refine lv_iushr (v := bc_s (x) 1) hx hb d_bitCount_3 rfl ?_
  refine lv_ldcw (v := 1431655765) hx hb hown (hW _ k_268) d_bitCount_4 ?_
  refine lv_iand hx hb d_bitCount_7 ?_
  refine lv_isub hx hb d_bitCount_8 ?_
  refine lv_istore_n (lv' := [(0, .int (bc1 (x)))]) hx hb d_bitCount_9 rfl hl (by decide) rfl (fun ls hl => ?_)
  refine lv_iload_n hx hb d_bitCount_10 rfl (lv_at hl 0 rfl) ?_
  refine lv_ldcw (v := 858993459) hx hb hown (hW _ k_269) d_bitCount_11 ?_
  refine lv_iand hx hb d_bitCount_14 ?_
  refine lv_iload_n hx hb d_bitCount_15 rfl (lv_at hl 0 rfl) ?_
  refine lv_iconst (v := 2) hx hb d_bitCount_16 (by decide) ?_
  refine lv_iushr (v := bc_s (bc1 (x)) 2) hx hb d_bitCount_17 rfl ?_
  refine lv_ldcw (v := 858993459) hx hb hown (hW _ k_269) d_bitCount_18 ?_
  refine lv_iand hx hb d_bitCount_21 ?_
  refine lv_iadd hx hb d_bitCount_22 ?_
  refine lv_istore_n (lv' := [(0, .int (bc2 (bc1 (x))))]) hx hb d_bitCount_23 rfl hl (by decide) rfl (fun ls hl => ?_)
  refine lv_iload_n hx hb d_bitCount_24 rfl (lv_at hl 0 rfl) ?_
  refine lv_iload_n hx hb d_bitCount_25 rfl (lv_at hl 0 rfl) ?_
  refine lv_iconst (v := 4) hx hb d_bitCount_26 (by decide) ?_
  refine lv_iushr (v := bc_s (bc2 (bc1 (x))) 4) hx hb d_bitCount_27 rfl ?_
  refine lv_iadd hx hb d_bitCount_28 ?_
  refine lv_ldcw (v := 252645135) hx hb hown (hW _ k_270) d_bitCount_29 ?_
  refine lv_iand hx hb d_bitCount_32 ?_
  refine lv_istore_n (lv' := [(0, .int (bc3 (bc2 (bc1 (x)))))]) hx hb d_bitCount_33 rfl hl (by decide) rfl (fun ls hl => ?_)
  refine lv_iload_n hx hb d_bitCount_34 rfl (lv_at hl 0 rfl) ?_
  refine lv_iload_n hx hb d_bitCount_35 rfl (lv_at hl 0 rfl) ?_
  refine lv_bipush (v := 8) hx hb d_bitCount_36 (by decide) ?_
  refine lv_iushr (v := bc_s (bc3 (bc2 (bc1 (x)))) 8) hx hb d_bitCount_38 rfl ?_
  refine lv_iadd hx hb d_bitCount_39 ?_
  refine lv_istore_n (lv' := [(0, .int (bc4 (bc3 (bc2 (bc1 (x))))))]) hx hb d_bitCount_40 rfl hl (by decide) rfl (fun ls hl => ?_)
  refine lv_iload_n hx hb d_bitCount_41 rfl (lv_at hl 0 rfl) ?_
  refine lv_iload_n hx hb d_bitCount_42 rfl (lv_at hl 0 rfl) ?_
  refine lv_bipush (v := 16) hx hb d_bitCount_43 (by decide) ?_
  refine lv_iushr (v := bc_s (bc4 (bc3 (bc2 (bc1 (x))))) 16) hx hb d_bitCount_45 rfl ?_
  refine lv_iadd hx hb d_bitCount_46 ?_
  refine lv_istore_n (lv' := [(0, .int (bc5 (bc4 (bc3 (bc2 (bc1 (x)))))))]) hx hb d_bitCount_47 rfl hl (by decide) rfl (fun ls hl => ?_)
  refine lv_iload_n hx hb d_bitCount_48 rfl (lv_at hl 0 rfl) ?_
  refine lv_bipush (v := 63) hx hb d_bitCount_49 (by decide) ?_
  refine lv_iand hx hb d_bitCount_51 ?_
  exact W.iret (v := f_bitCount x) hx hb hr (fun t ht hW9 => ⟨f_bitCount x, rfl, rfl, ht⟩) (fun q hq => nomatch hq) d_bitCount_52
