def wM (r : Nat → Nat) (k : Nat → ClassId) (F : Nat → Int32) (A : Nat → Nat → Int32) : va_W := [(r 0, .inr (3, [.int (F 0), .int (F 1), .int (F 2), .ref (r 1), .ref (r 2), .int (F 3), .ref (r 3), .ref (r 4), .ref (r 5), .ref (r 6), .ref (r 7), .ref (r 8), .int (F 4), .ref (r 9), .ref (r 10), .ref (r 11), .ref (r 12), .ref (r 13), .ref (r 14)])), (r 1, .inl (k 0, 16, .inl (A 0))), (r 2, .inl (k 1, 256, .inl (A 1))), (r 3, .inl (k 2, 6, .inl (A 2))), (r 4, .inl (k 3, 6, .inl (A 3))), (r 5, .inl (k 4, 6, .inl (A 4))), (r 6, .inl (k 5, 6, .inl (A 5))), (r 7, .inl (k 6, 6, .inl (A 6))), (r 8, .inl (k 7, 6, .inl (A 7))), (r 9, .inl (k 8, 61, .inl (A 8))), (r 10, .inl (k 9, 61, .inl (A 9))), (r 11, .inl (k 10, 61, .inl (A 10))), (r 12, .inl (k 11, 61, .inl (A 11))), (r 13, .inl (k 12, 61, .inl (A 12))), (r 14, .inl (k 13, 61, .inl (A 13)))]
def tM (k : Nat → ClassId) : List (ClassId × FieldType) := [(k 0, .boolean), (k 1, .boolean), (k 2, .int), (k 3, .boolean), (k 4, .int), (k 5, .int), (k 6, .int), (k 7, .boolean), (k 8, .int), (k 9, .int), (k 10, .int), (k 11, .int), (k 12, .int), (k 13, .int)]
theorem pMA_0 {D : va_G} {H : Heap} {r : Nat → Nat} {k : Nat → ClassId} {F : Nat → Int32} {A : Nat → Nat → Int32} {f : Nat → Int32} (h : va_P D classes ((wM r k F A).set 1 (r 1, .inl (k 0, 16, .inl f))) H) : va_P D classes (wM r k F (uA A 0 f)) H := h
theorem dMA_0 {Ad : Nat → Prop} {r : Nat → Nat} {k : Nat → ClassId} {F : Nat → Int32} {A : Nat → Nat → Int32} {f : Nat → Int32} (h : va_D Ad ((wM r k F A).set 1 (r 1, .inl (k 0, 16, .inl f)))) : va_D Ad (wM r k F (uA A 0 f)) := h
theorem pMA_1 {D : va_G} {H : Heap} {r : Nat → Nat} {k : Nat → ClassId} {F : Nat → Int32} {A : Nat → Nat → Int32} {f : Nat → Int32} (h : va_P D classes ((wM r k F A).set 2 (r 2, .inl (k 1, 256, .inl f))) H) : va_P D classes (wM r k F (uA A 1 f)) H := h
theorem dMA_1 {Ad : Nat → Prop} {r : Nat → Nat} {k : Nat → ClassId} {F : Nat → Int32} {A : Nat → Nat → Int32} {f : Nat → Int32} (h : va_D Ad ((wM r k F A).set 2 (r 2, .inl (k 1, 256, .inl f)))) : va_D Ad (wM r k F (uA A 1 f)) := h
theorem pMA_2 {D : va_G} {H : Heap} {r : Nat → Nat} {k : Nat → ClassId} {F : Nat → Int32} {A : Nat → Nat → Int32} {f : Nat → Int32} (h : va_P D classes ((wM r k F A).set 3 (r 3, .inl (k 2, 6, .inl f))) H) : va_P D classes (wM r k F (uA A 2 f)) H := h
theorem dMA_2 {Ad : Nat → Prop} {r : Nat → Nat} {k : Nat → ClassId} {F : Nat → Int32} {A : Nat → Nat → Int32} {f : Nat → Int32} (h : va_D Ad ((wM r k F A).set 3 (r 3, .inl (k 2, 6, .inl f)))) : va_D Ad (wM r k F (uA A 2 f)) := h
theorem pMA_3 {D : va_G} {H : Heap} {r : Nat → Nat} {k : Nat → ClassId} {F : Nat → Int32} {A : Nat → Nat → Int32} {f : Nat → Int32} (h : va_P D classes ((wM r k F A).set 4 (r 4, .inl (k 3, 6, .inl f))) H) : va_P D classes (wM r k F (uA A 3 f)) H := h
theorem dMA_3 {Ad : Nat → Prop} {r : Nat → Nat} {k : Nat → ClassId} {F : Nat → Int32} {A : Nat → Nat → Int32} {f : Nat → Int32} (h : va_D Ad ((wM r k F A).set 4 (r 4, .inl (k 3, 6, .inl f)))) : va_D Ad (wM r k F (uA A 3 f)) := h
theorem pMA_4 {D : va_G} {H : Heap} {r : Nat → Nat} {k : Nat → ClassId} {F : Nat → Int32} {A : Nat → Nat → Int32} {f : Nat → Int32} (h : va_P D classes ((wM r k F A).set 5 (r 5, .inl (k 4, 6, .inl f))) H) : va_P D classes (wM r k F (uA A 4 f)) H := h
theorem dMA_4 {Ad : Nat → Prop} {r : Nat → Nat} {k : Nat → ClassId} {F : Nat → Int32} {A : Nat → Nat → Int32} {f : Nat → Int32} (h : va_D Ad ((wM r k F A).set 5 (r 5, .inl (k 4, 6, .inl f)))) : va_D Ad (wM r k F (uA A 4 f)) := h
theorem pMA_5 {D : va_G} {H : Heap} {r : Nat → Nat} {k : Nat → ClassId} {F : Nat → Int32} {A : Nat → Nat → Int32} {f : Nat → Int32} (h : va_P D classes ((wM r k F A).set 6 (r 6, .inl (k 5, 6, .inl f))) H) : va_P D classes (wM r k F (uA A 5 f)) H := h
theorem dMA_5 {Ad : Nat → Prop} {r : Nat → Nat} {k : Nat → ClassId} {F : Nat → Int32} {A : Nat → Nat → Int32} {f : Nat → Int32} (h : va_D Ad ((wM r k F A).set 6 (r 6, .inl (k 5, 6, .inl f)))) : va_D Ad (wM r k F (uA A 5 f)) := h
theorem pMA_6 {D : va_G} {H : Heap} {r : Nat → Nat} {k : Nat → ClassId} {F : Nat → Int32} {A : Nat → Nat → Int32} {f : Nat → Int32} (h : va_P D classes ((wM r k F A).set 7 (r 7, .inl (k 6, 6, .inl f))) H) : va_P D classes (wM r k F (uA A 6 f)) H := h
theorem dMA_6 {Ad : Nat → Prop} {r : Nat → Nat} {k : Nat → ClassId} {F : Nat → Int32} {A : Nat → Nat → Int32} {f : Nat → Int32} (h : va_D Ad ((wM r k F A).set 7 (r 7, .inl (k 6, 6, .inl f)))) : va_D Ad (wM r k F (uA A 6 f)) := h
theorem pMA_7 {D : va_G} {H : Heap} {r : Nat → Nat} {k : Nat → ClassId} {F : Nat → Int32} {A : Nat → Nat → Int32} {f : Nat → Int32} (h : va_P D classes ((wM r k F A).set 8 (r 8, .inl (k 7, 6, .inl f))) H) : va_P D classes (wM r k F (uA A 7 f)) H := h
theorem dMA_7 {Ad : Nat → Prop} {r : Nat → Nat} {k : Nat → ClassId} {F : Nat → Int32} {A : Nat → Nat → Int32} {f : Nat → Int32} (h : va_D Ad ((wM r k F A).set 8 (r 8, .inl (k 7, 6, .inl f)))) : va_D Ad (wM r k F (uA A 7 f)) := h
theorem pMA_8 {D : va_G} {H : Heap} {r : Nat → Nat} {k : Nat → ClassId} {F : Nat → Int32} {A : Nat → Nat → Int32} {f : Nat → Int32} (h : va_P D classes ((wM r k F A).set 9 (r 9, .inl (k 8, 61, .inl f))) H) : va_P D classes (wM r k F (uA A 8 f)) H := h
theorem dMA_8 {Ad : Nat → Prop} {r : Nat → Nat} {k : Nat → ClassId} {F : Nat → Int32} {A : Nat → Nat → Int32} {f : Nat → Int32} (h : va_D Ad ((wM r k F A).set 9 (r 9, .inl (k 8, 61, .inl f)))) : va_D Ad (wM r k F (uA A 8 f)) := h
theorem pMA_9 {D : va_G} {H : Heap} {r : Nat → Nat} {k : Nat → ClassId} {F : Nat → Int32} {A : Nat → Nat → Int32} {f : Nat → Int32} (h : va_P D classes ((wM r k F A).set 10 (r 10, .inl (k 9, 61, .inl f))) H) : va_P D classes (wM r k F (uA A 9 f)) H := h
theorem dMA_9 {Ad : Nat → Prop} {r : Nat → Nat} {k : Nat → ClassId} {F : Nat → Int32} {A : Nat → Nat → Int32} {f : Nat → Int32} (h : va_D Ad ((wM r k F A).set 10 (r 10, .inl (k 9, 61, .inl f)))) : va_D Ad (wM r k F (uA A 9 f)) := h
theorem pMA_10 {D : va_G} {H : Heap} {r : Nat → Nat} {k : Nat → ClassId} {F : Nat → Int32} {A : Nat → Nat → Int32} {f : Nat → Int32} (h : va_P D classes ((wM r k F A).set 11 (r 11, .inl (k 10, 61, .inl f))) H) : va_P D classes (wM r k F (uA A 10 f)) H := h
theorem dMA_10 {Ad : Nat → Prop} {r : Nat → Nat} {k : Nat → ClassId} {F : Nat → Int32} {A : Nat → Nat → Int32} {f : Nat → Int32} (h : va_D Ad ((wM r k F A).set 11 (r 11, .inl (k 10, 61, .inl f)))) : va_D Ad (wM r k F (uA A 10 f)) := h
theorem pMA_11 {D : va_G} {H : Heap} {r : Nat → Nat} {k : Nat → ClassId} {F : Nat → Int32} {A : Nat → Nat → Int32} {f : Nat → Int32} (h : va_P D classes ((wM r k F A).set 12 (r 12, .inl (k 11, 61, .inl f))) H) : va_P D classes (wM r k F (uA A 11 f)) H := h
theorem dMA_11 {Ad : Nat → Prop} {r : Nat → Nat} {k : Nat → ClassId} {F : Nat → Int32} {A : Nat → Nat → Int32} {f : Nat → Int32} (h : va_D Ad ((wM r k F A).set 12 (r 12, .inl (k 11, 61, .inl f)))) : va_D Ad (wM r k F (uA A 11 f)) := h
theorem pMA_12 {D : va_G} {H : Heap} {r : Nat → Nat} {k : Nat → ClassId} {F : Nat → Int32} {A : Nat → Nat → Int32} {f : Nat → Int32} (h : va_P D classes ((wM r k F A).set 13 (r 13, .inl (k 12, 61, .inl f))) H) : va_P D classes (wM r k F (uA A 12 f)) H := h
theorem dMA_12 {Ad : Nat → Prop} {r : Nat → Nat} {k : Nat → ClassId} {F : Nat → Int32} {A : Nat → Nat → Int32} {f : Nat → Int32} (h : va_D Ad ((wM r k F A).set 13 (r 13, .inl (k 12, 61, .inl f)))) : va_D Ad (wM r k F (uA A 12 f)) := h
theorem pMA_13 {D : va_G} {H : Heap} {r : Nat → Nat} {k : Nat → ClassId} {F : Nat → Int32} {A : Nat → Nat → Int32} {f : Nat → Int32} (h : va_P D classes ((wM r k F A).set 14 (r 14, .inl (k 13, 61, .inl f))) H) : va_P D classes (wM r k F (uA A 13 f)) H := h
theorem dMA_13 {Ad : Nat → Prop} {r : Nat → Nat} {k : Nat → ClassId} {F : Nat → Int32} {A : Nat → Nat → Int32} {f : Nat → Int32} (h : va_D Ad ((wM r k F A).set 14 (r 14, .inl (k 13, 61, .inl f)))) : va_D Ad (wM r k F (uA A 13 f)) := h
theorem pMF_0 {D : va_G} {H : Heap} {r : Nat → Nat} {k : Nat → ClassId} {F : Nat → Int32} {A : Nat → Nat → Int32} {v : Int32} (h : va_P D classes ((wM r k F A).set 0 (r 0, .inr (3, ([.int (F 0), .int (F 1), .int (F 2), .ref (r 1), .ref (r 2), .int (F 3), .ref (r 3), .ref (r 4), .ref (r 5), .ref (r 6), .ref (r 7), .ref (r 8), .int (F 4), .ref (r 9), .ref (r 10), .ref (r 11), .ref (r 12), .ref (r 13), .ref (r 14)] : List Value).set 0 (.int v)))) H) : va_P D classes (wM r k (uF F 0 v) A) H := h
theorem dMF_0 {Ad : Nat → Prop} {r : Nat → Nat} {k : Nat → ClassId} {F : Nat → Int32} {A : Nat → Nat → Int32} {v : Int32} (h : va_D Ad ((wM r k F A).set 0 (r 0, .inr (3, ([.int (F 0), .int (F 1), .int (F 2), .ref (r 1), .ref (r 2), .int (F 3), .ref (r 3), .ref (r 4), .ref (r 5), .ref (r 6), .ref (r 7), .ref (r 8), .int (F 4), .ref (r 9), .ref (r 10), .ref (r 11), .ref (r 12), .ref (r 13), .ref (r 14)] : List Value).set 0 (.int v))))) : va_D Ad (wM r k (uF F 0 v) A) := h
theorem pMF_1 {D : va_G} {H : Heap} {r : Nat → Nat} {k : Nat → ClassId} {F : Nat → Int32} {A : Nat → Nat → Int32} {v : Int32} (h : va_P D classes ((wM r k F A).set 0 (r 0, .inr (3, ([.int (F 0), .int (F 1), .int (F 2), .ref (r 1), .ref (r 2), .int (F 3), .ref (r 3), .ref (r 4), .ref (r 5), .ref (r 6), .ref (r 7), .ref (r 8), .int (F 4), .ref (r 9), .ref (r 10), .ref (r 11), .ref (r 12), .ref (r 13), .ref (r 14)] : List Value).set 1 (.int v)))) H) : va_P D classes (wM r k (uF F 1 v) A) H := h
theorem dMF_1 {Ad : Nat → Prop} {r : Nat → Nat} {k : Nat → ClassId} {F : Nat → Int32} {A : Nat → Nat → Int32} {v : Int32} (h : va_D Ad ((wM r k F A).set 0 (r 0, .inr (3, ([.int (F 0), .int (F 1), .int (F 2), .ref (r 1), .ref (r 2), .int (F 3), .ref (r 3), .ref (r 4), .ref (r 5), .ref (r 6), .ref (r 7), .ref (r 8), .int (F 4), .ref (r 9), .ref (r 10), .ref (r 11), .ref (r 12), .ref (r 13), .ref (r 14)] : List Value).set 1 (.int v))))) : va_D Ad (wM r k (uF F 1 v) A) := h
theorem pMF_2 {D : va_G} {H : Heap} {r : Nat → Nat} {k : Nat → ClassId} {F : Nat → Int32} {A : Nat → Nat → Int32} {v : Int32} (h : va_P D classes ((wM r k F A).set 0 (r 0, .inr (3, ([.int (F 0), .int (F 1), .int (F 2), .ref (r 1), .ref (r 2), .int (F 3), .ref (r 3), .ref (r 4), .ref (r 5), .ref (r 6), .ref (r 7), .ref (r 8), .int (F 4), .ref (r 9), .ref (r 10), .ref (r 11), .ref (r 12), .ref (r 13), .ref (r 14)] : List Value).set 2 (.int v)))) H) : va_P D classes (wM r k (uF F 2 v) A) H := h
theorem dMF_2 {Ad : Nat → Prop} {r : Nat → Nat} {k : Nat → ClassId} {F : Nat → Int32} {A : Nat → Nat → Int32} {v : Int32} (h : va_D Ad ((wM r k F A).set 0 (r 0, .inr (3, ([.int (F 0), .int (F 1), .int (F 2), .ref (r 1), .ref (r 2), .int (F 3), .ref (r 3), .ref (r 4), .ref (r 5), .ref (r 6), .ref (r 7), .ref (r 8), .int (F 4), .ref (r 9), .ref (r 10), .ref (r 11), .ref (r 12), .ref (r 13), .ref (r 14)] : List Value).set 2 (.int v))))) : va_D Ad (wM r k (uF F 2 v) A) := h
theorem pMF_3 {D : va_G} {H : Heap} {r : Nat → Nat} {k : Nat → ClassId} {F : Nat → Int32} {A : Nat → Nat → Int32} {v : Int32} (h : va_P D classes ((wM r k F A).set 0 (r 0, .inr (3, ([.int (F 0), .int (F 1), .int (F 2), .ref (r 1), .ref (r 2), .int (F 3), .ref (r 3), .ref (r 4), .ref (r 5), .ref (r 6), .ref (r 7), .ref (r 8), .int (F 4), .ref (r 9), .ref (r 10), .ref (r 11), .ref (r 12), .ref (r 13), .ref (r 14)] : List Value).set 5 (.int v)))) H) : va_P D classes (wM r k (uF F 3 v) A) H := h
theorem dMF_3 {Ad : Nat → Prop} {r : Nat → Nat} {k : Nat → ClassId} {F : Nat → Int32} {A : Nat → Nat → Int32} {v : Int32} (h : va_D Ad ((wM r k F A).set 0 (r 0, .inr (3, ([.int (F 0), .int (F 1), .int (F 2), .ref (r 1), .ref (r 2), .int (F 3), .ref (r 3), .ref (r 4), .ref (r 5), .ref (r 6), .ref (r 7), .ref (r 8), .int (F 4), .ref (r 9), .ref (r 10), .ref (r 11), .ref (r 12), .ref (r 13), .ref (r 14)] : List Value).set 5 (.int v))))) : va_D Ad (wM r k (uF F 3 v) A) := h
theorem pMF_4 {D : va_G} {H : Heap} {r : Nat → Nat} {k : Nat → ClassId} {F : Nat → Int32} {A : Nat → Nat → Int32} {v : Int32} (h : va_P D classes ((wM r k F A).set 0 (r 0, .inr (3, ([.int (F 0), .int (F 1), .int (F 2), .ref (r 1), .ref (r 2), .int (F 3), .ref (r 3), .ref (r 4), .ref (r 5), .ref (r 6), .ref (r 7), .ref (r 8), .int (F 4), .ref (r 9), .ref (r 10), .ref (r 11), .ref (r 12), .ref (r 13), .ref (r 14)] : List Value).set 12 (.int v)))) H) : va_P D classes (wM r k (uF F 4 v) A) H := h
theorem dMF_4 {Ad : Nat → Prop} {r : Nat → Nat} {k : Nat → ClassId} {F : Nat → Int32} {A : Nat → Nat → Int32} {v : Int32} (h : va_D Ad ((wM r k F A).set 0 (r 0, .inr (3, ([.int (F 0), .int (F 1), .int (F 2), .ref (r 1), .ref (r 2), .int (F 3), .ref (r 3), .ref (r 4), .ref (r 5), .ref (r 6), .ref (r 7), .ref (r 8), .int (F 4), .ref (r 9), .ref (r 10), .ref (r 11), .ref (r 12), .ref (r 13), .ref (r 14)] : List Value).set 12 (.int v))))) : va_D Ad (wM r k (uF F 4 v) A) := h
def SI (F : Nat → Int32) : Prop := (0 ≤ (F 2).toInt ∧ (F 2).toInt ≤ 16) ∧ (0 ≤ (F 3).toInt ∧ (F 3).toInt ≤ 6) ∧ 0 ≤ (F 4).toInt ∧ (F 4).toInt ≤ 60
def LC (B i : Int32) (n : Nat) : Prop := 1 ≤ i.toInt ∧ i.toInt ≤ B.toInt ∧ B.toInt < i.toInt + n
theorem LC.z {B i : Int32} (h : LC B i 0) : False := by obtain ⟨h1, h2, h3⟩ := h; omega
theorem LC.i {B : Int32} (h0 : 1 ≤ B.toInt) (h1 : B.toInt ≤ 61) : LC B 1 64 := by
  have : (1 : Int32).toInt = 1 := rfl
  unfold LC; omega
theorem LC.s {B i : Int32} {n : Nat} (h : LC B i (n + 1)) (c : ¬ B ≤ i) (hB : B.toInt ≤ 61) : LC B (i + 1) n := by
  obtain ⟨h1, h2, h3⟩ := h
  rw [Int32.le_iff_toInt_le] at c
  have := add1 (i := i) (by omega) (by omega)
  unfold LC; omega
theorem LC.ix {B i : Int32} {n : Nat} (h : LC B i n) (c : ¬ B ≤ i) (hB : B.toInt ≤ 61) : vp_in i 61 := by
  obtain ⟨h1, h2, h3⟩ := h
  rw [Int32.le_iff_toInt_le] at c
  rw [vp_in_iff]; omega
theorem LA.le61 {B i : Int32} {n : Nat} (h : LA B i n) (c : ¬ B < i) (hB : B.toInt ≤ 60) : i.toInt ≤ 61 := by
  obtain ⟨h1, h2, h3⟩ := h
  rw [Int32.lt_iff_toInt_lt] at c
  omega
theorem LB.ixn {B i : Int32} {n m : Nat} (h : LB B i m) (c : ¬ B ≤ i) (hB : B.toInt ≤ n) : vp_in i n := by
  obtain ⟨h1, h2, h3⟩ := h
  rw [Int32.le_iff_toInt_le] at c
  rw [vp_in_iff]; omega
def LW (i nx : Int32) (n : Nat) : Prop := LA 6 i n ∧ (nx = -1 ∨ vp_in nx 6)
theorem LW.z {i nx : Int32} (h : LW i nx 0) : False := h.1.z
theorem LW.i {nx : Int32} (h : nx = -1 ∨ vp_in nx 6) : LW 1 nx 64 := ⟨LA.i (by decide) (by decide), h⟩
theorem LW.s {i nx ny : Int32} {n : Nat} (h : LW i nx (n + 1)) (c : ¬ 6 < i) (h2 : ny = -1 ∨ vp_in ny 6) : LW (i + 1) ny n := ⟨h.1.s c (by decide), h2⟩
theorem LW.ix {i nx : Int32} {n : Nat} (h : LW i nx n) (c : ¬ nx = -1) : vp_in nx 6 := h.2.resolve_left c
theorem sub1 {x : Int32} (h0 : 0 ≤ x.toInt) (h1 : x.toInt ≤ 1000) : (x - 1).toInt = x.toInt - 1 := by
  rw [Int32.toInt_sub, show (1 : Int32).toInt = 1 from rfl, Int.bmod_eq_of_le] <;> omega
theorem mxK {a b : Int32} (ha : vp_in a 16) (hb : vp_in b 16) : vp_in (16 * a + b) 256 := by
  rw [vp_in_iff] at ha hb ⊢
  have h1 : (16 * a).toInt = 16 * a.toInt := by
    rw [Int32.toInt_mul, show (16 : Int32).toInt = 16 from rfl, Int.bmod_eq_of_le] <;> omega
  have h2 : (16 * a + b).toInt = 16 * a.toInt + b.toInt := by
    rw [Int32.toInt_add, h1, Int.bmod_eq_of_le] <;> omega
  omega
theorem mxM0 {F : Nat → Int32} (hI : SI F) : 1 ≤ (F 4 + 1).toInt := by
  obtain ⟨⟨hp0, hp1⟩, ⟨hr0, hr1⟩, hg0, hg1⟩ := hI
  have := add1 (i := F 4) (by omega) (by omega)
  omega
theorem mxM1 {F : Nat → Int32} (hI : SI F) : (F 4 + 1).toInt ≤ 61 := by
  obtain ⟨⟨hp0, hp1⟩, ⟨hr0, hr1⟩, hg0, hg1⟩ := hI
  have := add1 (i := F 4) (by omega) (by omega)
  omega
theorem ne_of_toInt {x y : Int32} (c : ¬ x = y) : x.toInt ≠ y.toInt := fun h => c (i32_ext h)
theorem mxN {F : Nat → Int32} (hI : SI F) (c : ¬ F 3 = 6) : vp_in (F 3) 6 := by
  obtain ⟨⟨hp0, hp1⟩, ⟨hr0, hr1⟩, hg0, hg1⟩ := hI
  have h9 := ne_of_toInt c
  have : (6 : Int32).toInt = 6 := rfl
  rw [vp_in_iff]; omega
theorem mxM {F : Nat → Int32} (hI : SI F) (c : ¬ F 4 = 60) : vp_in (F 4 + 1) 61 := by
  obtain ⟨⟨hp0, hp1⟩, ⟨hr0, hr1⟩, hg0, hg1⟩ := hI
  have h9 := ne_of_toInt c
  have h8 := add1 (i := F 4) (by omega) (by omega)
  have : (60 : Int32).toInt = 60 := rfl
  rw [vp_in_iff]; omega
