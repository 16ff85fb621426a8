def lnk (x : Int32) (k : Nat) : Bool := x.toBitVec.getLsbD k
def EQG (n : Int32) (a b : Nat → Int32) : Prop := ∀ j : Nat, 1 ≤ j → (j : Int) ≤ n.toInt → b j = a j
def HZR (n : Int32) (a : Nat → Int32) : Prop := ∀ j : Nat, n.toInt ≤ (j : Int) → a j = 0
def ATR (n m : Int32) (a : Nat → Int32) : Prop := ∀ j : Nat, (j : Int) < n.toInt → 0 ≤ (a j).toInt ∧ (a j).toInt < m.toInt
def OWR (n m : Int32) (a : Nat → Int32) : Prop := ∀ j : Nat, 1 ≤ j → (j : Int) ≤ n.toInt → 0 ≤ (a j).toInt ∧ (a j).toInt < m.toInt
def LKR (n : Int32) (a b : Nat → Int32) : Prop := (∀ p q : Nat, p < 16 → q < 16 → (b (16 * p + q) = 0 ↔ lnk (a p) q = false)) ∧ (∀ p q : Nat, p < 16 → q < 16 → lnk (a p) q = lnk (a q) p) ∧ ∀ p q : Nat, p < 16 → n.toInt ≤ (q : Int) → lnk (a p) q = false
def LR (F : Nat → Int32) (A : Nat → Nat → Int32) (G : Nat → Int32) (B : Nat → Nat → Int32) : Prop := CI F ∧ (0 ≤ (F 0).toInt ∧ (F 0).toInt ≤ 10000) ∧ (G 1 = F 0 ∧ G 2 = F 1 ∧ G 3 = F 2 ∧ G 4 = F 3) ∧ (B 0 = A 1 ∧ B 2 = A 2 ∧ B 3 = A 3 ∧ B 4 = A 4 ∧ B 5 = A 5 ∧ B 7 = A 6 ∧ B 6 = A 7 ∧ B 13 = A 13) ∧ (EQG (F 3) (A 8) (B 8) ∧ EQG (F 3) (A 9) (B 9) ∧ EQG (F 3) (A 10) (B 10) ∧ EQG (F 3) (A 11) (B 11) ∧ EQG (F 3) (A 12) (B 12)) ∧ HZR (F 2) (A 6) ∧ ATR (F 2) (F 1) (A 2) ∧ OWR (F 3) (F 2) (A 8) ∧ LKR (F 1) (A 0) (B 1)
def RX (cm : Nat → Int32) (x : Nat × Int32 × SC) (y : Int32 × SC) : Prop := ((x.1 = 0 ∧ y.2.1 0 = 0 ∧ y.1 = x.2.1) ∨ (x.1 ≠ 0 ∧ cm x.1 ≠ 0 ∧ y.2.1 0 = cm x.1)) ∧ LR x.2.2.1 x.2.2.2 y.2.1 y.2.2
theorem lr_start : LR (fun _ => 0) (fun _ _ => 0) (fun _ => 0) (fun _ _ => 0) := by
  have h0 : (0 : Int32).toInt = 0 := rfl
  have hl : ∀ q : Nat, lnk (0 : Int32) q = false := fun q => by
    unfold lnk
    exact BitVec.getLsbD_zero
  refine ⟨⟨⟨by decide, by decide⟩, ⟨by decide, by decide⟩, by decide, by decide⟩, ⟨by decide, by decide⟩, ⟨rfl, rfl, rfl, rfl⟩, ⟨rfl, rfl, rfl, rfl, rfl, rfl, rfl, rfl⟩, ⟨fun _ _ _ => rfl, fun _ _ _ => rfl, fun _ _ _ => rfl, fun _ _ _ => rfl, fun _ _ _ => rfl⟩, fun _ _ => rfl, fun j hj => ?_, fun j h1 hj => ?_, fun p q _ _ => ⟨fun _ => hl q, fun _ => rfl⟩, fun p q _ _ => by rw [hl, hl], fun p q _ _ => hl q⟩
  · have hj : (j : Int) < (0 : Int32).toInt := hj
    omega
  · have hj : (j : Int) ≤ (0 : Int32).toInt := hj
    omega
theorem hL_st {cm : Nat → Int32} {f : Nat → Int64} {x : Nat × Int32 × SC} : (hL cm f x).2.2 = x.2.2 := by unfold hL; split <;> rfl
theorem hB_st {cm : Nat → Int32} {f : Nat → Int64} {x : Nat × Int32 × SC} : (hB cm f x).2.2 = x.2.2 := by unfold hB; split <;> rfl
theorem lgc_self {x y : Int64} (h : x = y) : lg_cmp x y = 0 := by
  subst h
  unfold lg_cmp
  rw [if_neg (fun h : x > x => Int64.lt_irrefl h), if_pos rfl]
theorem ansL {cm : Nat → Int32} {f : Nat → Int64} {x : Nat × Int32 × SC} {y : Int32 × SC} (h : RX cm x y) : f_Mo_thrown y.2.1 y.2.2 = (hL cm f x).1 ∧ ((hL cm f x).1 = 0 → (hL cm f x).2.1 (0 : Int32).toNatClampNeg = y.1.toInt64) := by
  obtain ⟨⟨h1, h2, h3⟩ | ⟨h1, h2, h3⟩, -⟩ := h
  · unfold hL f_Mo_thrown
    rw [if_pos h1]
    refine ⟨h2, fun _ => ?_⟩
    show vp_updL f (0 : Int32).toNatClampNeg x.2.1.toInt64 (0 : Int32).toNatClampNeg = y.1.toInt64
    unfold vp_updL
    rw [if_pos rfl, h3]
  · unfold hL f_Mo_thrown
    rw [if_neg h1]
    exact ⟨h3, fun h => absurd h h2⟩
theorem ansB {cm : Nat → Int32} {f : Nat → Int64} {x : Nat × Int32 × SC} {y : Int32 × SC} (h : RX cm x y) : f_Mo_thrown y.2.1 y.2.2 = (hB cm f x).1 ∧ ((hB cm f x).1 = 0 → (hB cm f x).2.1 (0 : Int32).toNatClampNeg = if y.1 = 0 then 0 else 1) := by
  obtain ⟨⟨h1, h2, h3⟩ | ⟨h1, h2, h3⟩, -⟩ := h
  · unfold hB f_Mo_thrown
    rw [if_pos h1]
    refine ⟨h2, fun _ => ?_⟩
    show vp_updL f (0 : Int32).toNatClampNeg (if x.2.1 = 0 then 0 else 1) (0 : Int32).toNatClampNeg = if y.1 = 0 then 0 else 1
    unfold vp_updL
    rw [if_pos rfl, h3]
  · unfold hB f_Mo_thrown
    rw [if_neg h1]
    exact ⟨h3, fun h => absurd h h2⟩
theorem toN {i : Int32} (h : 0 ≤ i.toInt) : (i.toNatClampNeg : Int) = i.toInt := Int.toNat_of_nonneg h
theorem nz {x k : Nat} (h : x = k + 1) : ¬ x = 0 := by omega
theorem ite01 {P : Prop} [Decidable P] : (if P then (1 : Int32) else 0) = 0 ↔ ¬ P := by
  by_cases h : P
  · rw [if_pos h]; exact ⟨fun q => absurd q (by decide), fun q => absurd h q⟩
  · rw [if_neg h]; exact ⟨fun _ => h, fun _ => rfl⟩
theorem ite10 {P : Prop} [Decidable P] : (if P then (0 : Int32) else 1) = 0 ↔ P := by
  by_cases h : P
  · rw [if_pos h]; exact ⟨fun _ => h, fun _ => rfl⟩
  · rw [if_neg h]; exact ⟨fun q => absurd q (by decide), fun q => absurd q h⟩
theorem iteA {P : Prop} [Decidable P] {x : Int32} : (if P then (0 : Int32) else x) = 0 ↔ (P ∨ x = 0) := by
  by_cases h : P
  · rw [if_pos h]; exact ⟨fun _ => Or.inl h, fun _ => rfl⟩
  · rw [if_neg h]; exact ⟨Or.inr, fun q => q.resolve_left h⟩
theorem iteB {P : Prop} [Decidable P] {x : Int32} : (if P then x else (0 : Int32)) = 0 ↔ (¬ P ∨ x = 0) := by
  by_cases h : P
  · rw [if_pos h]; exact ⟨Or.inr, fun q => q.resolve_left (fun k => k h)⟩
  · rw [if_neg h]; exact ⟨fun _ => Or.inl h, fun _ => rfl⟩
theorem upd_eq {f g : Nat → Int32} {i : Nat} {x y : Int32} (h : f = g) (k : x = y) : upd f i x = upd g i y := by rw [h, k]
theorem upd_self {f : Nat → Int32} {i : Nat} {v : Int32} (h : f i = v) : upd f i v = f := by
  funext j
  unfold upd
  split
  · rename_i q; rw [q, h]
  · rfl
theorem upd_at {f : Nat → Int32} {i : Nat} {v : Int32} : upd f i v i = v := by unfold upd; rw [if_pos rfl]
theorem upd_ne {f : Nat → Int32} {i j : Nat} {v : Int32} (h : ¬ j = i) : upd f i v j = f j := by unfold upd; rw [if_neg h]
theorem uA_at {a : Nat → Nat → Int32} {k : Nat} {s : Nat → Int32} : uA a k s k = s := by unfold uA; rw [if_pos rfl]
theorem uA2 {a : Nat → Nat → Int32} {k : Nat} {s t : Nat → Int32} : uA (uA a k s) k t = uA a k t := by
  funext j
  unfold uA
  split <;> rfl
theorem uA_self {a : Nat → Nat → Int32} {k : Nat} {s : Nat → Int32} (h : a k = s) : uA a k s = a := by
  funext j
  unfold uA
  split
  · rename_i q; rw [q, h]
  · rfl
section
variable {F : Nat → Int32} {A : Nat → Nat → Int32} {G : Nat → Int32} {B : Nat → Nat → Int32}
theorem LR.ci (h : LR F A G B) : CI F := h.1
theorem LR.si (h : LR F A G B) : SI G := by
  obtain ⟨hI, -, ⟨-, g2, g3, g4⟩, -⟩ := h
  unfold SI
  rw [g2, g3, g4]
  exact hI
theorem LR.at (h : LR F A G B) : ∀ j : Nat, (j : Int) < (G 3).toInt → vp_in (B 2 j) 16 := by
  obtain ⟨hI, -, ⟨-, -, g3, -⟩, ⟨-, b2, -⟩, -, -, hat, -⟩ := h
  obtain ⟨⟨-, hp⟩, -⟩ := hI
  intro j hj
  rw [g3] at hj
  rw [b2, vp_in_iff]
  have := hat j hj
  omega
theorem LR.thr (h : LR F A G B) (c : Int32) : LR F A (uF G 0 c) B := h
theorem rx_ok {cm : Nat → Int32} {v w : Int32} (h0 : G 0 = 0) (hv : w = v) (h : LR F A G B) : RX cm (0, v, F, A) (w, G, B) := ⟨Or.inl ⟨rfl, h0, hv⟩, h⟩
theorem rx_no {cm : Nat → Int32} {u : Nat} {v w c : Int32} (h : LR F A G B) (h1 : u ≠ 0) (h2 : cm u ≠ 0) (h3 : c = cm u) : RX cm (u, v, F, A) (w, uF G 0 c, B) := ⟨Or.inr ⟨h1, h2, h3⟩, h.thr c⟩
theorem needP (hI : CI F) (g : G 2 = F 1) (i : Int32) : (f_RS_needPiece F A i = 0 ∧ ¬ f_Mo_isPiece G B i = 0 ∧ 0 ≤ i.toInt ∧ i.toInt < (F 1).toInt) ∨ (f_RS_needPiece F A i = 1 ∧ f_Mo_isPiece G B i = 0) := by
  obtain ⟨⟨hp0, hp1⟩, ⟨hr0, hr1⟩, hg0, hg1⟩ := hI
  have h0 : (0 : Int32).toInt = 0 := rfl
  have h1 := sub1 (x := F 1) (by omega) (by omega)
  unfold f_RS_needPiece f_Mo_isPiece f_Mo_in
  rw [g]
  by_cases c : i < 0
  · rw [if_pos c, if_pos c]; exact Or.inr ⟨rfl, rfl⟩
  rw [if_neg c, if_neg c]
  rw [Int32.lt_iff_toInt_lt] at c
  by_cases d : i < F 1
  · have e : ¬ F 1 - 1 < i := by rw [Int32.lt_iff_toInt_lt] at d ⊢; omega
    rw [if_pos d, if_neg e]
    rw [Int32.lt_iff_toInt_lt] at d
    exact Or.inl ⟨rfl, by decide, by omega, d⟩
  · have e : F 1 - 1 < i := by rw [Int32.lt_iff_toInt_lt] at d ⊢; omega
    rw [if_neg d, if_pos e]; exact Or.inr ⟨rfl, rfl⟩
theorem needR (hI : CI F) (g : G 3 = F 2) (i : Int32) : (f_RS_needRobot F A i = 0 ∧ ¬ f_Mo_isRobot G B i = 0 ∧ 0 ≤ i.toInt ∧ i.toInt < (F 2).toInt) ∨ (f_RS_needRobot F A i = 1 ∧ f_Mo_isRobot G B i = 0) := by
  obtain ⟨⟨hp0, hp1⟩, ⟨hr0, hr1⟩, hg0, hg1⟩ := hI
  have h0 : (0 : Int32).toInt = 0 := rfl
  have h1 := sub1 (x := F 2) (by omega) (by omega)
  unfold f_RS_needRobot f_Mo_isRobot f_Mo_in
  rw [g]
  by_cases c : i < 0
  · rw [if_pos c, if_pos c]; exact Or.inr ⟨rfl, rfl⟩
  rw [if_neg c, if_neg c]
  rw [Int32.lt_iff_toInt_lt] at c
  by_cases d : i < F 2
  · have e : ¬ F 2 - 1 < i := by rw [Int32.lt_iff_toInt_lt] at d ⊢; omega
    rw [if_pos d, if_neg e]
    rw [Int32.lt_iff_toInt_lt] at d
    exact Or.inl ⟨rfl, by decide, by omega, d⟩
  · have e : F 2 - 1 < i := by rw [Int32.lt_iff_toInt_lt] at d ⊢; omega
    rw [if_neg d, if_pos e]; exact Or.inr ⟨rfl, rfl⟩
theorem needG (g : G 4 = F 3) (i : Int32) : (f_RS_needGrant F A i = 0 ∧ ¬ f_Mo_isGrant G B i = 0 ∧ 1 ≤ i.toInt ∧ i.toInt ≤ (F 3).toInt) ∨ (f_RS_needGrant F A i = 1 ∧ f_Mo_isGrant G B i = 0) := by
  have h0 : (1 : Int32).toInt = 1 := rfl
  unfold f_RS_needGrant f_Mo_isGrant f_Mo_in
  rw [g]
  by_cases c : i < 1
  · rw [if_pos c, if_pos c]; exact Or.inr ⟨rfl, rfl⟩
  rw [if_neg c, if_neg c]
  rw [Int32.lt_iff_toInt_lt] at c
  by_cases d : i ≤ F 3
  · have e : ¬ F 3 < i := by rw [Int32.lt_iff_toInt_lt]; rw [Int32.le_iff_toInt_le] at d; omega
    rw [if_pos d, if_neg e]
    rw [Int32.le_iff_toInt_le] at d
    exact Or.inl ⟨rfl, by decide, by omega, d⟩
  · have e : F 3 < i := by rw [Int32.lt_iff_toInt_lt]; rw [Int32.le_iff_toInt_le] at d; omega
    rw [if_neg d, if_pos e]; exact Or.inr ⟨rfl, rfl⟩
theorem needS (hn : 0 ≤ (F 0).toInt ∧ (F 0).toInt ≤ 10000) (g : G 1 = F 0) (fr tt : Int32) : (f_RS_needSpan F A fr tt = 2 ∧ fr < G 1) ∨ (f_RS_needSpan F A fr tt = 2 ∧ ¬ fr < G 1 ∧ tt ≤ fr) ∨ (f_RS_needSpan F A fr tt = 2 ∧ ¬ fr < G 1 ∧ ¬ tt ≤ fr ∧ 100 < tt - G 1) ∨ (f_RS_needSpan F A fr tt = 0 ∧ ¬ fr < G 1 ∧ ¬ tt ≤ fr ∧ ¬ 100 < tt - G 1) := by
  obtain ⟨hn0, hn1⟩ := hn
  have h0 : (100 : Int32).toInt = 100 := rfl
  unfold f_RS_needSpan
  rw [g]
  by_cases c : fr < F 0
  · rw [if_pos c]; exact Or.inl ⟨rfl, c⟩
  rw [if_neg c]
  by_cases d : tt ≤ fr
  · rw [if_pos d]; exact Or.inr (Or.inl ⟨rfl, c, d⟩)
  rw [if_neg d]
  have c9 := c
  have d9 := d
  rw [Int32.lt_iff_toInt_lt] at c9
  rw [Int32.le_iff_toInt_le] at d9
  have t1 := Int32.toInt_lt tt
  have h2 : (F 0 + 100).toInt = (F 0).toInt + 100 := by
    rw [Int32.toInt_add, h0, Int.bmod_eq_of_le] <;> omega
  have h3 : (tt - F 0).toInt = tt.toInt - (F 0).toInt := by
    rw [Int32.toInt_sub, Int.bmod_eq_of_le] <;> omega
  by_cases k : tt ≤ F 0 + 100
  · have e : ¬ 100 < tt - F 0 := by rw [Int32.lt_iff_toInt_lt]; rw [Int32.le_iff_toInt_le] at k; omega
    rw [if_pos k]; exact Or.inr (Or.inr (Or.inr ⟨rfl, c, d, e⟩))
  · have e : 100 < tt - F 0 := by rw [Int32.lt_iff_toInt_lt]; rw [Int32.le_iff_toInt_le] at k; omega
    rw [if_neg k]; exact Or.inr (Or.inr (Or.inl ⟨rfl, c, d, e⟩))
theorem needO (pr : Int32) : (f_RS_needPriority F A pr = 0 ∧ ¬ f_Mo_in pr 1 9 = 0) ∨ (f_RS_needPriority F A pr = 2 ∧ f_Mo_in pr 1 9 = 0) := by
  unfold f_RS_needPriority f_Mo_in
  by_cases c : pr < 1
  · rw [if_pos c, if_pos c]; exact Or.inr ⟨rfl, rfl⟩
  rw [if_neg c, if_neg c]
  by_cases d : pr ≤ 9
  · rw [if_pos d, if_neg (Int32.not_lt.mpr d)]; exact Or.inl ⟨rfl, by decide⟩
  · rw [if_neg d, if_pos (Int32.not_le.mp d)]; exact Or.inr ⟨rfl, rfl⟩
theorem nlo {g rb : Int32} : f_Gr_isLiveOf F A g rb = 0 ↔ (¬ A 13 g.toNatClampNeg = 0 ∨ ¬ A 8 g.toNatClampNeg = rb) := by
  unfold f_Gr_isLiveOf f_Gr_isLive
  rw [iteA, ite01, ite01]
theorem nlf {g pc : Int32} : f_Gr_isLiveFor F A g pc = 0 ↔ (¬ A 13 g.toNatClampNeg = 0 ∨ ¬ A 9 g.toNatClampNeg = pc) := by
  unfold f_Gr_isLiveFor f_Gr_isLive
  rw [iteA, ite01, ite01]
theorem nlv {g : Int32} : f_Gr_isLive F A g = 0 ↔ ¬ A 13 g.toNatClampNeg = 0 := by
  unfold f_Gr_isLive
  rw [ite01]
theorem nhb {g nw : Int32} : f_Gr_hasBegun F A g nw = 0 ↔ nw < A 10 g.toNatClampNeg := by
  unfold f_Gr_hasBegun
  rw [ite10]
theorem nst {g fr tt : Int32} : f_Gr_sharesTime F A g fr tt = 0 ↔ (tt ≤ A 10 g.toNatClampNeg ∨ A 11 g.toNatClampNeg ≤ fr) := by
  unfold f_Gr_sharesTime
  rw [iteA, ite10]
theorem nrv {g rb pc fr tt : Int32} : f_Gr_isRival F A g rb pc fr tt = 0 ↔ ((¬ A 13 g.toNatClampNeg = 0 ∨ ¬ A 9 g.toNatClampNeg = pc) ∨ (A 8 g.toNatClampNeg = rb ∨ (tt ≤ A 10 g.toNatClampNeg ∨ A 11 g.toNatClampNeg ≤ fr))) := by
  unfold f_Gr_isRival
  rw [iteA, iteA, ite10, nlf, nst]
theorem nam {g k : Int32} : f_Gr_areMeeting F A g k = 0 ↔ (¬ A 9 g.toNatClampNeg = A 9 k.toNatClampNeg ∨ (A 11 k.toNatClampNeg ≤ A 10 g.toNatClampNeg ∨ A 11 g.toNatClampNeg ≤ A 10 k.toNatClampNeg)) := by
  unfold f_Gr_areMeeting
  rw [iteB, ite10, nst]
theorem mme {g k : Int32} : f_Mo_meet G B g k = 0 ↔ (¬ B 9 g.toNatClampNeg = B 9 k.toNatClampNeg ∨ (B 11 k.toNatClampNeg ≤ B 10 g.toNatClampNeg ∨ B 11 g.toNatClampNeg ≤ B 10 k.toNatClampNeg)) := by
  unfold f_Mo_meet
  rw [iteB, iteA, ite10]
theorem mrv {g k : Int32} : f_Mo_isRival G B g k = 0 ↔ (¬ B 13 g.toNatClampNeg = 0 ∨ (B 8 g.toNatClampNeg = B 8 k.toNatClampNeg ∨ (¬ B 9 g.toNatClampNeg = B 9 k.toNatClampNeg ∨ (B 11 k.toNatClampNeg ≤ B 10 g.toNatClampNeg ∨ B 11 g.toNatClampNeg ≤ B 10 k.toNatClampNeg)))) := by
  unfold f_Mo_isRival
  rw [iteB, iteA, ite10, mme]
theorem LA.one {b i : Int32} {n : Nat} (h : LA b i n) : 1 ≤ i.toNatClampNeg := by
  have := toN (i := i) (by have := h.1; omega)
  have := h.1
  omega
theorem LA.le {b i : Int32} {n : Nat} (h : LA b i n) (c : ¬ b < i) : (i.toNatClampNeg : Int) ≤ b.toInt := by
  have := toN (i := i) (by have := h.1; omega)
  rw [Int32.lt_iff_toInt_lt] at c
  omega
theorem LB.lt {b i : Int32} {n : Nat} (h : LB b i n) (c : ¬ b ≤ i) : (i.toNatClampNeg : Int) < b.toInt := by
  have := toN (i := i) h.1
  rw [Int32.le_iff_toInt_le] at c
  omega
theorem eq_stand (g3 : G 3 = F 2) (b2 : B 2 = A 2) (b4 : B 4 = A 4) (pc : Int32) : f_Mo_standing G B pc = f_Rb_standingOn F A pc := by
  have key : ∀ (n : Nat) (x : Int32), f_Mo_standing_L2 G B pc n x = f_Rb_standingOn_L2 F A pc n x := by
    intro n
    induction n with
    | zero => intro x; rfl
    | succ n ih => intro x; rw [f_Mo_standing_L2, f_Rb_standingOn_L2, g3, b2, b4, ih]
  exact key 64 0
theorem stand_in (hI : CI F) (pc : Int32) : f_Rb_standingOn F A pc = -1 ∨ (0 ≤ (f_Rb_standingOn F A pc).toInt ∧ (f_Rb_standingOn F A pc).toInt < (F 2).toInt) := by
  obtain ⟨-, ⟨hr0, hr1⟩, -⟩ := hI
  have key : ∀ (n : Nat) (x : Int32), LB (F 2) x n → f_Rb_standingOn_L2 F A pc n x = -1 ∨ (0 ≤ (f_Rb_standingOn_L2 F A pc n x).toInt ∧ (f_Rb_standingOn_L2 F A pc n x).toInt < (F 2).toInt) := by
    intro n
    induction n with
    | zero => intro x h; exact h.z.elim
    | succ n ih =>
      intro x h
      rw [f_Rb_standingOn_L2]
      by_cases c : F 2 ≤ x
      · rw [if_pos c]; exact Or.inl rfl
      rw [if_neg c]
      have h2 : 0 ≤ x.toInt ∧ x.toInt < (F 2).toInt := by
        have h1 := h.1
        rw [Int32.le_iff_toInt_le] at c
        omega
      by_cases d : A 2 x.toNatClampNeg = pc
      · rw [if_pos d]; exact Or.inr h2
      rw [if_neg d]
      by_cases e : A 4 x.toNatClampNeg = pc
      · rw [if_pos e]; exact Or.inr h2
      rw [if_neg e]
      exact ih _ (h.s c (by omega))
  exact key 64 0 (LB.i hr0 (by omega))
theorem eq_taken (g3 : G 3 = F 2) (b2 : B 2 = A 2) (b4 : B 4 = A 4) (rb pc : Int32) : f_Mo_isTaken G B rb pc = f_Rb_otherStandsOn F A rb pc := by
  unfold f_Mo_isTaken f_Rb_otherStandsOn
  rw [eq_stand g3 b2 b4]
theorem eq_silent (g1 : G 1 = F 0) (b6 : B 6 = A 7) (rb : Int32) : f_Mo_isSilent G B rb = f_Rb_isSilent F A rb (F 0) := by
  unfold f_Mo_isSilent f_Rb_isSilent
  rw [g1, b6]
theorem eq_liveOf (hI : CI F) (g4 : G 4 = F 3) (bs : B 13 = A 13) (h8 : EQG (F 3) (A 8) (B 8)) (rb : Int32) : f_Mo_liveOf G B rb = f_Gr_liveOf F A rb := by
  obtain ⟨-, -, hg0, hg1⟩ := hI
  have key : ∀ (n : Nat) (x y : Int32), LA (F 3) y n → f_Mo_liveOf_L4 G B rb n x y = f_Gr_liveOf_L4 F A rb n x y := by
    intro n
    induction n with
    | zero => intro x y h; exact h.z.elim
    | succ n ih =>
      intro x y h
      rw [f_Mo_liveOf_L4, f_Gr_liveOf_L4, g4, bs, Int32.add_zero]
      by_cases c : F 3 < y
      · rw [if_pos c, if_pos c]
      rw [if_neg c, if_neg c, h8 _ h.one (h.le c)]
      have hs := h.s c hg1
      have L : f_Gr_isLiveOf F A y rb = 0 ↔ (¬ A 13 y.toNatClampNeg = 0 ∨ ¬ A 8 y.toNatClampNeg = rb) := nlo
      by_cases d : A 8 y.toNatClampNeg = rb
      · rw [if_pos d]
        by_cases e : A 13 y.toNatClampNeg = 0
        · rw [if_pos e, if_neg (fun q => (L.mp q).elim (fun k => k e) (fun k => k d))]; exact ih _ _ hs
        · rw [if_neg e, if_pos (L.mpr (Or.inl e))]; exact ih _ _ hs
      · rw [if_neg d, if_pos (L.mpr (Or.inr d))]; exact ih _ _ hs
  exact key 64 0 1 (LA.i hg0 hg1)
theorem eq_best (hI : CI F) (g4 : G 4 = F 3) (bs : B 13 = A 13) (h8 : EQG (F 3) (A 8) (B 8)) (h9 : EQG (F 3) (A 9) (B 9)) (h12 : EQG (F 3) (A 12) (B 12)) (rb pc : Int32) : f_Mo_bestOf G B rb pc = f_Gr_greatestPriority F A rb pc := by
  obtain ⟨-, -, hg0, hg1⟩ := hI
  have key : ∀ (n : Nat) (x y : Int32), LA (F 3) y n → f_Mo_bestOf_L5 G B rb pc n x y = f_Gr_greatestPriority_L5 F A rb pc n x y := by
    intro n
    induction n with
    | zero => intro x y h; exact h.z.elim
    | succ n ih =>
      intro x y h
      rw [f_Mo_bestOf_L5, f_Gr_greatestPriority_L5, g4, bs]
      by_cases c : F 3 < y
      · rw [if_pos c, if_pos c]
      rw [if_neg c, if_neg c, h8 _ h.one (h.le c), h9 _ h.one (h.le c), h12 _ h.one (h.le c)]
      have hs := h.s c hg1
      have L : f_Gr_isLiveOf F A y rb = 0 ↔ (¬ A 13 y.toNatClampNeg = 0 ∨ ¬ A 8 y.toNatClampNeg = rb) := nlo
      by_cases d : A 8 y.toNatClampNeg = rb
      · rw [if_pos d]
        by_cases e : A 13 y.toNatClampNeg = 0
        · rw [if_neg (fun q => (L.mp q).elim (fun k => k e) (fun k => k d))]
          by_cases k : A 9 y.toNatClampNeg = pc
          · rw [if_pos k, if_pos k, if_pos e]
            by_cases m : x < A 12 y.toNatClampNeg
            · rw [if_pos m, if_neg (Int32.not_le.mpr m)]; exact ih _ _ hs
            · rw [if_neg m, if_pos (Int32.not_lt.mp m)]; exact ih _ _ hs
          · rw [if_neg k, if_neg k]; exact ih _ _ hs
        · rw [if_pos (L.mpr (Or.inl e)), if_neg e, ite_self]; exact ih _ _ hs
      · rw [if_neg d, if_pos (L.mpr (Or.inr d))]; exact ih _ _ hs
  exact key 64 0 1 (LA.i hg0 hg1)
theorem best_nn (hI : CI F) (rb pc : Int32) : 0 ≤ (f_Gr_greatestPriority F A rb pc).toInt := by
  obtain ⟨-, -, hg0, hg1⟩ := hI
  have key : ∀ (n : Nat) (x y : Int32), LA (F 3) y n → 0 ≤ x.toInt → 0 ≤ (f_Gr_greatestPriority_L5 F A rb pc n x y).toInt := by
    intro n
    induction n with
    | zero => intro x y h; exact h.z.elim
    | succ n ih =>
      intro x y h hx
      rw [f_Gr_greatestPriority_L5]
      by_cases c : F 3 < y
      · rw [if_pos c]; exact hx
      rw [if_neg c]
      have hs := h.s c hg1
      split
      · exact ih _ _ hs hx
      split
      · refine ih _ _ hs ?_
        split
        · rename_i m
          rw [Int32.lt_iff_toInt_lt] at m
          omega
        · exact hx
      · exact ih _ _ hs hx
  exact key 64 0 1 (LA.i hg0 hg1) (by decide)
end
