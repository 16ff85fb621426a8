section
variable {F : Nat → Int32} {A : Nat → Nat → Int32} {G : Nat → Int32} {B : Nat → Nat → Int32}
theorem eqg_out {n : Int32} {a b : Nat → Int32} {v : Int32} (h0 : 0 ≤ n.toInt) (h1 : n.toInt ≤ 60) (h : EQG n a b) : EQG n a (upd b (n + 1).toNatClampNeg v) := by
  intro j h2 h3
  have h4 := add1 (i := n) (by omega) (by omega)
  have h5 := toN (i := n + 1) (by omega)
  rw [upd_ne (by omega)]
  exact h j h2 h3
theorem eqg_in {n : Int32} {a b : Nat → Int32} {v : Int32} (h0 : 0 ≤ n.toInt) (h1 : n.toInt ≤ 60) (h : EQG n a b) : EQG (n + 1) (upd a (n + 1).toNatClampNeg v) (upd b (n + 1).toNatClampNeg v) := by
  intro j h2 h3
  have h4 := add1 (i := n) (by omega) (by omega)
  have h5 := toN (i := n + 1) (by omega)
  by_cases c : j = (n + 1).toNatClampNeg
  · rw [c, upd_at, upd_at]
  · rw [upd_ne c, upd_ne c]
    exact h j h2 (by omega)
theorem owr_in {n m : Int32} {a : Nat → Int32} {v : Int32} (h0 : 0 ≤ n.toInt) (h1 : n.toInt ≤ 60) (h : OWR n m a) (hv : 0 ≤ v.toInt ∧ v.toInt < m.toInt) : OWR (n + 1) m (upd a (n + 1).toNatClampNeg v) := by
  intro j h2 h3
  have h4 := add1 (i := n) (by omega) (by omega)
  have h5 := toN (i := n + 1) (by omega)
  by_cases c : j = (n + 1).toNatClampNeg
  · rw [c, upd_at]
    exact hv
  · rw [upd_ne c]
    exact h j h2 (by omega)
theorem atr_upd {n m : Int32} {a : Nat → Int32} {i : Nat} {v : Int32} (h : ATR n m a) (hv : 0 ≤ v.toInt ∧ v.toInt < m.toInt) : ATR n m (upd a i v) := by
  intro j h2
  by_cases c : j = i
  · rw [c, upd_at]
    exact hv
  · rw [upd_ne c]
    exact h j h2
theorem hzr_upd {n : Int32} {a : Nat → Int32} {i v : Int32} (h : HZR n a) (h0 : 0 ≤ i.toInt) (h1 : i.toInt < n.toInt) : HZR n (upd a i.toNatClampNeg v) := by
  intro j h2
  have h5 := toN h0
  rw [upd_ne (by omega)]
  exact h j h2
theorem LR.rep (rel : LR F A G B) (i : Nat) : LR F (uA A 7 (upd (A 7) i (F 0))) G (uA B 6 (upd (B 6) i (G 1))) := by
  obtain ⟨hI, hn, ⟨g1, g2, g3, g4⟩, ⟨b0, b2, b3, b4, b5, b7, b6, bs⟩, ⟨h8, h9, h10, h11, h12⟩, hz, hat, how, hlk⟩ := id rel
  exact ⟨hI, hn, ⟨g1, g2, g3, g4⟩, ⟨b0, b2, b3, b4, b5, b7, upd_eq b6 g1, bs⟩, ⟨h8, h9, h10, h11, h12⟩, hz, hat, how, hlk⟩
theorem LR.stt (rel : LR F A G B) (s : Nat → Int32) : LR F (uA A 13 s) G (uA B 13 s) := by
  obtain ⟨hI, hn, ⟨g1, g2, g3, g4⟩, ⟨b0, b2, b3, b4, b5, b7, b6, bs⟩, ⟨h8, h9, h10, h11, h12⟩, hz, hat, how, hlk⟩ := id rel
  exact ⟨hI, hn, ⟨g1, g2, g3, g4⟩, ⟨b0, b2, b3, b4, b5, b7, b6, rfl⟩, ⟨h8, h9, h10, h11, h12⟩, hz, hat, how, hlk⟩
theorem LR.wt (rel : LR F A G B) (i : Nat) (v : Int32) : LR F (uA A 5 (upd (A 5) i v)) G (uA B 5 (upd (B 5) i v)) := by
  obtain ⟨hI, hn, ⟨g1, g2, g3, g4⟩, ⟨b0, b2, b3, b4, b5, b7, b6, bs⟩, ⟨h8, h9, h10, h11, h12⟩, hz, hat, how, hlk⟩ := id rel
  exact ⟨hI, hn, ⟨g1, g2, g3, g4⟩, ⟨b0, b2, b3, b4, upd_eq b5 rfl, b7, b6, bs⟩, ⟨h8, h9, h10, h11, h12⟩, hz, hat, how, hlk⟩
theorem LR.cl (rel : LR F A G B) (i : Nat) (v : Int32) : LR F (uA A 1 (upd (A 1) i v)) G (uA B 0 (upd (B 0) i v)) := by
  obtain ⟨hI, hn, ⟨g1, g2, g3, g4⟩, ⟨b0, b2, b3, b4, b5, b7, b6, bs⟩, ⟨h8, h9, h10, h11, h12⟩, hz, hat, how, hlk⟩ := id rel
  exact ⟨hI, hn, ⟨g1, g2, g3, g4⟩, ⟨upd_eq b0 rfl, b2, b3, b4, b5, b7, b6, bs⟩, ⟨h8, h9, h10, h11, h12⟩, hz, hat, how, hlk⟩
theorem LR.hl (rel : LR F A G B) (i v : Int32) (h0 : 0 ≤ i.toInt) (h1 : i.toInt < (F 2).toInt) : LR F (uA A 6 (upd (A 6) i.toNatClampNeg v)) G (uA B 7 (upd (B 7) i.toNatClampNeg v)) := by
  obtain ⟨hI, hn, ⟨g1, g2, g3, g4⟩, ⟨b0, b2, b3, b4, b5, b7, b6, bs⟩, ⟨h8, h9, h10, h11, h12⟩, hz, hat, how, hlk⟩ := id rel
  exact ⟨hI, hn, ⟨g1, g2, g3, g4⟩, ⟨b0, b2, b3, b4, b5, upd_eq b7 rfl, b6, bs⟩, ⟨h8, h9, h10, h11, h12⟩, hzr_upd hz h0 h1, hat, how, hlk⟩
theorem LR.tp (rel : LR F A G B) (i : Nat) (v : Int32) : LR F (uA A 4 (upd (A 4) i v)) G (uA B 4 (upd (B 4) i v)) := by
  obtain ⟨hI, hn, ⟨g1, g2, g3, g4⟩, ⟨b0, b2, b3, b4, b5, b7, b6, bs⟩, ⟨h8, h9, h10, h11, h12⟩, hz, hat, how, hlk⟩ := id rel
  exact ⟨hI, hn, ⟨g1, g2, g3, g4⟩, ⟨b0, b2, b3, upd_eq b4 rfl, b5, b7, b6, bs⟩, ⟨h8, h9, h10, h11, h12⟩, hz, hat, how, hlk⟩
theorem LR.pl (rel : LR F A G B) (i : Nat) (v : Int32) (hv : 0 ≤ v.toInt ∧ v.toInt < (F 1).toInt) : LR F (uA A 2 (upd (A 2) i v)) G (uA B 2 (upd (B 2) i v)) := by
  obtain ⟨hI, hn, ⟨g1, g2, g3, g4⟩, ⟨b0, b2, b3, b4, b5, b7, b6, bs⟩, ⟨h8, h9, h10, h11, h12⟩, hz, hat, how, hlk⟩ := id rel
  exact ⟨hI, hn, ⟨g1, g2, g3, g4⟩, ⟨b0, upd_eq b2 rfl, b3, b4, b5, b7, b6, bs⟩, ⟨h8, h9, h10, h11, h12⟩, hz, atr_upd hat hv, how, hlk⟩
theorem LR.now (rel : LR F A G B) (t : Int32) (h0 : 0 ≤ t.toInt) (h1 : t.toInt ≤ 10000) : LR (uF F 0 t) A (uF G 1 t) B := by
  obtain ⟨hI, hn, ⟨g1, g2, g3, g4⟩, ⟨b0, b2, b3, b4, b5, b7, b6, bs⟩, ⟨h8, h9, h10, h11, h12⟩, hz, hat, how, hlk⟩ := id rel
  exact ⟨hI, ⟨h0, h1⟩, ⟨rfl, g2, g3, g4⟩, ⟨b0, b2, b3, b4, b5, b7, b6, bs⟩, ⟨h8, h9, h10, h11, h12⟩, hz, hat, how, hlk⟩
theorem sw_zone (hI : CI F) (g4 : G 4 = F 3) (A0 B0 : Nat → Nat → Int32) (h9 : EQG (F 3) (A 9) (B 9)) (pc on : Int32) (hon : ¬ on = 0) : ∀ (n : Nat) (s : Nat → Int32) (x y : Int32), LA (F 3) y n → ∃ (v : Int32) (s2 : Nat → Int32), f_Gr_takeAllFor_L4 F A0 pc n (uA A 13 s) x y = (v, F, uA A 13 s2) ∧ f_Mo_zone_L73 G B0 pc on n (uA B 13 s) x y = (v, uF (uF G 0 0) 0 0, uA B 13 s2) := by
  obtain ⟨-, -, hg0, hg1⟩ := hI
  intro n
  induction n with
  | zero => intro s x y h; exact h.z.elim
  | succ n ih =>
    intro s x y h
    rw [f_Gr_takeAllFor_L4, f_Mo_zone_L73, g4]
    by_cases c : F 3 < y
    · rw [if_pos c, if_pos c]; exact ⟨x, s, rfl, rfl⟩
    rw [if_neg c, if_neg c, if_neg hon]
    have hs := h.s c hg1
    have L : f_Gr_isLiveFor F (uA A 13 s) y pc = 0 ↔ (¬ s y.toNatClampNeg = 0 ∨ ¬ A 9 y.toNatClampNeg = pc) := nlf
    have k9 : (uA B 13 s) 9 y.toNatClampNeg = A 9 y.toNatClampNeg := h9 _ h.one (h.le c)
    rw [k9, uA_at, uA_at, uA2, uA2]
    by_cases d : s y.toNatClampNeg = 0
    · by_cases e : A 9 y.toNatClampNeg = pc
      · rw [if_neg (fun q => (L.mp q).elim (fun k => k d) (fun k => k e)), if_pos e, if_pos d]; exact ih _ _ _ hs
      · rw [if_pos (L.mpr (Or.inr e)), if_neg e]; exact ih _ _ _ hs
    · rw [if_pos (L.mpr (Or.inl d)), if_neg d, ite_self]; exact ih _ _ _ hs
theorem sw_pass (hI : CI F) (g4 : G 4 = F 3) (F1 : Nat → Int32) (e3 : F1 3 = F 3) (A0 B0 : Nat → Nat → Int32) (h11 : EQG (F 3) (A 11) (B 11)) (tm : Int32) : ∀ (n : Nat) (s : Nat → Int32) (x y : Int32), LA (F 3) y n → ∃ (v : Int32) (s2 : Nat → Int32), f_Gr_endAllBy_L4 F1 A0 tm n (uA A 13 s) x y = (v, F1, uA A 13 s2) ∧ f_Mo_pass_L41 G B0 tm n (uA B 13 s) x y = (v, uF (uF G 0 0) 1 tm, uA B 13 s2) := by
  obtain ⟨-, -, hg0, hg1⟩ := hI
  intro n
  induction n with
  | zero => intro s x y h; exact h.z.elim
  | succ n ih =>
    intro s x y h
    rw [f_Gr_endAllBy_L4, f_Mo_pass_L41, g4, e3]
    by_cases c : F 3 < y
    · rw [if_pos c, if_pos c]; exact ⟨x, s, rfl, rfl⟩
    rw [if_neg c, if_neg c]
    have hs := h.s c hg1
    have L : f_Gr_isLive F1 (uA A 13 s) y = 0 ↔ ¬ s y.toNatClampNeg = 0 := nlv
    have k11 : (uA B 13 s) 11 y.toNatClampNeg = A 11 y.toNatClampNeg := h11 _ h.one (h.le c)
    have j11 : (uA A 13 s) 11 y.toNatClampNeg = A 11 y.toNatClampNeg := rfl
    rw [k11, j11, uA_at, uA_at, uA2, uA2]
    by_cases d : s y.toNatClampNeg = 0
    · rw [if_neg (fun q => L.mp q d), if_pos d]
      by_cases e : tm < A 11 y.toNatClampNeg
      · rw [if_pos e, if_neg (Int32.not_le.mpr e)]; exact ih _ _ _ hs
      · rw [if_neg e, if_pos (Int32.not_lt.mp e)]; exact ih _ _ _ hs
    · rw [if_pos (L.mpr d), if_neg d]; exact ih _ _ _ hs
theorem sw_halt (hI : CI F) (g4 : G 4 = F 3) (A0 B0 B1 : Nat → Nat → Int32) (h8 : EQG (F 3) (A 8) (B 8)) (rb on : Int32) (s0 : Nat → Int32) : ∀ (n : Nat) (s : Nat → Int32) (x y : Int32), LA (F 3) y n → (∀ j : Nat, y.toNatClampNeg ≤ j → s j = s0 j) → ∃ (s2 : Nat → Int32), f_Gr_freeAllOf_L4 F A0 rb n (uA A 13 s) x y = (f_Gr_liveOf_L4 F (uA A 13 s0) rb n x y, F, uA A 13 s2) ∧ f_Mo_halt_L76b G B0 rb on B1 n (uA B 13 s) y = (f_Mo_liveOf (uF (uF G 0 0) 0 0) B1 rb, uF (uF G 0 0) 0 0, uA (uA B 13 s2) 5 (upd (B 5) rb.toNatClampNeg (-1))) := by
  obtain ⟨-, -, hg0, hg1⟩ := hI
  intro n
  induction n with
  | zero => intro s x y h; exact h.z.elim
  | succ n ih =>
    intro s x y h hj
    rw [f_Gr_freeAllOf_L4, f_Mo_halt_L76b, f_Gr_liveOf_L4, g4]
    by_cases c : F 3 < y
    · rw [if_pos c, if_pos c, if_pos c]; exact ⟨s, rfl, rfl⟩
    rw [if_neg c, if_neg c, if_neg c]
    have hs := h.s c hg1
    have L : f_Gr_isLiveOf F (uA A 13 s) y rb = 0 ↔ (¬ s y.toNatClampNeg = 0 ∨ ¬ A 8 y.toNatClampNeg = rb) := nlo
    have L0 : f_Gr_isLiveOf F (uA A 13 s0) y rb = 0 ↔ (¬ s0 y.toNatClampNeg = 0 ∨ ¬ A 8 y.toNatClampNeg = rb) := nlo
    have hy : (y + 1).toNatClampNeg = y.toNatClampNeg + 1 := by
      have h1 := h.1
      rw [Int32.lt_iff_toInt_lt] at c
      have := add1 (i := y) (by omega) (by omega)
      have := toN (i := y) (by omega)
      have := toN (i := y + 1) (by omega)
      omega
    have k8 : (uA B 13 s) 8 y.toNatClampNeg = A 8 y.toNatClampNeg := h8 _ h.one (h.le c)
    have ky : s y.toNatClampNeg = s0 y.toNatClampNeg := hj _ (Nat.le_refl _)
    have hk : ∀ j : Nat, (y + 1).toNatClampNeg ≤ j → s j = s0 j := fun j q => hj j (by omega)
    have hm : ∀ j : Nat, (y + 1).toNatClampNeg ≤ j → upd s y.toNatClampNeg 2 j = s0 j := fun j q => by rw [upd_ne (by omega)]; exact hj j (by omega)
    rw [k8, uA_at, uA_at, uA2, uA2]
    by_cases d : s y.toNatClampNeg = 0
    · have d0 : s0 y.toNatClampNeg = 0 := ky ▸ d
      by_cases e : A 8 y.toNatClampNeg = rb
      · rw [if_neg (fun q => (L.mp q).elim (fun k => k d) (fun k => k e)), if_neg (fun q => (L0.mp q).elim (fun k => k d0) (fun k => k e)), if_pos e, if_pos d]; exact ih _ _ _ hs hm
      · rw [if_pos (L.mpr (Or.inr e)), if_pos (L0.mpr (Or.inr e)), if_neg e]; exact ih _ _ _ hs hk
    · have d0 : ¬ s0 y.toNatClampNeg = 0 := ky ▸ d
      rw [if_pos (L.mpr (Or.inl d)), if_pos (L0.mpr (Or.inl d0)), if_neg d, ite_self]; exact ih _ _ _ hs hk
def CAR (F : Nat → Int32) (A : Nat → Nat → Int32) (C : Nat → Nat → Int32) (k : Nat) (rb pc fr tt : Int32) : Prop := (EQG (F 3) (A 8) (C 8) ∧ EQG (F 3) (A 9) (C 9) ∧ EQG (F 3) (A 10) (C 10) ∧ EQG (F 3) (A 11) (C 11) ∧ EQG (F 3) (A 12) (C 12)) ∧ C 8 k = rb ∧ C 9 k = pc ∧ C 10 k = fr ∧ C 11 k = tt
theorem riv (G1 : Nat → Int32) (C : Nat → Nat → Int32) (k rb pc fr tt : Int32) (hC : CAR F A C k.toNatClampNeg rb pc fr tt) (e13 : C 13 = A 13) (y : Int32) (h1 : 1 ≤ y.toNatClampNeg) (h2 : (y.toNatClampNeg : Int) ≤ (F 3).toInt) : f_Mo_isRival G1 C y k = 0 ↔ f_Gr_isRival F A y rb pc fr tt = 0 := by
  obtain ⟨⟨h8, h9, h10, h11, h12⟩, k8, k9, k10, k11⟩ := hC
  rw [mrv, nrv, k8, k9, k10, k11, e13, h8 _ h1 h2, h9 _ h1 h2, h10 _ h1 h2, h11 _ h1 h2]
  constructor
  · rintro (h | h | h | h)
    · exact Or.inl (Or.inl h)
    · exact Or.inr (Or.inl h)
    · exact Or.inl (Or.inr h)
    · exact Or.inr (Or.inr h)
  · rintro ((h | h) | h | h)
    · exact Or.inl h
    · exact Or.inr (Or.inr (Or.inl h))
    · exact Or.inr (Or.inl h)
    · exact Or.inr (Or.inr (Or.inr h))
theorem lt_le1 {b y : Int32} (h0 : 0 ≤ b.toInt) (h1 : b.toInt ≤ 60) : b + 1 ≤ y ↔ b < y := by
  have := add1 (i := b) (by omega) (by omega)
  rw [Int32.le_iff_toInt_le, Int32.lt_iff_toInt_lt]
  omega
theorem bars (hI : CI F) (g1 : G 1 = F 0) (g4 : G 4 = F 3) (C : Nat → Nat → Int32) (rb pc fr tt pr : Int32) (hC : CAR F A C (G 4 + 1).toNatClampNeg rb pc fr tt) (e13 : C 13 = A 13) : ∀ (n : Nat) (y : Int32), LA (F 3) y n → f_Mo_ask_L204 G B rb pc fr tt pr C n y = if f_RS_firstBar_L3 F A rb pc fr tt pr n y = 0 then f_Mo_ask_L261 G B rb pc fr tt pr 64 C 1 else (-(f_RS_firstBar_L3 F A rb pc fr tt pr n y), uF (uF G 0 0) 0 0, C) := by
  obtain ⟨-, -, hg0, hg1⟩ := hI
  intro n
  induction n with
  | zero => intro y h; exact h.z.elim
  | succ n ih =>
    intro y h
    rw [f_Mo_ask_L204, f_RS_firstBar_L3]
    by_cases c : F 3 < y
    · rw [if_pos (show G 4 + 1 ≤ y by rw [g4]; exact (lt_le1 hg0 hg1).mpr c), if_pos c, if_pos rfl]
    rw [if_neg (show ¬ G 4 + 1 ≤ y by rw [g4]; exact fun q => c ((lt_le1 hg0 hg1).mp q)), if_neg c]
    have hs := h.s c hg1
    have L : f_Gr_hasBegun F A y (F 0) = 0 ↔ F 0 < A 10 y.toNatClampNeg := nhb
    have hr := riv (uF (uF G 0 0) 0 0) C (G 4 + 1) rb pc fr tt hC e13 y h.one (h.le c)
    have e10 : C 10 y.toNatClampNeg = A 10 y.toNatClampNeg := hC.1.2.2.1 _ h.one (h.le c)
    have e12 : C 12 y.toNatClampNeg = A 12 y.toNatClampNeg := hC.1.2.2.2.2 _ h.one (h.le c)
    have hy : ¬ y = 0 := fun q => by
      have h1 := h.1
      rw [q] at h1
      exact absurd h1 (by decide)
    rw [e10, e12, g1]
    by_cases d : f_Gr_isRival F A y rb pc fr tt = 0
    · rw [if_pos (hr.mpr d), if_pos d, ite_self, ite_self]
      exact ih _ hs
    rw [if_neg (fun q => d (hr.mp q)), if_neg d]
    by_cases e : pr ≤ A 12 y.toNatClampNeg
    · rw [if_pos e, if_pos e, if_neg hy]
    rw [if_neg e, if_neg e]
    by_cases k : F 0 < A 10 y.toNatClampNeg
    · rw [if_pos k, if_pos (L.mpr k)]; exact ih _ hs
    · rw [if_neg k, if_neg (fun q => k (L.mp q)), if_neg hy]
theorem takes (hI : CI F) (g4 : G 4 = F 3) (C A0 B0 : Nat → Nat → Int32) (rb pc fr tt pr : Int32) (hC : CAR F A C (G 4 + 1).toNatClampNeg rb pc fr tt) : ∀ (n : Nat) (s : Nat → Int32) (y : Int32), LA (F 3) y n → ∃ s2 : Nat → Int32, f_Gr_takeFromOthers_L3 F A0 rb pc fr tt n (uA A 13 s) y = (0, F, uA A 13 s2) ∧ f_Mo_ask_L261 G B0 rb pc fr tt pr n (uA C 13 s) y = (G 4 + 1, uF (uF (uF G 0 0) 0 0) 4 (G 4 + 1), uA C 13 (upd s2 (G 4 + 1).toNatClampNeg 0)) := by
  obtain ⟨-, -, hg0, hg1⟩ := hI
  intro n
  induction n with
  | zero => intro s y h; exact h.z.elim
  | succ n ih =>
    intro s y h
    rw [f_Gr_takeFromOthers_L3, f_Mo_ask_L261]
    by_cases c : F 3 < y
    · rw [if_pos (show G 4 + 1 ≤ y by rw [g4]; exact (lt_le1 hg0 hg1).mpr c), if_pos c]
      refine ⟨s, rfl, ?_⟩
      rw [uA_at, uA2]
    rw [if_neg (show ¬ G 4 + 1 ≤ y by rw [g4]; exact fun q => c ((lt_le1 hg0 hg1).mp q)), if_neg c]
    have hs := h.s c hg1
    have hr := riv (A := uA A 13 s) (uF (uF G 0 0) 0 0) (uA C 13 s) (G 4 + 1) rb pc fr tt hC rfl y h.one (h.le c)
    rw [uA_at, uA_at, uA2, uA2]
    by_cases d : f_Gr_isRival F (uA A 13 s) y rb pc fr tt = 0
    · rw [if_pos (hr.mpr d), if_pos d]; exact ih _ _ hs
    · rw [if_neg (fun q => d (hr.mp q)), if_neg d]; exact ih _ _ hs
end
