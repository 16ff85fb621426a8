section
variable {F : Nat → Int32} {A : Nat → Nat → Int32} {G : Nat → Int32} {B : Nat → Nat → Int32}
theorem mxN2 {u v : Int32} (u0 : 0 ≤ u.toInt) (u1 : u.toInt < 16) (v0 : 0 ≤ v.toInt) (v1 : v.toInt ≤ 16) : ((16 * u) + v).toNatClampNeg = 16 * u.toNatClampNeg + v.toNatClampNeg := by
  have tu := toN u0
  have tv := toN v0
  have h1 : (16 * u).toInt = 16 * u.toInt := by
    rw [Int32.toInt_mul, show (16 : Int32).toInt = 16 from rfl, Int.bmod_eq_of_le] <;> omega
  have h2 : (16 * u + v).toInt = 16 * u.toInt + v.toInt := by
    rw [Int32.toInt_add, h1, Int.bmod_eq_of_le] <;> omega
  have := toN (i := 16 * u + v) (by omega)
  omega
theorem link_cnt (hI : CI F) (g2 : G 2 = F 1) (B0 : Nat → Nat → Int32) (pc oth on : Int32) (p0 : 0 ≤ pc.toInt) (p1 : pc.toInt < 16) (f : Nat → Bool) (hf : ∀ q : Nat, q < 16 → (B 1 (16 * pc.toNatClampNeg + q) = 0 ↔ f q = false)) : ∀ (n : Nat) (x y : Int32), LB (F 1) y n → f_Mo_link_L73 G B0 pc oth on B n x y = (x + ctf f ((F 1).toNatClampNeg - y.toNatClampNeg) y.toNatClampNeg, uF G 0 0, B) := by
  obtain ⟨⟨hp0, hp1⟩, -⟩ := hI
  have tp := toN hp0
  intro n
  induction n with
  | zero => intro x y h; exact h.z.elim
  | succ n ih =>
    intro x y h
    have ty := toN (i := y) h.1
    rw [f_Mo_link_L73, g2]
    by_cases c : F 1 ≤ y
    · rw [if_pos c]
      rw [Int32.le_iff_toInt_le] at c
      rw [show (F 1).toNatClampNeg - y.toNatClampNeg = 0 by omega, ctf, Int32.add_zero]
    rw [if_neg c]
    have hs := h.s c (by omega)
    rw [Int32.le_iff_toInt_le] at c
    have k := add1 (i := y) (by omega) (by omega)
    have t1 := toN (i := y + 1) (by omega)
    have e1 : (y + 1).toNatClampNeg = y.toNatClampNeg + 1 := by omega
    have e2 : (F 1).toNatClampNeg - y.toNatClampNeg = ((F 1).toNatClampNeg - (y + 1).toNatClampNeg) + 1 := by omega
    rw [mxN2 p0 p1 (by omega) (by omega), e2, ctf, ← e1]
    have hq := hf y.toNatClampNeg (by omega)
    by_cases d : B 1 (16 * pc.toNatClampNeg + y.toNatClampNeg) = 0
    · rw [if_pos d, hq.mp d, Int32.add_zero, ih _ _ hs]
      simp
    · have d2 : f y.toNatClampNeg = true := by
        cases w : f y.toNatClampNeg
        · exact absurd (hq.mpr w) d
        · rfl
      rw [if_neg d, d2, ih _ _ hs]
      simp [Int32.add_assoc]
theorem lkr_set {n : Int32} {a b a2 b2 : Nat → Int32} {u v : Nat} (bit : Bool) (hu : u < 16) (hv : v < 16) (huv : ¬ u = v) (hun : (u : Int) < n.toInt) (hvn : (v : Int) < n.toInt) (h : LKR n a b)
    (ha : ∀ p q : Nat, p < 16 → lnk (a2 p) q = if (p = u ∧ q = v) ∨ (p = v ∧ q = u) then bit else lnk (a p) q)
    (hb : ∀ p q : Nat, p < 16 → q < 16 → (b2 (16 * p + q) = 0 ↔ (if (p = u ∧ q = v) ∨ (p = v ∧ q = u) then bit = false else b (16 * p + q) = 0))) : LKR n a2 b2 := by
  refine ⟨fun p q hp hq => ?_, fun p q hp hq => ?_, fun p q hp hq => ?_⟩
  · rw [hb p q hp hq, ha p q hp]
    by_cases c : (p = u ∧ q = v) ∨ (p = v ∧ q = u)
    · rw [if_pos c, if_pos c]
    · rw [if_neg c, if_neg c]
      exact h.1 p q hp hq
  · rw [ha p q hp, ha q p hq]
    by_cases c : (p = u ∧ q = v) ∨ (p = v ∧ q = u)
    · rw [if_pos c, if_pos (show (q = u ∧ p = v) ∨ (q = v ∧ p = u) by omega)]
    · rw [if_neg c, if_neg (show ¬ ((q = u ∧ p = v) ∨ (q = v ∧ p = u)) by omega)]
      exact h.2.1 p q hp hq
  · rw [ha p q hp, if_neg (by omega)]
    exact h.2.2 p q hp hq
theorem lk_b {b : Nat → Int32} {u v : Nat} {w : Int32} {bit : Bool} (hu : u < 16) (hv : v < 16) (hw : w = 0 ↔ bit = false) (p q : Nat) (hp : p < 16) (hq : q < 16) : (upd (upd b (16 * u + v) w) (16 * v + u) w) (16 * p + q) = 0 ↔ (if (p = u ∧ q = v) ∨ (p = v ∧ q = u) then bit = false else b (16 * p + q) = 0) := by
  by_cases c : p = v ∧ q = u
  · rw [c.1, c.2, upd_at, if_pos (Or.inr ⟨rfl, rfl⟩), hw]
  rw [upd_ne (by omega)]
  by_cases d : p = u ∧ q = v
  · rw [d.1, d.2, upd_at, if_pos (Or.inl ⟨rfl, rfl⟩), hw]
  rw [upd_ne (by omega), if_neg (fun k => k.elim d c)]
theorem lk_a1 {a : Nat → Int32} {u v : Int32} (u0 : 0 ≤ u.toInt) (u1 : u.toInt < 16) (v0 : 0 ≤ v.toInt) (v1 : v.toInt < 16) (huv : ¬ u = v) (p q : Nat) : lnk ((upd (upd a u.toNatClampNeg (a u.toNatClampNeg ||| ((1 : Int32) <<< (v &&& 31)))) v.toNatClampNeg ((upd a u.toNatClampNeg (a u.toNatClampNeg ||| ((1 : Int32) <<< (v &&& 31)))) v.toNatClampNeg ||| ((1 : Int32) <<< (u &&& 31)))) p) q = if (p = u.toNatClampNeg ∧ q = v.toNatClampNeg) ∨ (p = v.toNatClampNeg ∧ q = u.toNatClampNeg) then true else lnk (a p) q := by
  have tu := toN u0
  have tv := toN v0
  have hne : ¬ u.toNatClampNeg = v.toNatClampNeg := fun k => huv (i32_ext (by omega))
  by_cases c : p = v.toNatClampNeg
  · rw [c, upd_at, upd_ne (fun k => hne k.symm), lnk_or u0 u1]
    by_cases d : q = u.toNatClampNeg
    · rw [if_pos (Or.inr ⟨rfl, d⟩), decide_eq_true d, Bool.or_true]
    · rw [if_neg (by omega), decide_eq_false d, Bool.or_false]
  rw [upd_ne c]
  by_cases e : p = u.toNatClampNeg
  · rw [e, upd_at, lnk_or v0 v1]
    by_cases d : q = v.toNatClampNeg
    · rw [if_pos (Or.inl ⟨rfl, d⟩), decide_eq_true d, Bool.or_true]
    · rw [if_neg (by omega), decide_eq_false d, Bool.or_false]
  rw [upd_ne e, if_neg (by omega)]
theorem lk_a0 {a : Nat → Int32} {u v : Int32} (u0 : 0 ≤ u.toInt) (u1 : u.toInt < 16) (v0 : 0 ≤ v.toInt) (v1 : v.toInt < 16) (huv : ¬ u = v) (p q : Nat) : lnk ((upd (upd a u.toNatClampNeg (a u.toNatClampNeg &&& (((1 : Int32) <<< (v &&& 31)) ^^^ (-1)))) v.toNatClampNeg ((upd a u.toNatClampNeg (a u.toNatClampNeg &&& (((1 : Int32) <<< (v &&& 31)) ^^^ (-1)))) v.toNatClampNeg &&& (((1 : Int32) <<< (u &&& 31)) ^^^ (-1)))) p) q = if (p = u.toNatClampNeg ∧ q = v.toNatClampNeg) ∨ (p = v.toNatClampNeg ∧ q = u.toNatClampNeg) then false else lnk (a p) q := by
  have tu := toN u0
  have tv := toN v0
  have hne : ¬ u.toNatClampNeg = v.toNatClampNeg := fun k => huv (i32_ext (by omega))
  by_cases c : p = v.toNatClampNeg
  · rw [c, upd_at, upd_ne (fun k => hne k.symm), lnk_an u0 u1]
    by_cases d : q = u.toNatClampNeg
    · rw [if_pos (Or.inr ⟨rfl, d⟩), decide_eq_true d, Bool.not_true, Bool.and_false]
    · rw [if_neg (by omega), decide_eq_false d, Bool.not_false, Bool.and_true]
  rw [upd_ne c]
  by_cases e : p = u.toNatClampNeg
  · rw [e, upd_at, lnk_an v0 v1]
    by_cases d : q = v.toNatClampNeg
    · rw [if_pos (Or.inl ⟨rfl, d⟩), decide_eq_true d, Bool.not_true, Bool.and_false]
    · rw [if_neg (by omega), decide_eq_false d, Bool.not_false, Bool.and_true]
  rw [upd_ne e, if_neg (by omega)]
theorem LR.ln (rel : LR F A G B) (a b : Nat → Int32) (h : LKR (F 1) a b) : LR F (uA A 0 a) G (uA B 1 b) := by
  obtain ⟨hI, hn, ⟨g1, g2, g3, g4⟩, ⟨b0, b2, b3, b4, b5, b7, b6, bs⟩, ⟨h8, h9, h10, h11, h12⟩, hz, hat, how, hlk⟩ := id rel
  exact ⟨hI, hn, ⟨g1, g2, g3, g4⟩, ⟨b0, b2, b3, b4, b5, b7, b6, bs⟩, ⟨h8, h9, h10, h11, h12⟩, hz, hat, how, h⟩
def LkS (x : Nat × Int32 × SC) (y : Int32 × SC) : Prop := LR x.2.2.1 x.2.2.2 y.2.1 y.2.2
theorem lks_ok {v w : Int32} (h : LR F A G B) : LkS (0, v, F, A) (w, G, B) := h
theorem lks_no {u : Nat} {v w c : Int32} (h : LR F A G B) : LkS (u, v, F, A) (w, uF G 0 c, B) := h.thr c
theorem link_end (rel : LR F A G B) (a b : Nat → Int32) (h : LKR (F 1) a b) (pc oth on : Int32) (p0 : 0 ≤ pc.toInt) (p1 : pc.toInt < (F 1).toInt) : LkS (0, f_bitCount (a pc.toNatClampNeg), F, uA A 0 a) (f_Mo_link_L73 G B pc oth on (uA B 1 b) 64 0 0) := by
  obtain ⟨hI, hn, ⟨g1, g2, g3, g4⟩, ⟨b0, b2, b3, b4, b5, b7, b6, bs⟩, ⟨h8, h9, h10, h11, h12⟩, hz, hat, how, hlk⟩ := id rel
  obtain ⟨⟨hp0, hp1⟩, -⟩ := id hI
  have tp := toN p0
  have tn := toN hp0
  rw [link_cnt (B := uA B 1 b) hI g2 B pc oth on p0 (by omega) (lnk (a pc.toNatClampNeg)) (fun q hq => h.1 _ q (by omega) hq) 64 0 0 (LB.i hp0 (by omega))]
  exact lks_ok ((rel.ln a b h).thr 0)
theorem op_link (rel : LR F A G B) (pc oth on : Int32) (hon : on = 0 ∨ on = 1) : LkS (f_RS_link F A pc oth on) (f_Mo_link G B pc oth on) := by
  obtain ⟨hI, hn, ⟨g1, g2, g3, g4⟩, ⟨b0, b2, b3, b4, b5, b7, b6, bs⟩, ⟨h8, h9, h10, h11, h12⟩, hz, hat, how, hlk⟩ := id rel
  obtain ⟨⟨hp0, hp1⟩, -⟩ := id hI
  unfold f_RS_link f_Mo_link
  rcases needP (A := A) (B := B) hI g2 pc with ⟨e1, e2, p0, p1⟩ | ⟨e1, e2⟩
  · rw [if_pos e1, if_neg e2]
    rcases needP (A := A) (B := B) hI g2 oth with ⟨e1, e2, q0, q1⟩ | ⟨e1, e2⟩
    · rw [if_pos e1, if_neg e2]
      by_cases c : pc = oth
      · rw [if_pos c, if_pos c]
        exact lks_no rel
      rw [if_neg c, if_neg c]
      have tp := toN p0
      have tq := toN q0
      have hne : ¬ pc.toNatClampNeg = oth.toNatClampNeg := fun k => c (i32_ext (by omega))
      rw [mxN2 p0 (by omega) q0 (by omega), mxN2 q0 (by omega) p0 (by omega)]
      rcases hon with rfl | rfl
      · rw [if_pos rfl]
        simp only [uA_at, uA2]
        exact link_end rel _ _ (lkr_set false (by omega) (by omega) hne (by omega) (by omega) hlk (fun p q _ => lk_a0 p0 (by omega) q0 (by omega) c p q) (fun p q hp hq => lk_b (w := vp_nar .boolean 0) (bit := false) (by omega) (by omega) ⟨fun _ => rfl, fun _ => rfl⟩ p q hp hq)) pc oth 0 p0 p1
      · rw [if_neg (show ¬ (1 : Int32) = 0 by decide)]
        simp only [uA_at, uA2]
        exact link_end rel _ _ (lkr_set true (by omega) (by omega) hne (by omega) (by omega) hlk (fun p q _ => lk_a1 p0 (by omega) q0 (by omega) c p q) (fun p q hp hq => lk_b (w := vp_nar .boolean 1) (bit := true) (by omega) (by omega) ⟨fun k => absurd k (by decide), fun k => absurd k (by decide)⟩ p q hp hq)) pc oth 1 p0 p1
    · rw [if_neg (nz e1), if_pos e2, e1]
      exact lks_no rel
  · rw [if_neg (nz e1), if_pos e2, e1]
    exact lks_no rel
end
