def dsm (h : Nat → Int32) : Nat → Nat → Int32
  | 0, _ => 0
  | m + 1, k => h k + dsm h m (k + 1)
theorem ctf_snoc {f : Nat → Bool} : ∀ (m k : Nat), ctf f (m + 1) k = ctf f m k + (if f (k + m) then 1 else 0) := by
  intro m
  induction m with
  | zero => intro k; rw [ctf, ctf, ctf, Nat.add_zero, Int32.add_zero, Int32.zero_add]
  | succ m ih => intro k; rw [ctf, ih (k + 1), ctf, Int32.add_assoc, show k + 1 + m = k + (m + 1) by omega]
theorem dsm_snoc {h : Nat → Int32} : ∀ (m k : Nat), dsm h (m + 1) k = dsm h m k + h (k + m) := by
  intro m
  induction m with
  | zero => intro k; rw [dsm, dsm, dsm, Nat.add_zero, Int32.add_zero, Int32.zero_add]
  | succ m ih => intro k; rw [dsm, ih (k + 1), dsm, Int32.add_assoc, show k + 1 + m = k + (m + 1) by omega]
theorem dsm_ext {g h : Nat → Int32} : ∀ (m k : Nat), (∀ j : Nat, k ≤ j → j < k + m → g j = h j) → dsm g m k = dsm h m k := by
  intro m
  induction m with
  | zero => intro k q; rfl
  | succ m ih => intro k q; rw [dsm, dsm, q k (by omega) (by omega), ih (k + 1) (fun j a b => q j (by omega) (by omega))]
theorem dsm_add {g h : Nat → Int32} : ∀ (m k : Nat), dsm (fun j => g j + h j) m k = dsm g m k + dsm h m k := by
  intro m
  induction m with
  | zero => intro k; rfl
  | succ m ih =>
    intro k
    rw [dsm, dsm, dsm, ih (k + 1)]
    ac_rfl
theorem dsm_ctf {f : Nat → Bool} : ∀ (m k : Nat), dsm (fun j => if f j then 1 else 0) m k = ctf f m k := by
  intro m
  induction m with
  | zero => intro k; rfl
  | succ m ih => intro k; rw [dsm, ctf, ih (k + 1)]
theorem dsm_zero : ∀ (m k : Nat), dsm (fun _ => 0) m k = 0 := by
  intro m
  induction m with
  | zero => intro k; rfl
  | succ m ih => intro k; rw [dsm, ih (k + 1)]; rfl
theorem pairs_eq (M : Nat → Nat → Bool) : ∀ n : Nat, dsm (fun g => ctf (M g) (n - g) (g + 1)) n 1 = dsm (fun x => ctf (fun y => M y x) (x - 1) 1) n 1 := by
  intro n
  induction n with
  | zero => rfl
  | succ n ih =>
    rw [dsm_snoc, dsm_snoc, ← ih]
    have e1 : dsm (fun g => ctf (M g) (n + 1 - g) (g + 1)) n 1 = dsm (fun g => ctf (M g) (n - g) (g + 1) + (if M g (n + 1) then 1 else 0)) n 1 := by
      refine dsm_ext n 1 (fun j h1 h2 => ?_)
      show ctf (M j) (n + 1 - j) (j + 1) = ctf (M j) (n - j) (j + 1) + (if M j (n + 1) then 1 else 0)
      rw [show n + 1 - j = (n - j) + 1 by omega, ctf_snoc, show j + 1 + (n - j) = n + 1 by omega]
    rw [e1, dsm_add]
    have e2 : ctf (M (1 + n)) (n + 1 - (1 + n)) (1 + n + 1) = 0 := by
      rw [show n + 1 - (1 + n) = 0 by omega, ctf]
    have e3 : dsm (fun g => if M g (n + 1) then 1 else 0) n 1 = ctf (fun y => M y (1 + n)) (1 + n - 1) 1 := by
      rw [show 1 + n - 1 = n by omega, show 1 + n = n + 1 by omega]
      exact dsm_ctf n 1
    show dsm (fun g => ctf (M g) (n - g) (g + 1)) n 1 + dsm (fun g => if M g (n + 1) then 1 else 0) n 1 + ctf (M (1 + n)) (n + 1 - (1 + n)) (1 + n + 1) = dsm (fun g => ctf (M g) (n - g) (g + 1)) n 1 + ctf (fun y => M y (1 + n)) (1 + n - 1) 1
    rw [e2, e3, Int32.add_zero]
theorem one_of (r n : Nat) (b : Bool) (h : r < n) : dsm (fun j => if (b && decide (r = j)) then 1 else 0) n 0 = if b then 1 else 0 := by
  have key : ∀ (m k : Nat), dsm (fun j => if (b && decide (r = j)) then 1 else 0) m k = if (b && decide (k ≤ r ∧ r < k + m)) then 1 else 0 := by
    intro m
    induction m with
    | zero =>
      intro k
      rw [dsm, decide_eq_false (by omega), Bool.and_false]
      rfl
    | succ m ih =>
      intro k
      rw [dsm, ih (k + 1)]
      cases b
      · rfl
      · by_cases c : r = k
        · rw [decide_eq_true c, decide_eq_false (by omega), decide_eq_true (by omega)]
          rfl
        · rw [decide_eq_false c]
          by_cases d : k ≤ r ∧ r < k + (m + 1)
          · rw [decide_eq_true d, decide_eq_true (by omega)]
            rfl
          · rw [decide_eq_false d, decide_eq_false (by omega)]
            rfl
  rw [key n 0, decide_eq_true (by omega), Bool.and_true]
theorem sum_own (lv : Nat → Bool) (ow : Nat → Nat) (n : Nat) : ∀ (m k : Nat), (∀ j : Nat, k ≤ j → j < k + m → ow j < n) → dsm (fun r => ctf (fun g => lv g && decide (ow g = r)) m k) n 0 = ctf lv m k := by
  intro m
  induction m with
  | zero => intro k h; exact dsm_zero n 0
  | succ m ih =>
    intro k h
    have e : dsm (fun r => ctf (fun g => lv g && decide (ow g = r)) (m + 1) k) n 0 = dsm (fun r => (if (lv k && decide (ow k = r)) then 1 else 0) + ctf (fun g => lv g && decide (ow g = r)) m (k + 1)) n 0 := rfl
    rw [e, dsm_add, ih (k + 1) (fun j a b => h j (by omega) (by omega)), one_of (ow k) n (lv k) (h k (by omega) (by omega)), ctf]
section
variable {F : Nat → Int32} {A : Nat → Nat → Int32} {G : Nat → Int32} {B : Nat → Nat → Int32}
def lvN (A : Nat → Nat → Int32) (g : Nat) : Bool := decide (A 13 g = 0)
def mtN (A : Nat → Nat → Int32) (a b : Nat) : Bool := (lvN A a && lvN A b) && (decide (A 9 a = A 9 b) && (!decide (A 11 b ≤ A 10 a) && !decide (A 11 a ≤ A 10 b)))
theorem LA.nx {b i : Int32} {n : Nat} (h : LA b i n) (hb : b.toInt ≤ 60) : (i + 1).toNatClampNeg = i.toNatClampNeg + 1 := by
  obtain ⟨h1, h2, h3⟩ := h
  have := add1 (i := i) (by omega) (by omega)
  have := toN (i := i) (by omega)
  have := toN (i := i + 1) (by omega)
  omega
theorem LB.nx {b i : Int32} {n : Nat} (h : LB b i n) (hb : b.toInt ≤ 60) : (i + 1).toNatClampNeg = i.toNatClampNeg + 1 := by
  obtain ⟨h1, h2, h3⟩ := h
  have := add1 (i := i) (by omega) (by omega)
  have := toN (i := i) (by omega)
  have := toN (i := i + 1) (by omega)
  omega
theorem LA.dn {b i : Int32} {n : Nat} (h : LA b i n) (h0 : 0 ≤ b.toInt) (c : b < i) : b.toNatClampNeg + 1 - i.toNatClampNeg = 0 := by
  have := toN h0
  have := toN (i := i) (by have := h.1; omega)
  rw [Int32.lt_iff_toInt_lt] at c
  omega
theorem LA.up {b i : Int32} {n : Nat} (h : LA b i n) (h0 : 0 ≤ b.toInt) (hb : b.toInt ≤ 60) (c : ¬ b < i) : b.toNatClampNeg + 1 - i.toNatClampNeg = (b.toNatClampNeg + 1 - (i + 1).toNatClampNeg) + 1 := by
  have := toN h0
  have := toN (i := i) (by have := h.1; omega)
  have := h.nx hb
  rw [Int32.lt_iff_toInt_lt] at c
  omega
theorem cnt_all (hI : CI F) : ∀ (n : Nat) (x y : Int32), LA (F 3) y n → f_Gr_allLive_L4 F A n x y = x + ctf (lvN A) ((F 3).toNatClampNeg + 1 - y.toNatClampNeg) y.toNatClampNeg := by
  obtain ⟨-, -, hg0, hg1⟩ := hI
  intro n
  induction n with
  | zero => intro x y h; exact h.z.elim
  | succ n ih =>
    intro x y h
    rw [f_Gr_allLive_L4]
    by_cases c : F 3 < y
    · rw [if_pos c, h.dn hg0 c, ctf, Int32.add_zero]
    have hs := h.s c hg1
    have L : f_Gr_isLive F A y = 0 ↔ ¬ A 13 y.toNatClampNeg = 0 := nlv
    rw [if_neg c, h.up hg0 hg1 c, ctf, ← h.nx hg1]
    by_cases d : A 13 y.toNatClampNeg = 0
    · rw [if_neg (fun q => L.mp q d), ih _ _ hs, Int32.add_assoc, if_pos (show lvN A y.toNatClampNeg = true from decide_eq_true d)]
    · rw [if_pos (L.mpr d), ih _ _ hs, if_neg (show ¬ lvN A y.toNatClampNeg = true from fun q => d (of_decide_eq_true q)), Int32.zero_add]
theorem cnt_of (hI : CI F) (how : OWR (F 3) (F 2) (A 8)) (rb : Int32) (r0 : 0 ≤ rb.toInt) : ∀ (n : Nat) (x y : Int32), LA (F 3) y n → f_Gr_liveOf_L4 F A rb n x y = x + ctf (fun g => lvN A g && decide ((A 8 g).toNatClampNeg = rb.toNatClampNeg)) ((F 3).toNatClampNeg + 1 - y.toNatClampNeg) y.toNatClampNeg := by
  obtain ⟨-, -, hg0, hg1⟩ := hI
  intro n
  induction n with
  | zero => intro x y h; exact h.z.elim
  | succ n ih =>
    intro x y h
    rw [f_Gr_liveOf_L4]
    by_cases c : F 3 < y
    · rw [if_pos c, h.dn hg0 c, ctf, Int32.add_zero]
    have hs := h.s c hg1
    have L : f_Gr_isLiveOf F A y rb = 0 ↔ (¬ A 13 y.toNatClampNeg = 0 ∨ ¬ A 8 y.toNatClampNeg = rb) := nlo
    have ho := how _ h.one (h.le c)
    have t1 := toN ho.1
    have t2 := toN r0
    rw [if_neg c, h.up hg0 hg1 c, ctf, ← h.nx hg1]
    by_cases d : A 13 y.toNatClampNeg = 0
    · by_cases e : A 8 y.toNatClampNeg = rb
      · rw [if_neg (fun q => (L.mp q).elim (fun k => k d) (fun k => k e)), ih _ _ hs, Int32.add_assoc, if_pos (show (lvN A y.toNatClampNeg && decide ((A 8 y.toNatClampNeg).toNatClampNeg = rb.toNatClampNeg)) = true by rw [show lvN A y.toNatClampNeg = true from decide_eq_true d, e, decide_eq_true rfl]; rfl)]
      · have e2 : ¬ (A 8 y.toNatClampNeg).toNatClampNeg = rb.toNatClampNeg := fun k => e (i32_ext (by omega))
        rw [if_pos (L.mpr (Or.inr e)), ih _ _ hs, if_neg (show ¬ (lvN A y.toNatClampNeg && decide ((A 8 y.toNatClampNeg).toNatClampNeg = rb.toNatClampNeg)) = true by rw [decide_eq_false e2, Bool.and_false]; decide), Int32.zero_add]
    · rw [if_pos (L.mpr (Or.inl d)), ih _ _ hs, if_neg (show ¬ (lvN A y.toNatClampNeg && decide ((A 8 y.toNatClampNeg).toNatClampNeg = rb.toNatClampNeg)) = true by rw [show lvN A y.toNatClampNeg = false from decide_eq_false d, Bool.false_and]; decide), Int32.zero_add]
theorem c105_3 (n : Nat) (x y : Int32) : (f_Mo_count_L105 G B 3 (n + 1) x y).1 = x := by
  rw [f_Mo_count_L105]
  split
  · rw [if_pos rfl]
  · rw [if_neg (by decide), if_pos rfl]
theorem c105_5 (n : Nat) (x y : Int32) : (f_Mo_count_L105 G B 5 (n + 1) x y).1 = x := by
  rw [f_Mo_count_L105]
  split
  · rw [if_neg (show ¬ (5 : Int32) = 3 by decide), if_pos rfl]
  · rw [if_neg (show ¬ (5 : Int32) = 6 by decide), if_neg (show ¬ (5 : Int32) = 3 by decide), if_pos rfl]
theorem cnt3 (rel : LR F A G B) : ∀ (n : Nat) (x y : Int32), LB (F 2) y n → (f_Mo_count_L48 G B 3 n x y).1 = x + dsm (fun r => ctf (fun g => lvN A g && decide ((A 8 g).toNatClampNeg = r)) (F 3).toNatClampNeg 1) ((F 2).toNatClampNeg - y.toNatClampNeg) y.toNatClampNeg := by
  obtain ⟨hI, hn, ⟨g1, g2, g3, g4⟩, ⟨b0, b2, b3, b4, b5, b7, b6, bs⟩, ⟨h8, h9, h10, h11, h12⟩, hz, hat, how, hlk⟩ := id rel
  obtain ⟨-, ⟨hr0, hr1⟩, hg0, hg1⟩ := id hI
  have tr := toN hr0
  intro n
  induction n with
  | zero => intro x y h; exact h.z.elim
  | succ n ih =>
    intro x y h
    have ty := toN h.1
    rw [f_Mo_count_L48, g3]
    by_cases c : F 2 ≤ y
    · rw [if_pos c, c105_3 63]
      rw [Int32.le_iff_toInt_le] at c
      rw [show (F 2).toNatClampNeg - y.toNatClampNeg = 0 by omega, dsm, Int32.add_zero]
    have hs := h.s c (by omega)
    have e1 := h.nx (by omega)
    rw [if_neg c, if_pos rfl, ih _ _ hs]
    rw [Int32.le_iff_toInt_le] at c
    have e2 : (F 2).toNatClampNeg - y.toNatClampNeg = ((F 2).toNatClampNeg - (y + 1).toNatClampNeg) + 1 := by omega
    have e3 := eq_liveOf (F := F) (A := A) (G := uF G 0 0) (B := B) hI g4 bs h8 y
    have e4 := cnt_of hI how y h.1 64 0 1 (LA.i hg0 hg1)
    rw [e3, e2, dsm, ← e1]
    unfold f_Gr_liveOf
    rw [e4, Int32.zero_add, show (1 : Int32).toNatClampNeg = 1 from rfl, Nat.add_sub_cancel, Int32.add_assoc]
theorem cnt5 (rel : LR F A G B) : ∀ (n : Nat) (x y : Int32), LB (F 2) y n → (f_Mo_count_L48 G B 5 n x y).1 = f_Rb_allWaiting_L4 F A n x y := by
  obtain ⟨hI, hn, ⟨g1, g2, g3, g4⟩, ⟨b0, b2, b3, b4, b5, b7, b6, bs⟩, ⟨h8, h9, h10, h11, h12⟩, hz, hat, how, hlk⟩ := id rel
  obtain ⟨-, ⟨hr0, hr1⟩, hg0, hg1⟩ := id hI
  intro n
  induction n with
  | zero => intro x y h; exact h.z.elim
  | succ n ih =>
    intro x y h
    have e5 : B 5 y.toNatClampNeg = A 5 y.toNatClampNeg := by rw [b5]
    rw [f_Mo_count_L48, f_Rb_allWaiting_L4, g3, e5]
    by_cases c : F 2 ≤ y
    · rw [if_pos c, if_pos c, c105_5 63]
    have hs := h.s c (by omega)
    rw [if_neg c, if_neg c, if_neg (show ¬ (5 : Int32) = 3 by decide), if_pos rfl]
    by_cases d : A 5 y.toNatClampNeg = -1
    · rw [if_pos d, if_pos d, Int32.add_zero]; exact ih _ _ hs
    · rw [if_neg d, if_neg d]; exact ih _ _ hs
theorem mt_true {g k : Int32} (h : ¬ f_Gr_areMeeting F A g k = 0) (d : A 13 g.toNatClampNeg = 0) (e : A 13 k.toNatClampNeg = 0) : mtN A g.toNatClampNeg k.toNatClampNeg = true := by
  rw [nam] at h
  have h1 : A 9 g.toNatClampNeg = A 9 k.toNatClampNeg := Classical.byContradiction fun q => h (Or.inl q)
  have h2 : ¬ A 11 k.toNatClampNeg ≤ A 10 g.toNatClampNeg := fun q => h (Or.inr (Or.inl q))
  have h3 : ¬ A 11 g.toNatClampNeg ≤ A 10 k.toNatClampNeg := fun q => h (Or.inr (Or.inr q))
  unfold mtN lvN
  rw [decide_eq_true d, decide_eq_true e, decide_eq_true h1, decide_eq_false h2, decide_eq_false h3]
  rfl
theorem mt_false {g k : Int32} (h : f_Gr_areMeeting F A g k = 0 ∨ ¬ A 13 g.toNatClampNeg = 0 ∨ ¬ A 13 k.toNatClampNeg = 0) : ¬ mtN A g.toNatClampNeg k.toNatClampNeg = true := by
  intro q
  unfold mtN lvN at q
  rw [Bool.and_eq_true, Bool.and_eq_true, Bool.and_eq_true, Bool.and_eq_true] at q
  obtain ⟨⟨q1, q2⟩, q3, q4, q5⟩ := q
  have q1 := of_decide_eq_true q1
  have q2 := of_decide_eq_true q2
  have q3 := of_decide_eq_true q3
  rcases h with h | h | h
  · rcases nam.mp h with k1 | k1 | k1
    · exact k1 q3
    · rw [decide_eq_true k1] at q4
      exact absurd q4 (by decide)
    · rw [decide_eq_true k1] at q5
      exact absurd q5 (by decide)
  · exact h q1
  · exact h q2
theorem mt_sym (a b : Nat) : mtN A a b = mtN A b a := by
  unfold mtN
  rw [Bool.and_comm (lvN A a), Bool.and_comm (!decide (A 11 b ≤ A 10 a)), show decide (A 9 a = A 9 b) = decide (A 9 b = A 9 a) from decide_eq_decide.mpr ⟨Eq.symm, Eq.symm⟩]
theorem cls_in (hI : CI F) (g : Int32) (K : Int32 → Int32 → Int32) : ∀ (n : Nat) (x y : Int32), LA (F 3) y n → ∃ z : Int32, f_Gr_livePairsMeeting_L16 F A g K n x y = K (x + ctf (mtN A g.toNatClampNeg) ((F 3).toNatClampNeg + 1 - y.toNatClampNeg) y.toNatClampNeg) z := by
  obtain ⟨-, -, hg0, hg1⟩ := hI
  intro n
  induction n with
  | zero => intro x y h; exact h.z.elim
  | succ n ih =>
    intro x y h
    rw [f_Gr_livePairsMeeting_L16]
    by_cases c : F 3 < y
    · rw [if_pos c, h.dn hg0 c, ctf, Int32.add_zero]; exact ⟨_, rfl⟩
    have hs := h.s c hg1
    have L1 : f_Gr_isLive F A g = 0 ↔ ¬ A 13 g.toNatClampNeg = 0 := nlv
    have L2 : f_Gr_isLive F A y = 0 ↔ ¬ A 13 y.toNatClampNeg = 0 := nlv
    rw [if_neg c, h.up hg0 hg1 c, ctf, ← h.nx hg1]
    by_cases d : A 13 g.toNatClampNeg = 0
    · by_cases e : A 13 y.toNatClampNeg = 0
      · by_cases k : f_Gr_areMeeting F A g y = 0
        · rw [if_neg (fun q => L1.mp q d), if_neg (fun q => L2.mp q e), if_pos k, if_neg (mt_false (F := F) (Or.inl k)), Int32.zero_add]; exact ih _ _ hs
        · rw [if_neg (fun q => L1.mp q d), if_neg (fun q => L2.mp q e), if_neg k, if_pos (mt_true (F := F) k d e), ← Int32.add_assoc]; exact ih _ _ hs
      · rw [if_neg (fun q => L1.mp q d), if_pos (L2.mpr e), if_neg (mt_false (F := F) (Or.inr (Or.inr e))), Int32.zero_add]; exact ih _ _ hs
    · rw [if_pos (L1.mpr d), if_neg (mt_false (F := F) (Or.inr (Or.inl d))), Int32.zero_add]; exact ih _ _ hs
theorem cls_out (hI : CI F) : ∀ (n : Nat) (x y : Int32), LA (F 3) y n → f_Gr_livePairsMeeting_L4 F A n x y = x + dsm (fun g => ctf (mtN A g) ((F 3).toNatClampNeg - g) (g + 1)) ((F 3).toNatClampNeg + 1 - y.toNatClampNeg) y.toNatClampNeg := by
  obtain ⟨-, -, hg0, hg1⟩ := id hI
  intro n
  induction n with
  | zero => intro x y h; exact h.z.elim
  | succ n ih =>
    intro x y h
    rw [f_Gr_livePairsMeeting_L4]
    by_cases c : F 3 < y
    · rw [if_pos c, h.dn hg0 c, dsm, Int32.add_zero]
    have hs := h.s c hg1
    rw [if_neg c]
    obtain ⟨z, hz⟩ := cls_in (A := A) hI y (fun x1 x3 => f_Gr_livePairsMeeting_L4 F A n x1 (y + 1)) 64 x (y + 1) (h.j c hg1)
    rw [hz]
    show f_Gr_livePairsMeeting_L4 F A n (x + ctf (mtN A y.toNatClampNeg) ((F 3).toNatClampNeg + 1 - (y + 1).toNatClampNeg) (y + 1).toNatClampNeg) (y + 1) = _
    rw [ih _ _ hs, h.up hg0 hg1 c, dsm, h.nx hg1, Int32.add_assoc, Nat.add_sub_add_right]
theorem ref_in (h9 : EQG (F 3) (A 9) (B 9)) (h10 : EQG (F 3) (A 10) (B 10)) (h11 : EQG (F 3) (A 11) (B 11)) (bs : B 13 = A 13) (w : Int32) (w0 : 1 ≤ w.toInt) (w1 : w.toInt ≤ (F 3).toInt) (w2 : w.toInt ≤ 60) (K : Int32 → Int32 → Int32 × SC) : ∀ (n : Nat) (x y : Int32), LC w y n → ∃ z : Int32, f_Mo_count_L122 G B 6 w K n x y = K (x + ctf (fun a => mtN A a w.toNatClampNeg) (w.toNatClampNeg - y.toNatClampNeg) y.toNatClampNeg) z := by
  have tw := toN (i := w) (by omega)
  intro n
  induction n with
  | zero => intro x y h; exact h.z.elim
  | succ n ih =>
    intro x y h
    obtain ⟨y0, y1, y2⟩ := id h
    have ty := toN (i := y) (by omega)
    rw [f_Mo_count_L122]
    by_cases c : w ≤ y
    · rw [if_pos c]
      rw [Int32.le_iff_toInt_le] at c
      rw [show w.toNatClampNeg - y.toNatClampNeg = 0 by omega, ctf, Int32.add_zero]
      exact ⟨_, rfl⟩
    have hs := h.s c (by omega)
    have k1 := add1 (i := y) (by omega) (by omega)
    have t1 := toN (i := y + 1) (by omega)
    rw [if_neg c]
    rw [Int32.le_iff_toInt_le] at c
    have M := eq_meet (A := A) (B := B) (G := uF G 0 0) h9 h10 h11 w y w0 w1 (by omega) (by omega)
    have e13 : B 13 w.toNatClampNeg = A 13 w.toNatClampNeg := by rw [bs]
    have f13 : B 13 y.toNatClampNeg = A 13 y.toNatClampNeg := by rw [bs]
    rw [e13, f13, show w.toNatClampNeg - y.toNatClampNeg = (w.toNatClampNeg - (y + 1).toNatClampNeg) + 1 by omega, ctf, show y.toNatClampNeg + 1 = (y + 1).toNatClampNeg by omega, mt_sym]
    by_cases d : A 13 w.toNatClampNeg = 0
    · by_cases e : A 13 y.toNatClampNeg = 0
      · by_cases k : f_Gr_areMeeting F A w y = 0
        · rw [if_pos d, if_pos e, if_pos (M.mpr k), if_neg (mt_false (F := F) (Or.inl k)), Int32.zero_add, Int32.add_zero]; exact ih _ _ hs
        · rw [if_pos d, if_pos e, if_neg (fun q => k (M.mp q)), if_pos (mt_true (F := F) k d e), ← Int32.add_assoc]; exact ih _ _ hs
      · rw [if_pos d, if_neg e, if_neg (mt_false (F := F) (Or.inr (Or.inr e))), Int32.zero_add, Int32.add_zero]; exact ih _ _ hs
    · rw [if_neg d, if_neg (mt_false (F := F) (Or.inr (Or.inl d))), Int32.zero_add, Int32.add_zero]; exact ih _ _ hs
theorem ref_out (rel : LR F A G B) : ∀ (n : Nat) (x y : Int32), LA (F 3) y n → (f_Mo_count_L105 G B 6 n x y).1 = x + dsm (fun a => ctf (fun q => mtN A q a) (a - 1) 1) ((F 3).toNatClampNeg + 1 - y.toNatClampNeg) y.toNatClampNeg := by
  obtain ⟨hI, hn, ⟨g1, g2, g3, g4⟩, ⟨b0, b2, b3, b4, b5, b7, b6, bs⟩, ⟨h8, h9, h10, h11, h12⟩, hz, hat, how, hlk⟩ := id rel
  obtain ⟨-, -, hg0, hg1⟩ := id hI
  intro n
  induction n with
  | zero => intro x y h; exact h.z.elim
  | succ n ih =>
    intro x y h
    rw [f_Mo_count_L105, g4]
    by_cases c : F 3 < y
    · rw [if_pos c, if_neg (show ¬ (6 : Int32) = 3 by decide), if_neg (show ¬ (6 : Int32) = 5 by decide), if_pos rfl, h.dn hg0 c, dsm, Int32.add_zero]
    have hs := h.s c hg1
    have y0 := h.1
    have ty := toN (i := y) (by omega)
    rw [if_neg c, if_pos rfl]
    have y1 : y.toInt ≤ (F 3).toInt := by
      rw [Int32.lt_iff_toInt_lt] at c
      omega
    obtain ⟨z, hz⟩ := ref_in (A := A) (B := B) (G := G) h9 h10 h11 bs y y0 y1 (by omega) (fun x2 x4 => f_Mo_count_L105 G B 6 n x2 (y + 1)) 64 x 1 (LC.i y0 (by omega))
    rw [hz]
    show (f_Mo_count_L105 G B 6 n (x + ctf (fun a => mtN A a y.toNatClampNeg) (y.toNatClampNeg - (1 : Int32).toNatClampNeg) (1 : Int32).toNatClampNeg) (y + 1)).1 = _
    rw [ih _ _ hs, h.up hg0 hg1 c, dsm, ← h.nx hg1, Int32.add_assoc]
    rfl
theorem ref_outb (rel : LR F A G B) : ∀ (n : Nat) (x y : Int32), LA (F 3) y n → (f_Mo_count_L105b G B 6 n x y).1 = x + dsm (fun a => ctf (fun q => mtN A q a) (a - 1) 1) ((F 3).toNatClampNeg + 1 - y.toNatClampNeg) y.toNatClampNeg := by
  obtain ⟨hI, hn, ⟨g1, g2, g3, g4⟩, ⟨b0, b2, b3, b4, b5, b7, b6, bs⟩, ⟨h8, h9, h10, h11, h12⟩, hz, hat, how, hlk⟩ := id rel
  obtain ⟨-, -, hg0, hg1⟩ := id hI
  intro n
  induction n with
  | zero => intro x y h; exact h.z.elim
  | succ n ih =>
    intro x y h
    rw [f_Mo_count_L105b, g4]
    by_cases c : F 3 < y
    · rw [if_pos c, if_pos rfl, h.dn hg0 c, dsm, Int32.add_zero]
    have hs := h.s c hg1
    have y0 := h.1
    have ty := toN (i := y) (by omega)
    rw [if_neg c, if_pos rfl]
    have y1 : y.toInt ≤ (F 3).toInt := by
      rw [Int32.lt_iff_toInt_lt] at c
      omega
    obtain ⟨z, hz⟩ := ref_in (A := A) (B := B) (G := G) h9 h10 h11 bs y y0 y1 (by omega) (fun x2 x4 => f_Mo_count_L105b G B 6 n x2 (y + 1)) 64 x 1 (LC.i y0 (by omega))
    rw [hz]
    show (f_Mo_count_L105b G B 6 n (x + ctf (fun a => mtN A a y.toNatClampNeg) (y.toNatClampNeg - (1 : Int32).toNatClampNeg) (1 : Int32).toNatClampNeg) (y + 1)).1 = _
    rw [ih _ _ hs, h.up hg0 hg1 c, dsm, ← h.nx hg1, Int32.add_assoc]
    rfl
theorem c_off (rel : LR F A G B) (wh : Int32) (w3 : ¬ wh = 3) (w5 : ¬ wh = 5) (w6 : ¬ wh = 6) (n m : Nat) (x y : Int32) : (f_Mo_count_L48 G B wh (63 + 1) x y).1 = -1 := by
  rw [f_Mo_count_L48]
  split
  · rw [show (64 : Nat) = 63 + 1 from rfl, f_Mo_count_L105]
    split <;> first | rfl | rw [if_neg w3, if_neg w5, if_neg w6] | rw [if_neg w6, if_neg w3, if_neg w5]
  · rw [show (64 : Nat) = 63 + 1 from rfl, f_Mo_count_L105b]
    split <;> first | rfl | rw [if_neg w6]
theorem ans_count (rel : LR F A G B) (wh : Int32) : f_RS_count F A wh = (f_Mo_count G B wh).1 := by
  obtain ⟨hI, hn, ⟨g1, g2, g3, g4⟩, ⟨b0, b2, b3, b4, b5, b7, b6, bs⟩, ⟨h8, h9, h10, h11, h12⟩, hz, hat, how, hlk⟩ := id rel
  obtain ⟨-, ⟨hr0, hr1⟩, hg0, hg1⟩ := id hI
  have n1 : (1 : Int32).toNatClampNeg = 1 := rfl
  have n0 : (0 : Int32).toNatClampNeg = 0 := rfl
  unfold f_RS_count f_Mo_count
  by_cases w0 : wh = 0
  · rw [if_pos w0, if_pos w0, g2]
  rw [if_neg w0, if_neg w0]
  by_cases w1 : wh = 1
  · rw [if_pos w1, if_pos w1, g3]
  rw [if_neg w1, if_neg w1]
  by_cases w2 : wh = 2
  · rw [if_pos w2, if_pos w2, g4]
  rw [if_neg w2, if_neg w2]
  by_cases w4 : wh = 4
  · rw [if_neg (fun q => absurd (w4.symm.trans q) (by decide)), if_pos w4, if_pos w4, g1]
  rw [if_neg w4, if_neg w4]
  by_cases w3 : wh = 3
  · rw [if_pos w3, w3, cnt3 rel 64 0 0 (LB.i hr0 (by omega))]
    unfold f_Gr_allLive
    rw [cnt_all hI 64 0 1 (LA.i hg0 hg1), n1, n0, Nat.add_sub_cancel, Nat.sub_zero, sum_own (lvN A) (fun g => (A 8 g).toNatClampNeg) (F 2).toNatClampNeg (F 3).toNatClampNeg 1 (fun j h1 h2 => by
      have t2 := toN hr0
      have t3 := toN hg0
      have ho := how j h1 (by omega)
      have t1 := toN ho.1
      show (A 8 j).toNatClampNeg < (F 2).toNatClampNeg
      omega)]
  rw [if_neg w3]
  by_cases w5 : wh = 5
  · rw [if_pos w5, w5, cnt5 rel 64 0 0 (LB.i hr0 (by omega))]
    rfl
  rw [if_neg w5]
  by_cases w6 : wh = 6
  · rw [if_pos w6, w6]
    unfold f_Gr_livePairsMeeting
    have e := pairs_eq (mtN A) (F 3).toNatClampNeg
    rw [cls_out hI 64 0 1 (LA.i hg0 hg1), n1, Nat.add_sub_cancel, e]
    rw [show (64 : Nat) = 63 + 1 from rfl, f_Mo_count_L48]
    split
    · rw [ref_out rel 64 0 1 (LA.i hg0 hg1), n1, Nat.add_sub_cancel]
    · rw [if_neg (show ¬ (6 : Int32) = 3 by decide), if_neg (show ¬ (6 : Int32) = 5 by decide), ref_outb rel 64 0 1 (LA.i hg0 hg1), n1, Nat.add_sub_cancel]
  rw [if_neg w6]
  exact (c_off rel wh w3 w5 w6 0 0 0 0).symm
end
