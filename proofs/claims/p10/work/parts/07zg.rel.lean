theorem pigeon : ∀ (n m : Nat) (f : Nat → Nat), (∀ j : Nat, j < m → f j < n) → (∀ j k : Nat, j < k → k < m → ¬ f j = f k) → m ≤ n := by
  intro n
  induction n with
  | zero =>
    intro m f h1 h2
    rcases Nat.eq_zero_or_pos m with q | q
    · omega
    · exact absurd (h1 0 q) (Nat.not_lt_zero _)
  | succ n ih =>
    intro m f h1 h2
    by_cases c : ∃ i : Nat, i < m ∧ f i = n
    · obtain ⟨i, hi, hf⟩ := c
      have key := ih (m - 1) (fun j => if j < i then f j else f (j + 1)) (fun j hj => ?_) (fun j k hjk hk => ?_)
      · omega
      · show (if j < i then f j else f (j + 1)) < n
        by_cases q : j < i
        · rw [if_pos q]
          have := h1 j (by omega)
          have := h2 j i q hi
          omega
        · rw [if_neg q]
          have := h1 (j + 1) (by omega)
          have := h2 i (j + 1) (by omega) (by omega)
          omega
      · show ¬ (if j < i then f j else f (j + 1)) = if k < i then f k else f (k + 1)
        by_cases q : j < i
        · rw [if_pos q]
          by_cases r : k < i
          · rw [if_pos r]
            exact h2 j k hjk (by omega)
          · rw [if_neg r]
            exact h2 j (k + 1) (by omega) (by omega)
        · rw [if_neg q, if_neg (show ¬ k < i by omega)]
          exact h2 (j + 1) (k + 1) (by omega) (by omega)
    · have := ih m f (fun j hj => by
        have h3 := h1 j hj
        have h4 : ¬ f j = n := fun q => c ⟨j, hj, q⟩
        omega) h2
      omega
theorem ofN8 : ∀ k : Nat, k < 9 → (Int32.ofNat k).toInt = (k : Int) := by decide +kernel
section
variable {F : Nat → Int32} {A : Nat → Nat → Int32} {G : Nat → Int32} {B : Nat → Nat → Int32}
def nxt (F : Nat → Int32) (A : Nat → Nat → Int32) (s : Int32) : Int32 := if s = -1 then -1 else (if A 5 s.toNatClampNeg = -1 then -1 else f_Rb_standingOn F A (A 5 s.toNatClampNeg))
def chn (F : Nat → Int32) (A : Nat → Nat → Int32) (pc : Int32) : Nat → Int32
  | 0 => f_Rb_standingOn F A pc
  | k + 1 => nxt F A (chn F A pc k)
def fnd (F : Nat → Int32) (A : Nat → Nat → Int32) (pc rb : Int32) : Nat → Nat → Nat
  | 0, _ => 0
  | m + 1, k => if chn F A pc k = rb then k + 1 else fnd F A pc rb m (k + 1)
theorem chn_m1 {pc : Int32} {k : Nat} (h : chn F A pc k = -1) : ∀ d : Nat, chn F A pc (k + d) = -1 := by
  intro d
  induction d with
  | zero => exact h
  | succ d ih =>
    show nxt F A (chn F A pc (k + d)) = -1
    rw [ih]
    unfold nxt
    rw [if_pos rfl]
theorem fnd_m1 {pc rb : Int32} (hr : ¬ rb = -1) : ∀ (m k : Nat), chn F A pc k = -1 → fnd F A pc rb m k = 0 := by
  intro m
  induction m with
  | zero => intro k h; rfl
  | succ m ih =>
    intro k h
    rw [fnd, if_neg (fun q => hr (q.symm.trans h))]
    exact ih _ (chn_m1 h 1)
theorem fnd_hit {pc rb : Int32} : ∀ (m k i : Nat), k ≤ i → i < k + m → chn F A pc i = rb → (∀ j : Nat, k ≤ j → j < i → ¬ chn F A pc j = rb) → fnd F A pc rb m k = i + 1 := by
  intro m
  induction m with
  | zero => intro k i h1 h2; omega
  | succ m ih =>
    intro k i h1 h2 h3 h4
    rw [fnd]
    by_cases c : k = i
    · rw [c, if_pos h3]
    · rw [if_neg (h4 k (Nat.le_refl _) (by omega))]
      exact ih (k + 1) i (by omega) (by omega) h3 (fun j q r => h4 j (by omega) r)
theorem fnd_get {pc rb : Int32} : ∀ (m k : Nat), ¬ fnd F A pc rb m k = 0 → ∃ i : Nat, k ≤ i ∧ i < k + m ∧ chn F A pc i = rb ∧ (∀ j : Nat, k ≤ j → j < i → ¬ chn F A pc j = rb) ∧ fnd F A pc rb m k = i + 1 := by
  intro m
  induction m with
  | zero => intro k h; exact absurd rfl h
  | succ m ih =>
    intro k h
    rw [fnd] at h ⊢
    by_cases c : chn F A pc k = rb
    · rw [if_pos c]
      exact ⟨k, Nat.le_refl _, by omega, c, fun j q r => by omega, rfl⟩
    · rw [if_neg c] at h ⊢
      obtain ⟨i, h1, h2, h3, h4, h5⟩ := ih _ h
      refine ⟨i, by omega, by omega, h3, fun j q r => ?_, h5⟩
      by_cases w : j = k
      · rw [w]
        exact c
      · exact h4 j (by omega) r
theorem chn_in (hI : CI F) (pc : Int32) (k : Nat) : chn F A pc k = -1 ∨ (0 ≤ (chn F A pc k).toInt ∧ (chn F A pc k).toInt < (F 2).toInt) := by
  cases k with
  | zero => exact stand_in hI pc
  | succ k =>
    show nxt F A (chn F A pc k) = -1 ∨ (0 ≤ (nxt F A (chn F A pc k)).toInt ∧ (nxt F A (chn F A pc k)).toInt < (F 2).toInt)
    unfold nxt
    by_cases c : chn F A pc k = -1
    · rw [if_pos c]; exact Or.inl rfl
    rw [if_neg c]
    by_cases d : A 5 (chn F A pc k).toNatClampNeg = -1
    · rw [if_pos d]; exact Or.inl rfl
    rw [if_neg d]
    exact stand_in hI _
theorem chn_rep {pc : Int32} {j k : Nat} (h : chn F A pc j = chn F A pc k) : ∀ d : Nat, chn F A pc (j + d) = chn F A pc (k + d) := by
  intro d
  induction d with
  | zero => exact h
  | succ d ih =>
    show nxt F A (chn F A pc (j + d)) = nxt F A (chn F A pc (k + d))
    rw [ih]
theorem fnd_short (hI : CI F) {pc rb : Int32} (hr : ¬ rb = -1) : fnd F A pc rb 7 0 = fnd F A pc rb (F 2).toNatClampNeg 0 := by
  obtain ⟨-, ⟨hr0, hr1⟩, -⟩ := id hI
  have t := toN hr0
  by_cases c : fnd F A pc rb 7 0 = 0
  · rw [c]
    by_cases d : fnd F A pc rb (F 2).toNatClampNeg 0 = 0
    · rw [d]
    · obtain ⟨i, h1, h2, h3, h4, h5⟩ := fnd_get _ _ d
      have := fnd_hit 7 0 i h1 (by omega) h3 h4
      omega
  · obtain ⟨i, h1, h2, h3, h4, h5⟩ := fnd_get _ _ c
    have hm : ∀ j : Nat, j ≤ i → ¬ chn F A pc j = -1 := fun j hj q => by
      have := chn_m1 q (i - j)
      rw [show j + (i - j) = i by omega, h3] at this
      exact hr this
    have hin : ∀ j : Nat, j ≤ i → 0 ≤ (chn F A pc j).toInt ∧ (chn F A pc j).toInt < (F 2).toInt := fun j hj => (chn_in hI pc j).resolve_left (hm j hj)
    have hp := pigeon (F 2).toNatClampNeg (i + 1) (fun j => (chn F A pc j).toNatClampNeg) (fun j hj => by
      have h6 := hin j (by omega)
      have h7 := toN h6.1
      show (chn F A pc j).toNatClampNeg < (F 2).toNatClampNeg
      omega) (fun j k hjk hk q => by
      have h6 := hin j (by omega)
      have h7 := hin k (by omega)
      have h8 := toN h6.1
      have h9 := toN h7.1
      have q : (chn F A pc j).toNatClampNeg = (chn F A pc k).toNatClampNeg := q
      have e : chn F A pc j = chn F A pc k := i32_ext (by omega)
      have e2 := chn_rep e (i - k)
      rw [show k + (i - k) = i by omega, h3] at e2
      exact h4 (j + (i - k)) (Nat.zero_le _) (by omega) e2)
    rw [h5, fnd_hit (F 2).toNatClampNeg 0 i h1 (by omega) h3 h4]
theorem ring_eq (hI : CI F) (rb pc : Int32) (hr : ¬ rb = -1) : ∀ (n k : Nat) (w y : Int32), y.toInt = (k : Int) + 1 → LA (F 2) y n → ((w = -1 ∧ chn F A pc k = -1) ∨ (¬ w = -1 ∧ chn F A pc k = f_Rb_standingOn F A w)) → (f_Rb_ringByWaiting_L5 F A rb pc n w y).toInt = (fnd F A pc rb ((F 2).toNatClampNeg - k) k : Int) := by
  obtain ⟨-, ⟨hr0, hr1⟩, -⟩ := id hI
  have t := toN hr0
  intro n
  induction n with
  | zero => intro k w y h1 h; exact h.z.elim
  | succ n ih =>
    intro k w y h1 h hw
    rw [f_Rb_ringByWaiting_L5]
    by_cases c : F 2 < y
    · rw [if_pos c]
      rw [Int32.lt_iff_toInt_lt] at c
      rw [show (F 2).toNatClampNeg - k = 0 by omega]
      rfl
    rw [if_neg c]
    have hs := h.s c (by omega)
    rw [Int32.lt_iff_toInt_lt] at c
    have h2 := add1 (i := y) (by omega) (by omega)
    rcases hw with ⟨hw, hc⟩ | ⟨hw, hc⟩
    · rw [if_pos hw, fnd_m1 hr _ _ hc]
      rfl
    rw [if_neg hw, show (F 2).toNatClampNeg - k = ((F 2).toNatClampNeg - (k + 1)) + 1 by omega, fnd, hc]
    by_cases d : f_Rb_standingOn F A w = rb
    · rw [if_pos d, if_pos d]
      omega
    rw [if_neg d, if_neg d]
    have hn : chn F A pc (k + 1) = nxt F A (f_Rb_standingOn F A w) := by
      show nxt F A (chn F A pc k) = _
      rw [hc]
    unfold nxt at hn
    by_cases e : f_Rb_standingOn F A w = -1
    · rw [if_pos e]
      rw [if_pos e] at hn
      exact ih (k + 1) _ _ (by omega) hs (Or.inl ⟨rfl, hn⟩)
    rw [if_neg e]
    rw [if_neg e] at hn
    by_cases m : A 5 (f_Rb_standingOn F A w).toNatClampNeg = -1
    · rw [if_pos m] at hn
      exact ih (k + 1) _ _ (by omega) hs (Or.inl ⟨m, hn⟩)
    · rw [if_neg m] at hn
      exact ih (k + 1) _ _ (by omega) hs (Or.inr ⟨m, hn⟩)
theorem wait_eq (g3 : G 3 = F 2) (b2 : B 2 = A 2) (b4 : B 4 = A 4) (b5 : B 5 = A 5) (rb pc : Int32) (hr : ¬ rb = -1) : ∀ (n k : Nat) (x s : Int32), x.toInt = (k : Int) + 1 → k ≤ 6 → 7 ≤ k + n → s = chn F A pc k → f_Mo_await_L68 G B rb pc n x s = if fnd F A pc rb (7 - k) k = 0 then (0, uF (uF G 0 0) 0 0, uA B 5 (upd (B 5) rb.toNatClampNeg pc)) else (-(Int32.ofNat (fnd F A pc rb (7 - k) k)), uF (uF G 0 0) 0 0, B) := by
  intro n
  induction n with
  | zero => intro k x s h1 h2 h3; omega
  | succ n ih =>
    intro k x s h1 h2 h3 h4
    have h6 : (6 : Int32).toInt = 6 := rfl
    rw [f_Mo_await_L68, show 7 - k = (7 - (k + 1)) + 1 by omega]
    by_cases c : s = -1
    · rw [if_pos c, if_neg (fun q => hr (q.symm.trans c)), fnd_m1 hr _ _ (h4.symm.trans c), if_pos rfl]
    rw [if_neg c, fnd, ← h4]
    by_cases d : s = rb
    · have e : x = Int32.ofNat (k + 1) := i32_ext (by rw [ofN8 _ (by omega)]; omega)
      rw [if_pos d, if_pos d, if_neg (Nat.succ_ne_zero k), e]
    rw [if_neg d, if_neg d]
    by_cases e : 6 < x
    · rw [if_pos e]
      rw [Int32.lt_iff_toInt_lt] at e
      rw [show 7 - (k + 1) = 0 by omega, fnd, if_pos rfl]
    rw [if_neg e]
    rw [Int32.lt_iff_toInt_lt] at e
    have h7 := add1 (i := x) (by omega) (by omega)
    have hn : chn F A pc (k + 1) = nxt F A s := by
      show nxt F A (chn F A pc k) = _
      rw [← h4]
    unfold nxt at hn
    rw [if_neg c] at hn
    rw [eq_stand (F := F) (A := A) (G := uF (uF G 0 0) 0 0) (B := B) g3 b2 b4]
    have e5 : B 5 s.toNatClampNeg = A 5 s.toNatClampNeg := by rw [b5]
    rw [e5]
    by_cases m : A 5 s.toNatClampNeg = -1
    · rw [if_pos m] at hn
      rw [if_pos m]
      exact ih (k + 1) _ _ (by omega) (by omega) (by omega) hn.symm
    · rw [if_neg m] at hn
      rw [if_neg m]
      exact ih (k + 1) _ _ (by omega) (by omega) (by omega) hn.symm
theorem op_await (rel : LR F A G B) (rb pc : Int32) : RX cm_Lw_await (f_RS_await F A rb pc) (f_Mo_await G B rb pc) := by
  obtain ⟨hI, hn, ⟨g1, g2, g3, g4⟩, ⟨b0, b2, b3, b4, b5, b7, b6, bs⟩, ⟨h8, h9, h10, h11, h12⟩, hz, hat, how, hlk⟩ := id rel
  obtain ⟨-, ⟨hr0, hr1⟩, -⟩ := id hI
  have tr := toN hr0
  unfold f_RS_await f_Mo_await
  rcases needR (A := A) (B := B) hI g3 rb with ⟨e1, e2, r0, r1⟩ | ⟨e1, e2⟩
  · rw [if_pos e1, if_neg e2]
    rcases needP (A := A) (B := B) hI g2 pc with ⟨e1, e2, p0, p1⟩ | ⟨e1, e2⟩
    · rw [if_pos e1, if_neg e2, eq_taken (F := F) (A := A) (G := uF G 0 0) (B := B) g3 b2 b4]
      by_cases c : f_Rb_otherStandsOn F A rb pc = 0
      · rw [if_pos c, if_pos c]
        exact rx_no (rel.thr 0) (by decide) (by decide) rfl
      rw [if_neg c, if_neg c]
      have hr : ¬ rb = -1 := fun q => by
        rw [q] at r0
        exact absurd r0 (by decide)
      have hp : ¬ pc = -1 := fun q => by
        rw [q] at p0
        exact absurd p0 (by decide)
      have q1 := ring_eq (A := A) hI rb pc hr 64 0 pc 1 rfl (LA.i hr0 (by omega)) (Or.inr ⟨hp, rfl⟩)
      have q2 := wait_eq (F := F) (A := A) (G := G) (B := B) g3 b2 b4 b5 rb pc hr 64 0 1 (f_Mo_standing (uF (uF G 0 0) 0 0) B pc) rfl (by omega) (by omega) (eq_stand (F := F) (A := A) (G := uF (uF G 0 0) 0 0) (B := B) g3 b2 b4 pc)
      rw [q2, Nat.sub_zero, fnd_short hI hr]
      rw [Nat.sub_zero] at q1
      unfold f_Rb_ringByWaiting
      have hb : fnd F A pc rb (F 2).toNatClampNeg 0 < 9 := by
        by_cases z : fnd F A pc rb (F 2).toNatClampNeg 0 = 0
        · omega
        · obtain ⟨i, h1, h2, h3, h4, h5⟩ := fnd_get _ _ z
          omega
      have q3 : f_Rb_ringByWaiting_L5 F A rb pc 64 pc 1 = Int32.ofNat (fnd F A pc rb (F 2).toNatClampNeg 0) := i32_ext (by rw [q1, ofN8 _ hb])
      by_cases z : fnd F A pc rb (F 2).toNatClampNeg 0 = 0
      · have z1 : f_Rb_ringByWaiting_L5 F A rb pc 64 pc 1 = 0 := by
          rw [q3, z]
          rfl
        rw [if_pos z, if_pos z1, z1]
        exact rx_ok rfl rfl (((rel.thr 0).thr 0).wt _ _)
      · have z1 : ¬ f_Rb_ringByWaiting_L5 F A rb pc 64 pc 1 = 0 := fun q => z (by
          have q4 := congrArg Int32.toInt q
          rw [q1] at q4
          have q4 : (fnd F A pc rb (F 2).toNatClampNeg 0 : Int) = 0 := q4
          omega)
        rw [if_neg z, if_neg z1, q3]
        exact rx_ok rfl rfl ((rel.thr 0).thr 0)
    · rw [if_neg (nz e1), if_pos e2, e1]
      exact rx_no rel (by decide) (by decide) rfl
  · rw [if_neg (nz e1), if_pos e2, e1]
    exact rx_no rel (by decide) (by decide) rfl
end
