section
variable {F : Nat → Int32} {A : Nat → Nat → Int32} {G : Nat → Int32} {B : Nat → Nat → Int32}
def askA (b : Nat → Nat → Int32) (k : Nat) (rb pc fr tt pr : Int32) : Nat → Nat → Int32 := uA (uA (uA (uA (uA b 8 (upd (b 8) k rb)) 9 (upd (b 9) k pc)) 10 (upd (b 10) k fr)) 11 (upd (b 11) k tt)) 12 (upd (b 12) k pr)
theorem LR.out (rel : LR F A G B) (rb pc fr tt pr : Int32) : LR F A G (askA B (F 3 + 1).toNatClampNeg rb pc fr tt pr) := by
  obtain ⟨hI, hn, ⟨g1, g2, g3, g4⟩, ⟨b0, b2, b3, b4, b5, b7, b6, bs⟩, ⟨h8, h9, h10, h11, h12⟩, hz, hat, how, hlk⟩ := id rel
  obtain ⟨-, -, hg0, hg1⟩ := id hI
  exact ⟨hI, hn, ⟨g1, g2, g3, g4⟩, ⟨b0, b2, b3, b4, b5, b7, b6, bs⟩, ⟨eqg_out hg0 hg1 h8, eqg_out hg0 hg1 h9, eqg_out hg0 hg1 h10, eqg_out hg0 hg1 h11, eqg_out hg0 hg1 h12⟩, hz, hat, how, hlk⟩
theorem LR.inn (rel : LR F A G B) (rb pc fr tt pr : Int32) (h : (F 3).toInt < 60) (hr : 0 ≤ rb.toInt ∧ rb.toInt < (F 2).toInt) : LR (uF F 3 (F 3 + 1)) (askA A (F 3 + 1).toNatClampNeg rb pc fr tt pr) (uF G 4 (F 3 + 1)) (askA B (F 3 + 1).toNatClampNeg rb pc fr tt pr) := by
  obtain ⟨hI, hn, ⟨g1, g2, g3, g4⟩, ⟨b0, b2, b3, b4, b5, b7, b6, bs⟩, ⟨h8, h9, h10, h11, h12⟩, hz, hat, how, hlk⟩ := id rel
  obtain ⟨hp, hr9, hg0, hg1⟩ := id hI
  have k := add1 (i := F 3) (by omega) (by omega)
  refine ⟨⟨hp, hr9, ?_, ?_⟩, hn, ⟨g1, g2, g3, rfl⟩, ⟨b0, b2, b3, b4, b5, b7, b6, bs⟩, ⟨eqg_in hg0 hg1 h8, eqg_in hg0 hg1 h9, eqg_in hg0 hg1 h10, eqg_in hg0 hg1 h11, eqg_in hg0 hg1 h12⟩, hz, hat, owr_in hg0 hg1 how hr, hlk⟩
  · show 0 ≤ (F 3 + 1).toInt
    omega
  · show (F 3 + 1).toInt ≤ 60
    omega
set_option maxRecDepth 100000 in
theorem ask_core (rel : LR F A G B) (B0 : Nat → Nat → Int32) (rb pc fr tt pr : Int32) (h : (F 3).toInt < 60) (hr : 0 ≤ rb.toInt ∧ rb.toInt < (F 2).toInt) : RX cm_Lw_ask (if f_RS_firstBar F A rb pc fr tt pr = 0 then (0, (f_Gr_add ((f_Gr_takeFromOthers F A rb pc fr tt).2.1) ((f_Gr_takeFromOthers F A rb pc fr tt).2.2) rb pc fr tt pr).1, ((f_Gr_add ((f_Gr_takeFromOthers F A rb pc fr tt).2.1) ((f_Gr_takeFromOthers F A rb pc fr tt).2.2) rb pc fr tt pr).2.1), ((f_Gr_add ((f_Gr_takeFromOthers F A rb pc fr tt).2.1) ((f_Gr_takeFromOthers F A rb pc fr tt).2.2) rb pc fr tt pr).2.2)) else (0, -(f_RS_firstBar F A rb pc fr tt pr), F, A)) (f_Mo_ask_L204 G B0 rb pc fr tt pr (askA B (G 4 + 1).toNatClampNeg rb pc fr tt pr) 64 1) := by
  obtain ⟨hI, hn, ⟨g1, g2, g3, g4⟩, ⟨b0, b2, b3, b4, b5, b7, b6, bs⟩, ⟨h8, h9, h10, h11, h12⟩, hz, hat, how, hlk⟩ := id rel
  obtain ⟨-, -, hg0, hg1⟩ := id hI
  obtain ⟨C, hC⟩ : ∃ C, C = askA B (G 4 + 1).toNatClampNeg rb pc fr tt pr := ⟨_, rfl⟩
  have rel2 := rel.out rb pc fr tt pr
  have hCA : CAR F A C (G 4 + 1).toNatClampNeg rb pc fr tt := by
    rw [hC]
    refine ⟨?_, upd_at, upd_at, upd_at, upd_at⟩
    rw [g4]
    exact rel2.2.2.2.2.1
  have e13 : C 13 = A 13 := by rw [hC]; exact bs
  rw [← hC, bars (B := B0) hI g1 g4 C rb pc fr tt pr hCA e13 64 1 (LA.i hg0 hg1)]
  show RX cm_Lw_ask (if f_RS_firstBar_L3 F A rb pc fr tt pr 64 1 = 0 then _ else _) _
  by_cases c : f_RS_firstBar_L3 F A rb pc fr tt pr 64 1 = 0
  · rw [if_pos c, if_pos c]
    obtain ⟨s2, t1, t2⟩ := takes (A := A) hI g4 C A B0 rb pc fr tt pr hCA 64 (A 13) 1 (LA.i hg0 hg1)
    rw [uA_self rfl] at t1
    rw [uA_self e13] at t2
    have t1 : f_Gr_takeFromOthers F A rb pc fr tt = (0, F, uA A 13 s2) := t1
    rw [t1, t2]
    have rel3 := (((rel.stt s2).inn rb pc fr tt pr h hr).stt (upd s2 (F 3 + 1).toNatClampNeg 0)).thr 0
    obtain ⟨x1, x2, ⟨x3, x4, x5, x6⟩, ⟨y0, y2, y3, y4, y5, y7, y6, ys⟩, ⟨z8, z9, z10, z11, z12⟩, u1, u2, u3, u4⟩ := rel3
    rw [hC, g4]
    exact rx_ok rfl rfl ⟨x1, x2, ⟨x3, x4, x5, x6⟩, ⟨y0, y2, y3, y4, y5, y7, y6, ys⟩, ⟨z8, z9, z10, z11, z12⟩, u1, u2, u3, u4⟩
  · rw [if_neg c, if_neg c]
    rw [hC, g4]
    exact rx_ok rfl rfl ((rel2.thr 0).thr 0)
theorem act (g1 : G 1 = F 0) (b7 : B 7 = A 6) (b6 : B 6 = A 7) (rb : Int32) : (f_RS_needActive F A rb = 0 ∧ B 7 rb.toNatClampNeg = 0 ∧ f_Mo_isSilent (uF G 0 0) B rb = 0) ∨ (f_RS_needActive F A rb = 3 ∧ B 7 rb.toNatClampNeg = 0 ∧ ¬ f_Mo_isSilent (uF G 0 0) B rb = 0) ∨ (f_RS_needActive F A rb = 3 ∧ ¬ B 7 rb.toNatClampNeg = 0) := by
  rw [eq_silent (F := F) (A := A) (G := uF G 0 0) (B := B) g1 b6 rb, b7]
  unfold f_RS_needActive
  by_cases c : A 6 rb.toNatClampNeg = 0
  · rw [if_pos c]
    by_cases d : f_Rb_isSilent F A rb (F 0) = 0
    · rw [if_pos d]; exact Or.inl ⟨rfl, c, d⟩
    · rw [if_neg d]; exact Or.inr (Or.inl ⟨rfl, c, d⟩)
  · rw [if_neg c]; exact Or.inr (Or.inr ⟨rfl, c⟩)
set_option maxRecDepth 100000 in
theorem op_ask (rel : LR F A G B) (rb pc fr tt pr : Int32) : RX cm_Lw_ask (f_RS_ask F A rb pc fr tt pr) (f_Mo_ask G B rb pc fr tt pr) := by
  obtain ⟨hI, hn, ⟨g1, g2, g3, g4⟩, ⟨b0, b2, b3, b4, b5, b7, b6, bs⟩, ⟨h8, h9, h10, h11, h12⟩, hz, hat, how, hlk⟩ := id rel
  obtain ⟨-, -, hg0, hg1⟩ := id hI
  have h60 : (60 : Int32).toInt = 60 := rfl
  unfold f_RS_ask f_Mo_ask
  rcases needR (A := A) (B := B) hI g3 rb with ⟨e1, e2, r0, r1⟩ | ⟨e1, e2⟩
  · rw [if_pos e1, if_neg e2]
    rcases needP (A := A) (B := B) hI g2 pc with ⟨e1, e2, p0, p1⟩ | ⟨e1, e2⟩
    · rw [if_pos e1, if_neg e2]
      rcases needS (A := A) hn g1 fr tt with ⟨e1, e2⟩ | ⟨e1, e2, e3⟩ | ⟨e1, e2, e3, e4⟩ | ⟨e1, e2, e3, e4⟩
      · rw [if_neg (nz e1), if_pos e2, e1]
        exact rx_no rel (by decide) (by decide) rfl
      · rw [if_neg (nz e1), if_neg e2, if_pos e3, e1]
        exact rx_no rel (by decide) (by decide) rfl
      · rw [if_neg (nz e1), if_neg e2, if_neg e3, if_pos e4, e1]
        exact rx_no rel (by decide) (by decide) rfl
      rw [if_pos e1, if_neg e2, if_neg e3, if_neg e4]
      rcases needO (F := F) (A := A) pr with ⟨e1, e2⟩ | ⟨e1, e2⟩
      · rw [if_pos e1, if_neg e2]
        rcases act (F := F) (A := A) (G := G) (B := B) g1 b7 b6 rb with ⟨e1, e2, e3⟩ | ⟨e1, e2, e3⟩ | ⟨e1, e2⟩
        · rw [if_pos e1, if_pos e2, if_pos e3]
          by_cases c : F 3 < 60
          · have c2 : ¬ G 4 = 60 := fun q => by
              rw [← g4, q] at c
              exact absurd c (by decide)
            rw [if_pos c, if_neg c2]
            rw [Int32.lt_iff_toInt_lt, h60] at c
            have relA := rel.rep rb.toNatClampNeg
            generalize uA A 7 (upd (A 7) rb.toNatClampNeg (F 0)) = a at relA ⊢
            generalize uA B 6 (upd (B 6) rb.toNatClampNeg (G 1)) = b at relA ⊢
            obtain ⟨-, -, -, ⟨f0, f2, -, f4, -⟩, -⟩ := id relA
            rw [f0, eq_taken (F := F) (A := a) (G := uF (uF G 0 0) 0 0) (B := b) g3 f2 f4]
            by_cases d : a 1 pc.toNatClampNeg = 0
            · rw [if_pos d, if_pos d]
              by_cases k : f_Rb_otherStandsOn F a rb pc = 0
              · rw [if_pos k, if_pos k]
                obtain ⟨k, hk⟩ : ∃ k, k = (G 4 + 1).toNatClampNeg := ⟨_, rfl⟩
                rw [← hk]
                obtain ⟨c8, hc8⟩ : ∃ z, z = uA b 8 (upd (b 8) k rb) := ⟨_, rfl⟩
                rw [← hc8]
                obtain ⟨c9, hc9⟩ : ∃ z, z = uA c8 9 (upd (c8 9) k pc) := ⟨_, rfl⟩
                rw [← hc9]
                obtain ⟨c10, hc10⟩ : ∃ z, z = uA c9 10 (upd (c9 10) k fr) := ⟨_, rfl⟩
                rw [← hc10]
                obtain ⟨c11, hc11⟩ : ∃ z, z = uA c10 11 (upd (c10 11) k tt) := ⟨_, rfl⟩
                rw [← hc11]
                obtain ⟨c12, hc12⟩ : ∃ z, z = uA c11 12 (upd (c11 12) k pr) := ⟨_, rfl⟩
                rw [← hc12]
                have n9 : c8 9 = b 9 := by
                  rw [hc8, show uA b 8 (upd (b 8) k rb) 9 = b 9 from rfl]
                have n10 : c9 10 = b 10 := by
                  rw [hc9, show uA c8 9 (upd (c8 9) k pc) 10 = c8 10 from rfl]
                  rw [hc8, show uA b 8 (upd (b 8) k rb) 10 = b 10 from rfl]
                have n11 : c10 11 = b 11 := by
                  rw [hc10, show uA c9 10 (upd (c9 10) k fr) 11 = c9 11 from rfl]
                  rw [hc9, show uA c8 9 (upd (c8 9) k pc) 11 = c8 11 from rfl]
                  rw [hc8, show uA b 8 (upd (b 8) k rb) 11 = b 11 from rfl]
                have n12 : c11 12 = b 12 := by
                  rw [hc11, show uA c10 11 (upd (c10 11) k tt) 12 = c10 12 from rfl]
                  rw [hc10, show uA c9 10 (upd (c9 10) k fr) 12 = c9 12 from rfl]
                  rw [hc9, show uA c8 9 (upd (c8 9) k pc) 12 = c8 12 from rfl]
                  rw [hc8, show uA b 8 (upd (b 8) k rb) 12 = b 12 from rfl]
                rw [n9] at hc9
                rw [n10] at hc10
                rw [n11] at hc11
                rw [n12] at hc12
                have hc : c12 = askA b (G 4 + 1).toNatClampNeg rb pc fr tt pr := by
                  unfold askA
                  rw [hc12, hc11, hc10, hc9, hc8, hk]
                rw [hc]
                exact ask_core relA B rb pc fr tt pr c ⟨r0, r1⟩
              · rw [if_neg k, if_neg k]
                exact rx_ok rfl rfl ((relA.thr 0).thr 0)
            · rw [if_neg d, if_neg d]
              exact rx_ok rfl rfl ((relA.thr 0).thr 0)
          · have c2 : G 4 = 60 := i32_ext (by rw [Int32.lt_iff_toInt_lt] at c; rw [g4]; omega)
            rw [if_neg c, if_pos c2]
            exact rx_no (rel.thr 0) (by decide) (by decide) rfl
        · rw [if_neg (nz e1), if_pos e2, if_neg e3, e1]
          exact rx_no (rel.thr 0) (by decide) (by decide) rfl
        · rw [if_neg (nz e1), if_neg e2, e1]
          exact rx_no (rel.thr 0) (by decide) (by decide) rfl
      · rw [if_neg (nz e1), if_pos e2, e1]
        exact rx_no rel (by decide) (by decide) rfl
    · rw [if_neg (nz e1), if_pos e2, e1]
      exact rx_no rel (by decide) (by decide) rfl
  · rw [if_neg (nz e1), if_pos e2, e1]
    exact rx_no rel (by decide) (by decide) rfl
def mvB (b : Nat → Nat → Int32) (i : Nat) (pc : Int32) : Nat → Nat → Int32 := if b 3 i = 0 then uA (uA (uA b 4 (upd (b 4) i (-1))) 2 (upd (b 2) i pc)) 5 (upd (b 5) i (-1)) else uA (uA (uA b 4 (upd (b 4) i (b 2 i))) 2 (upd (b 2) i pc)) 5 (upd (b 5) i (-1))
theorem mvN {b : Nat → Nat → Int32} {i : Nat} {v pc : Int32} : uA (uA (uA b 4 (upd (b 4) i v)) 2 (upd ((uA b 4 (upd (b 4) i v)) 2) i pc)) 5 (upd ((uA (uA b 4 (upd (b 4) i v)) 2 (upd ((uA b 4 (upd (b 4) i v)) 2) i pc)) 5) i (-1)) = uA (uA (uA b 4 (upd (b 4) i v)) 2 (upd (b 2) i pc)) 5 (upd (b 5) i (-1)) := rfl
theorem mv_eq (rb pc : Int32) : f_Rb_moveTo F A rb pc = (0, F, mvB A rb.toNatClampNeg pc) := by
  unfold f_Rb_moveTo mvB
  by_cases c : A 3 rb.toNatClampNeg = 0
  · rw [if_pos c, if_pos c]
    rfl
  · rw [if_neg c, if_neg c]
    rfl
theorem LR.mv (rel : LR F A G B) (i : Nat) (pc : Int32) (hv : 0 ≤ pc.toInt ∧ pc.toInt < (F 1).toInt) : LR F (mvB A i pc) G (mvB B i pc) := by
  obtain ⟨hI, hn, ⟨g1, g2, g3, g4⟩, ⟨b0, b2, b3, b4, b5, b7, b6, bs⟩, ⟨h8, h9, h10, h11, h12⟩, hz, hat, how, hlk⟩ := id rel
  have e3 : B 3 i = A 3 i := by rw [b3]
  have e2 : B 2 i = A 2 i := by rw [b2]
  unfold mvB
  rw [e3, e2]
  by_cases c : A 3 i = 0
  · rw [if_pos c, if_pos c]
    exact ((rel.tp i (-1)).pl i pc hv).wt i (-1)
  · rw [if_neg c, if_neg c]
    exact ((rel.tp i (A 2 i)).pl i pc hv).wt i (-1)
set_option maxRecDepth 100000 in
theorem begun (hI : CI F) (g1 : G 1 = F 0) (g4 : G 4 = F 3) (bs : B 13 = A 13) (h8 : EQG (F 3) (A 8) (B 8)) (h9 : EQG (F 3) (A 9) (B 9)) (h10 : EQG (F 3) (A 10) (B 10)) (B0 : Nat → Nat → Int32) (rb pc : Int32) : ∀ (n : Nat) (y : Int32), LA (F 3) y n → f_Mo_step_L102 G B0 rb pc B n y = if f_Gr_firstBegun_L3 F A rb pc (F 0) n y = 0 then (0, uF (uF G 0 0) 0 0, B) else (if f_Mo_isTaken (uF (uF G 0 0) 0 0) B rb pc = 0 then (f_Gr_firstBegun_L3 F A rb pc (F 0) n y, uF (uF G 0 0) 0 0, mvB (uA B 13 (upd (B 13) (f_Gr_firstBegun_L3 F A rb pc (F 0) n y).toNatClampNeg 1)) rb.toNatClampNeg pc) else (-1, uF (uF G 0 0) 0 0, B)) := by
  obtain ⟨-, -, hg0, hg1⟩ := hI
  intro n
  induction n with
  | zero => intro y h; exact h.z.elim
  | succ n ih =>
    intro y h
    rw [f_Mo_step_L102, f_Gr_firstBegun_L3, g4]
    by_cases c : F 3 < y
    · rw [if_pos c, if_pos c, if_pos rfl]
    rw [if_neg c, if_neg c]
    have hs := h.s c hg1
    have e8 := h8 _ h.one (h.le c)
    have e9 := h9 _ h.one (h.le c)
    have e10 := h10 _ h.one (h.le c)
    have e13 : B 13 y.toNatClampNeg = A 13 y.toNatClampNeg := by rw [bs]
    have L : f_Gr_isLiveOf F A y rb = 0 ↔ (¬ A 13 y.toNatClampNeg = 0 ∨ ¬ A 8 y.toNatClampNeg = rb) := nlo
    have M : f_Gr_hasBegun F A y (F 0) = 0 ↔ F 0 < A 10 y.toNatClampNeg := nhb
    have hy : ¬ y = 0 := fun q => by
      have h1 := h.1
      rw [q] at h1
      exact absurd h1 (by decide)
    rw [e8, e9, e10, e13, g1]
    by_cases d : A 8 y.toNatClampNeg = rb
    · rw [if_pos d]
      by_cases e : A 13 y.toNatClampNeg = 0
      · rw [if_pos e, if_neg (fun q => (L.mp q).elim (fun k => k e) (fun k => k d))]
        by_cases k : A 9 y.toNatClampNeg = pc
        · rw [if_pos k, if_pos k]
          by_cases m : F 0 < A 10 y.toNatClampNeg
          · rw [if_neg (Int32.not_le.mpr m), if_pos (M.mpr m)]; exact ih _ hs
          · rw [if_pos (Int32.not_lt.mp m), if_neg (fun q => m (M.mp q)), if_neg hy]
            by_cases t : f_Mo_isTaken (uF (uF G 0 0) 0 0) B rb pc = 0
            · rw [if_pos t, if_pos t]
              generalize uA B 13 (upd (B 13) y.toNatClampNeg 1) = b
              unfold mvB
              by_cases w : b 3 rb.toNatClampNeg = 0
              · rw [if_pos w, if_pos w, mvN]
              · rw [if_neg w, if_neg w, mvN]
            · rw [if_neg t, if_neg t]
        · rw [if_neg k, if_neg k]; exact ih _ hs
      · rw [if_neg e, ite_self, if_pos (L.mpr (Or.inl e))]; exact ih _ hs
    · rw [if_neg d, if_pos (L.mpr (Or.inr d))]; exact ih _ hs
set_option maxRecDepth 100000 in
theorem op_step (rel : LR F A G B) (rb pc : Int32) : RX cm_Lw_step (f_RS_step F A rb pc) (f_Mo_step G B rb pc) := by
  obtain ⟨hI, hn, ⟨g1, g2, g3, g4⟩, ⟨b0, b2, b3, b4, b5, b7, b6, bs⟩, ⟨h8, h9, h10, h11, h12⟩, hz, hat, how, hlk⟩ := id rel
  obtain ⟨⟨hp0, hp1⟩, ⟨hr0, hr1⟩, hg0, hg1⟩ := id hI
  unfold f_RS_step f_Mo_step
  rcases needR (A := A) (B := B) hI g3 rb with ⟨e1, e2, r0, r1⟩ | ⟨e1, e2⟩
  · rw [if_pos e1, if_neg e2]
    rcases needP (A := A) (B := B) hI g2 pc with ⟨e1, e2, p0, p1⟩ | ⟨e1, e2⟩
    · rw [if_pos e1, if_neg e2]
      have tr := toN r0
      have hq := hat rb.toNatClampNeg (by omega)
      have e2 : B 2 rb.toNatClampNeg = A 2 rb.toNatClampNeg := by rw [b2]
      rw [e2]
      have hK := lk_step (F := F) (A := A) (B := B) hlk (A 2 rb.toNatClampNeg) pc hq.1 (by omega) p0 (by omega)
      by_cases c : f_RS_areLinked F A pc (A 2 rb.toNatClampNeg) = 0
      · rw [if_pos c, if_pos (hK.mpr c)]
        exact rx_no (rel.thr 0) (by decide) (by decide) rfl
      rw [if_neg c, if_neg (fun q => c (hK.mp q))]
      rcases act (F := F) (A := A) (G := G) (B := B) g1 b7 b6 rb with ⟨e1, e2, e3⟩ | ⟨e1, e2, e3⟩ | ⟨e1, e2⟩
      · rw [if_pos e1, if_pos e2, if_pos e3]
        have relA := rel.rep rb.toNatClampNeg
        generalize uA A 7 (upd (A 7) rb.toNatClampNeg (F 0)) = a at relA ⊢
        generalize uA B 6 (upd (B 6) rb.toNatClampNeg (G 1)) = b at relA ⊢
        obtain ⟨-, -, -, ⟨f0, f2, -, f4, -, -, -, fs⟩, ⟨f8, f9, f10, -⟩, -⟩ := id relA
        rw [begun (A := a) hI g1 g4 fs f8 f9 f10 B rb pc 64 1 (LA.i hg0 hg1), eq_taken (F := F) (A := a) (G := uF (uF G 0 0) 0 0) (B := b) g3 f2 f4]
        unfold f_Gr_firstBegun
        by_cases d : f_Gr_firstBegun_L3 F a rb pc (F 0) 64 1 = 0
        · rw [if_pos d, if_pos d]
          exact rx_ok rfl rfl ((relA.thr 0).thr 0)
        rw [if_neg d, if_neg d]
        by_cases k : f_Rb_otherStandsOn F a rb pc = 0
        · rw [if_pos k, if_pos k, mv_eq, fs]
          exact rx_ok rfl rfl ((((relA.thr 0).thr 0).stt _).mv _ _ ⟨p0, p1⟩)
        · rw [if_neg k, if_neg k]
          exact rx_ok rfl rfl ((relA.thr 0).thr 0)
      · rw [if_neg (nz e1), if_pos e2, if_neg e3, e1]
        exact rx_no (rel.thr 0) (by decide) (by decide) rfl
      · rw [if_neg (nz e1), if_neg e2, e1]
        exact rx_no (rel.thr 0) (by decide) (by decide) rfl
    · rw [if_neg (nz e1), if_pos e2, e1]
      exact rx_no rel (by decide) (by decide) rfl
  · rw [if_neg (nz e1), if_pos e2, e1]
    exact rx_no rel (by decide) (by decide) rfl
theorem next_off (pc : Int32) (n : Nat) (x y : Int32) : f_Mo_next_L21 G B pc (n + 1) x y = (0, uF G 0 1, B) := by
  rw [f_Mo_next_L21, ite_self]
theorem next_eq (rel : LR F A G B) (pc : Int32) : ∀ (n : Nat) (x p y : Int32), LB (F 2) y n → ((x = -1 ∧ p = -1) ∨ (¬ x = -1 ∧ p = f_Gr_greatestPriority F A x pc)) → RX cm_Lw_next (f_RS_next_L12 F A pc n x p y) (f_Mo_next_L21b G B pc n x y) := by
  obtain ⟨hI, hn, ⟨g1, g2, g3, g4⟩, ⟨b0, b2, b3, b4, b5, b7, b6, bs⟩, ⟨h8, h9, h10, h11, h12⟩, hz, hat, how, hlk⟩ := id rel
  obtain ⟨-, ⟨hr0, hr1⟩, -⟩ := id hI
  intro n
  induction n with
  | zero => intro x p y h; exact h.z.elim
  | succ n ih =>
    intro x p y h hx
    have e5 : B 5 y.toNatClampNeg = A 5 y.toNatClampNeg := by rw [b5]
    have q1 := eq_best (F := F) (A := A) (G := uF G 0 0) (B := B) hI g4 bs h8 h9 h12 x pc
    have q2 := eq_best (F := F) (A := A) (G := uF G 0 0) (B := B) hI g4 bs h8 h9 h12 y pc
    rw [f_RS_next_L12, f_Mo_next_L21b, g3, e5, q1, q2]
    by_cases c : F 2 ≤ y
    · rw [if_pos c, if_pos c]
      exact rx_ok rfl rfl (rel.thr 0)
    rw [if_neg c, if_neg c]
    have hs := h.s c (by omega)
    have hy : ¬ y = -1 := fun q => by
      have h1 := h.1
      rw [q] at h1
      exact absurd h1 (by decide)
    by_cases d : A 5 y.toNatClampNeg = pc
    · rw [if_pos d, if_pos d]
      rcases hx with ⟨hx, hp⟩ | ⟨hx, hp⟩
      · have hb := best_nn (A := A) hI y pc
        have hc : ¬ f_Gr_greatestPriority F A y pc ≤ p := by
          rw [hp, Int32.le_iff_toInt_le, show (-1 : Int32).toInt = -1 from rfl]
          omega
        rw [if_neg hc, if_pos hx]
        exact ih _ _ _ hs (Or.inr ⟨hy, rfl⟩)
      · rw [if_neg hx, hp]
        by_cases k : f_Gr_greatestPriority F A y pc ≤ f_Gr_greatestPriority F A x pc
        · rw [if_pos k, if_pos k]
          exact ih _ _ _ hs (Or.inr ⟨hx, rfl⟩)
        · rw [if_neg k, if_neg k]
          exact ih _ _ _ hs (Or.inr ⟨hy, rfl⟩)
    · rw [if_neg d, if_neg d]
      exact ih _ _ _ hs hx
theorem op_next (rel : LR F A G B) (pc : Int32) : RX cm_Lw_next (f_RS_next F A pc) (f_Mo_next G B pc) := by
  obtain ⟨hI, hn, ⟨g1, g2, g3, g4⟩, ⟨b0, b2, b3, b4, b5, b7, b6, bs⟩, ⟨h8, h9, h10, h11, h12⟩, hz, hat, how, hlk⟩ := id rel
  obtain ⟨-, ⟨hr0, hr1⟩, -⟩ := id hI
  unfold f_RS_next f_Mo_next
  rcases needP (A := A) (B := B) hI g2 pc with ⟨e1, e2, p0, p1⟩ | ⟨e1, e2⟩
  · rw [if_pos e1, if_neg e2]
    exact next_eq rel pc 64 _ _ _ (LB.i hr0 (by omega)) (Or.inl ⟨rfl, rfl⟩)
  · rw [if_neg (nz e1), if_pos e2, e1, next_off _ 63]
    exact rx_no rel (by decide) (by decide) rfl
theorem holder_st (pc tm : Int32) (hI : CI F) (g4 : G 4 = F 3) : ∀ (n : Nat) (y : Int32), LA (F 3) y n → (f_Mo_holder_L61 G B pc tm n y).2 = (uF G 0 0, B) := by
  obtain ⟨-, -, hg0, hg1⟩ := hI
  intro n
  induction n with
  | zero => intro y h; exact h.z.elim
  | succ n ih =>
    intro y h
    rw [f_Mo_holder_L61, g4]
    by_cases c : F 3 < y
    · rw [if_pos c]
    rw [if_neg c]
    have hs := ih _ (h.s c hg1)
    repeat' split
    all_goals first | exact hs | rfl
theorem sim_holder (rel : LR F A G B) (pc tm : Int32) : LR (f_RS_holder F A pc tm).2.2.1 (f_RS_holder F A pc tm).2.2.2 (f_Mo_holder G B pc tm).2.1 (f_Mo_holder G B pc tm).2.2 := by
  obtain ⟨hI, hn, ⟨g1, g2, g3, g4⟩, ⟨b0, b2, b3, b4, b5, b7, b6, bs⟩, ⟨h8, h9, h10, h11, h12⟩, hz, hat, how, hlk⟩ := id rel
  obtain ⟨-, -, hg0, hg1⟩ := id hI
  have h1 : (f_RS_holder F A pc tm).2.2 = (F, A) := by
    unfold f_RS_holder
    repeat' split
    all_goals rfl
  have hs := holder_st (B := B) pc tm hI g4 64 1 (LA.i hg0 hg1)
  have h2 : ∃ c : Int32, (f_Mo_holder G B pc tm).2 = (uF G 0 c, B) := by
    unfold f_Mo_holder
    repeat' split
    all_goals first | exact ⟨_, hs⟩ | exact ⟨_, rfl⟩
  obtain ⟨c, h2⟩ := h2
  rw [h1, h2]
  exact rel.thr c
end
