section
variable {F : Nat → Int32} {A : Nat → Nat → Int32} {G : Nat → Int32} {B : Nat → Nat → Int32}
theorem op_piece (rel : LR F A G B) : RX cm_Lw_piece (f_RS_piece F A) (f_Mo_piece G B) := by
  obtain ⟨hI, hn, ⟨g1, g2, g3, g4⟩, ⟨b0, b2, b3, b4, b5, b7, b6, bs⟩, ⟨h8, h9, h10, h11, h12⟩, hz, hat, how, hlk⟩ := id rel
  obtain ⟨⟨hp0, hp1⟩, hr, hg⟩ := id hI
  have h16 : (16 : Int32).toInt = 16 := rfl
  unfold f_RS_piece f_Mo_piece
  rw [g2]
  by_cases c : F 1 < 16
  · have c2 : ¬ F 1 = 16 := fun q => by
      rw [q] at c
      exact absurd c (by decide)
    rw [if_pos c, if_neg c2]
    rw [Int32.lt_iff_toInt_lt] at c
    have k := add1 (i := F 1) (by omega) (by omega)
    refine rx_ok rfl rfl ⟨⟨⟨?_, ?_⟩, hr, hg⟩, hn, ⟨g1, rfl, g3, g4⟩, ⟨b0, b2, b3, b4, b5, b7, b6, bs⟩, ⟨h8, h9, h10, h11, h12⟩, hz, ?_, how, hlk.1, hlk.2.1, ?_⟩
    · show 0 ≤ (F 1 + 1).toInt
      omega
    · show (F 1 + 1).toInt ≤ 16
      omega
    · intro j hj
      have := hat j hj
      show 0 ≤ (A 2 j).toInt ∧ (A 2 j).toInt < (F 1 + 1).toInt
      omega
    · intro p q h1 h2
      have h2 : (F 1 + 1).toInt ≤ (q : Int) := h2
      exact hlk.2.2 p q h1 (by omega)
  · have c2 : F 1 = 16 := i32_ext (by rw [Int32.lt_iff_toInt_lt] at c; omega)
    rw [if_neg c, if_pos c2]
    exact rx_no rel (by decide) (by decide) rfl
theorem op_robot (rel : LR F A G B) (pc tl : Int32) : RX cm_Lw_robot (f_RS_robot F A pc tl) (f_Mo_robot G B pc tl) := by
  obtain ⟨hI, hn, ⟨g1, g2, g3, g4⟩, ⟨b0, b2, b3, b4, b5, b7, b6, bs⟩, ⟨h8, h9, h10, h11, h12⟩, hz, hat, how, hlk⟩ := id rel
  obtain ⟨hp, ⟨hr0, hr1⟩, hg⟩ := id hI
  have h6 : (6 : Int32).toInt = 6 := rfl
  have hs := eq_stand (F := F) (A := A) (G := uF G 0 0) (B := B) g3 b2 b4 pc
  have e0 : B 0 pc.toNatClampNeg = A 1 pc.toNatClampNeg := by rw [b0]
  unfold f_RS_robot f_Mo_robot
  rcases needP (A := A) (B := B) hI g2 pc with ⟨e1, e2, p0, p1⟩ | ⟨e1, e2⟩
  · rw [if_pos e1, if_neg e2, hs, e0, g3, g1]
    by_cases c2 : f_Rb_standingOn F A pc = -1
    · rw [if_pos c2, if_pos c2]
      by_cases c1 : A 1 pc.toNatClampNeg = 0
      · rw [if_pos c1, if_pos c1]
        by_cases c3 : F 2 < 6
        · have c4 : ¬ F 2 = 6 := fun q => by
            rw [q] at c3
            exact absurd c3 (by decide)
          rw [if_pos c3, if_neg c4]
          rw [Int32.lt_iff_toInt_lt] at c3
          have k := add1 (i := F 2) (by omega) (by omega)
          have t := toN (i := F 2) hr0
          refine rx_ok rfl (Int32.add_sub_cancel _ _) ⟨⟨hp, ⟨?_, ?_⟩, hg⟩, hn, ⟨g1, g2, rfl, g4⟩, ⟨b0, upd_eq b2 rfl, upd_eq b3 rfl, upd_eq b4 rfl, upd_eq b5 rfl, b7.trans (upd_self (hz _ (by omega))).symm, upd_eq b6 rfl, bs⟩, ⟨h8, h9, h10, h11, h12⟩, ?_, ?_, ?_, hlk⟩
          · show 0 ≤ (F 2 + 1).toInt
            omega
          · show (F 2 + 1).toInt ≤ 6
            omega
          · intro j hj
            have hj : (F 2 + 1).toInt ≤ (j : Int) := hj
            show upd (A 6) (F 2).toNatClampNeg (vp_nar .boolean 0) j = 0
            rw [upd_ne (by omega)]
            exact hz j (by omega)
          · intro j hj
            have hj : (j : Int) < (F 2 + 1).toInt := hj
            show 0 ≤ (upd (A 2) (F 2).toNatClampNeg pc j).toInt ∧ (upd (A 2) (F 2).toNatClampNeg pc j).toInt < (F 1).toInt
            by_cases q : j = (F 2).toNatClampNeg
            · rw [q, upd_at]
              exact ⟨p0, p1⟩
            · rw [upd_ne q]
              exact hat j (by omega)
          · intro j h1 hj
            have := how j h1 hj
            show 0 ≤ (A 8 j).toInt ∧ (A 8 j).toInt < (F 2 + 1).toInt
            omega
        · have c4 : F 2 = 6 := i32_ext (by rw [Int32.lt_iff_toInt_lt] at c3; omega)
          rw [if_neg c3, if_pos c4]
          exact rx_no (rel.thr 0) (by decide) (by decide) rfl
      · rw [if_neg c1, if_neg c1]
        exact rx_no (rel.thr 0) (by decide) (by decide) rfl
    · rw [if_neg c2, if_neg c2, ite_self]
      exact rx_no (rel.thr 0) (by decide) (by decide) rfl
  · rw [if_neg (nz e1), if_pos e2, e1]
    exact rx_no rel (by decide) (by decide) rfl
theorem op_free (rel : LR F A G B) (gr : Int32) : RX cm_Lw_free (f_RS_free F A gr) (f_Mo_free G B gr) := by
  obtain ⟨hI, hn, ⟨g1, g2, g3, g4⟩, ⟨b0, b2, b3, b4, b5, b7, b6, bs⟩, ⟨h8, h9, h10, h11, h12⟩, hz, hat, how, hlk⟩ := id rel
  unfold f_RS_free f_Mo_free
  rcases needG (A := A) (B := B) g4 gr with ⟨e1, e2, p0, p1⟩ | ⟨e1, e2⟩
  · have t := toN (i := gr) (by omega)
    have r8 : B 8 gr.toNatClampNeg = A 8 gr.toNatClampNeg := h8 _ (by omega) (by omega)
    have L : f_Gr_isLive F A gr = 0 ↔ ¬ A 13 gr.toNatClampNeg = 0 := nlv
    rw [if_pos e1, if_neg e2, bs]
    by_cases c : A 13 gr.toNatClampNeg = 0
    · rw [if_pos c, if_neg (fun q => L.mp q c)]
      refine rx_ok rfl ?_ (((rel.thr 0).thr 0).stt _)
      show f_Mo_liveOf (uF (uF G 0 0) 0 0) (uA B 13 (upd (A 13) gr.toNatClampNeg 2)) (B 8 gr.toNatClampNeg) = f_Gr_liveOf F (uA A 13 (upd (A 13) gr.toNatClampNeg 2)) (A 8 gr.toNatClampNeg)
      rw [r8]
      exact eq_liveOf (F := F) (A := uA A 13 (upd (A 13) gr.toNatClampNeg 2)) (G := uF (uF G 0 0) 0 0) (B := uA B 13 (upd (A 13) gr.toNatClampNeg 2)) hI g4 rfl h8 (A 8 gr.toNatClampNeg)
    · rw [if_neg c, if_pos (L.mpr c)]
      exact rx_no (rel.thr 0) (by decide) (by decide) rfl
  · rw [if_neg (nz e1), if_pos e2, e1]
    exact rx_no rel (by decide) (by decide) rfl
theorem am01 (g k : Int32) : f_Gr_areMeeting F A g k = 0 ∨ f_Gr_areMeeting F A g k = 1 := by
  unfold f_Gr_areMeeting
  repeat' split
  all_goals first | exact Or.inl rfl | exact Or.inr rfl
theorem eq_meet (h9 : EQG (F 3) (A 9) (B 9)) (h10 : EQG (F 3) (A 10) (B 10)) (h11 : EQG (F 3) (A 11) (B 11)) (g k : Int32) (p0 : 1 ≤ g.toInt) (p1 : g.toInt ≤ (F 3).toInt) (q0 : 1 ≤ k.toInt) (q1 : k.toInt ≤ (F 3).toInt) : f_Mo_meet G B g k = 0 ↔ f_Gr_areMeeting F A g k = 0 := by
  have t := toN (i := g) (by omega)
  have u := toN (i := k) (by omega)
  have y0 : 1 ≤ g.toNatClampNeg := by omega
  have y1 : (g.toNatClampNeg : Int) ≤ (F 3).toInt := by omega
  have z0 : 1 ≤ k.toNatClampNeg := by omega
  have z1 : (k.toNatClampNeg : Int) ≤ (F 3).toInt := by omega
  rw [mme, nam, h9 _ y0 y1, h9 _ z0 z1, h10 _ y0 y1, h10 _ z0 z1, h11 _ y0 y1, h11 _ z0 z1]
theorem op_meets (rel : LR F A G B) (gr oth : Int32) : RX cm_Lw_meets (f_RS_meets F A gr oth) (f_Mo_meets G B gr oth) := by
  obtain ⟨hI, hn, ⟨g1, g2, g3, g4⟩, ⟨b0, b2, b3, b4, b5, b7, b6, bs⟩, ⟨h8, h9, h10, h11, h12⟩, hz, hat, how, hlk⟩ := id rel
  unfold f_RS_meets f_Mo_meets
  rcases needG (A := A) (B := B) g4 gr with ⟨e1, e2, p0, p1⟩ | ⟨e1, e2⟩
  · rw [if_pos e1, if_neg e2]
    rcases needG (A := A) (B := B) g4 oth with ⟨e1, e2, q0, q1⟩ | ⟨e1, e2⟩
    · rw [if_pos e1, if_neg e2]
      have M := eq_meet (A := A) (B := B) (G := uF G 0 0) h9 h10 h11 gr oth p0 p1 q0 q1
      rcases am01 (F := F) (A := A) gr oth with c | c
      · rw [if_pos (M.mpr c), c]
        exact rx_ok rfl rfl (rel.thr 0)
      · rw [if_neg (fun q => absurd ((M.mp q).symm.trans c) (by decide)), c]
        exact rx_ok rfl rfl (rel.thr 0)
    · rw [if_neg (nz e1), if_pos e2, e1]
      exact rx_no rel (by decide) (by decide) rfl
  · rw [if_neg (nz e1), if_pos e2, e1]
    exact rx_no rel (by decide) (by decide) rfl
theorem op_pull (rel : LR F A G B) (rb : Int32) : RX cm_Lw_pull (f_RS_pull F A rb) (f_Mo_pull G B rb) := by
  obtain ⟨hI, hn, ⟨g1, g2, g3, g4⟩, ⟨b0, b2, b3, b4, b5, b7, b6, bs⟩, ⟨h8, h9, h10, h11, h12⟩, hz, hat, how, hlk⟩ := id rel
  have e4 : B 4 rb.toNatClampNeg = A 4 rb.toNatClampNeg := by rw [b4]
  unfold f_RS_pull f_Mo_pull
  rcases needR (A := A) (B := B) hI g3 rb with ⟨e1, e2, p0, p1⟩ | ⟨e1, e2⟩
  · rw [if_pos e1, if_neg e2, e4]
    by_cases c : A 4 rb.toNatClampNeg = -1
    · rw [if_pos c, if_pos c]
      exact rx_no (rel.thr 0) (by decide) (by decide) rfl
    · rw [if_neg c, if_neg c]
      exact rx_ok rfl rfl ((((rel.thr 0).thr 0).tp _ _).rep _)
  · rw [if_neg (nz e1), if_pos e2, e1]
    exact rx_no rel (by decide) (by decide) rfl
theorem op_report (rel : LR F A G B) (rb : Int32) : RX cm_Lw_report (f_RS_report F A rb) (f_Mo_report G B rb) := by
  obtain ⟨hI, hn, ⟨g1, g2, g3, g4⟩, ⟨b0, b2, b3, b4, b5, b7, b6, bs⟩, ⟨h8, h9, h10, h11, h12⟩, hz, hat, how, hlk⟩ := id rel
  have e4 := eq_silent (F := F) (A := A) (G := uF G 0 0) (B := B) g1 b6 rb
  unfold f_RS_report f_Mo_report
  rcases needR (A := A) (B := B) hI g3 rb with ⟨e1, e2, p0, p1⟩ | ⟨e1, e2⟩
  · rw [if_pos e1, if_neg e2]
    exact rx_ok rfl e4 ((rel.thr 0).rep _)
  · rw [if_neg (nz e1), if_pos e2, e1]
    exact rx_no rel (by decide) (by decide) rfl
theorem zone_off (pc : Int32) (C : Nat → Nat → Int32) (n : Nat) (x y : Int32) : f_Mo_zone_L73 G B pc 0 (n + 1) C x y = (x, uF (uF G 0 0) 0 0, C) := by
  rw [f_Mo_zone_L73, if_pos rfl, ite_self]
theorem op_zone (rel : LR F A G B) (pc on : Int32) : RX cm_Lw_zone (f_RS_zone F A pc on) (f_Mo_zone G B pc on) := by
  obtain ⟨hI, hn, ⟨g1, g2, g3, g4⟩, ⟨b0, b2, b3, b4, b5, b7, b6, bs⟩, ⟨h8, h9, h10, h11, h12⟩, hz, hat, how, hlk⟩ := id rel
  obtain ⟨-, -, hg0, hg1⟩ := id hI
  have hs := eq_stand (F := F) (A := A) (G := uF G 0 0) (B := B) g3 b2 b4 pc
  have e0 : B 0 pc.toNatClampNeg = A 1 pc.toNatClampNeg := by rw [b0]
  unfold f_RS_zone f_Mo_zone
  rcases needP (A := A) (B := B) hI g2 pc with ⟨e1, e2, p0, p1⟩ | ⟨e1, e2⟩
  · rw [if_pos e1, if_neg e2, hs, e0]
    by_cases c1 : A 1 pc.toNatClampNeg = on
    · rw [if_pos c1, if_pos c1]
      exact rx_no (rel.thr 0) (by decide) (by decide) rfl
    rw [if_neg c1, if_neg c1]
    by_cases c2 : f_Rb_standingOn F A pc = -1
    · rw [if_pos c2, if_pos c2]
      have relA := rel.cl pc.toNatClampNeg (vp_nar .boolean on)
      by_cases c3 : on = 0
      · subst c3
        rw [if_pos rfl, zone_off _ _ 63]
        exact rx_ok rfl rfl ((relA.thr 0).thr 0)
      · rw [if_neg c3]
        obtain ⟨v, s2, t1, t2⟩ := sw_zone (A := uA A 1 (upd (A 1) pc.toNatClampNeg (vp_nar .boolean on))) (B := uA B 0 (upd (B 0) pc.toNatClampNeg (vp_nar .boolean on))) hI g4 (uA A 1 (upd (A 1) pc.toNatClampNeg (vp_nar .boolean on))) B h9 pc on c3 64 (A 13) 0 1 (LA.i hg0 hg1)
        rw [uA_self (show (uA A 1 (upd (A 1) pc.toNatClampNeg (vp_nar .boolean on))) 13 = A 13 from rfl)] at t1
        rw [uA_self (show (uA B 0 (upd (B 0) pc.toNatClampNeg (vp_nar .boolean on))) 13 = A 13 from bs)] at t2
        rw [t2]
        unfold f_Gr_takeAllFor
        rw [t1]
        exact rx_ok rfl rfl (((relA.thr 0).thr 0).stt s2)
    · rw [if_neg c2, if_neg c2]
      exact rx_no (rel.thr 0) (by decide) (by decide) rfl
  · rw [if_neg (nz e1), if_pos e2, e1]
    exact rx_no rel (by decide) (by decide) rfl
theorem halt_off (rb : Int32) (C : Nat → Nat → Int32) (n : Nat) (y : Int32) : f_Mo_halt_L76 G B rb 0 (n + 1) C y = (0, uF (uF G 0 0) 0 0, C) := by
  rw [f_Mo_halt_L76, ite_self]
theorem op_halt (rel : LR F A G B) (rb on : Int32) : RX cm_Lw_halt (f_RS_halt F A rb on) (f_Mo_halt G B rb on) := by
  obtain ⟨hI, hn, ⟨g1, g2, g3, g4⟩, ⟨b0, b2, b3, b4, b5, b7, b6, bs⟩, ⟨h8, h9, h10, h11, h12⟩, hz, hat, how, hlk⟩ := id rel
  obtain ⟨-, -, hg0, hg1⟩ := id hI
  have e7 : B 7 rb.toNatClampNeg = A 6 rb.toNatClampNeg := by rw [b7]
  unfold f_RS_halt f_Mo_halt
  rcases needR (A := A) (B := B) hI g3 rb with ⟨e1, e2, p0, p1⟩ | ⟨e1, e2⟩
  · rw [if_pos e1, if_neg e2, e7]
    by_cases c1 : A 6 rb.toNatClampNeg = on
    · rw [if_pos c1, if_pos c1]
      exact rx_no (rel.thr 0) (by decide) (by decide) rfl
    rw [if_neg c1, if_neg c1]
    have relA := rel.hl rb (vp_nar .boolean on) p0 p1
    by_cases c3 : on = 0
    · subst c3
      rw [if_pos rfl, if_pos rfl, halt_off _ _ 63]
      exact rx_ok rfl rfl ((relA.thr 0).thr 0)
    · rw [if_neg c3, if_neg c3]
      obtain ⟨a, ha⟩ : ∃ a, a = uA (uA A 6 (upd (A 6) rb.toNatClampNeg (vp_nar .boolean on))) 5 (upd ((uA A 6 (upd (A 6) rb.toNatClampNeg (vp_nar .boolean on))) 5) rb.toNatClampNeg (-1)) := ⟨_, rfl⟩
      obtain ⟨b, hb⟩ : ∃ b, b = uA B 7 (upd (B 7) rb.toNatClampNeg (vp_nar .boolean on)) := ⟨_, rfl⟩
      have a8 : a 8 = A 8 := by rw [ha]; rfl
      have a13 : a 13 = A 13 := by rw [ha]; rfl
      have c8 : b 8 = B 8 := by rw [hb]; rfl
      have c13 : b 13 = A 13 := by rw [hb]; exact bs
      rw [← ha, ← hb]
      obtain ⟨s2, t1, t2⟩ := sw_halt (A := a) (B := b) hI g4 a B b (by rw [a8, c8]; exact h8) rb on (A 13) 64 (A 13) 0 1 (LA.i hg0 hg1) (fun _ _ => rfl)
      rw [uA_self a13] at t1
      rw [uA_self c13] at t2
      rw [t2]
      unfold f_Gr_freeAllOf
      rw [t1]
      have e9 := eq_liveOf (F := F) (A := a) (G := uF (uF G 0 0) 0 0) (B := b) hI g4 (by rw [a13, c13]) (by rw [a8, c8]; exact h8) rb
      refine rx_ok rfl (show f_Mo_liveOf (uF (uF G 0 0) 0 0) b rb = f_Gr_liveOf_L4 F a rb 64 0 1 from e9) ?_
      obtain ⟨x1, x2, ⟨x3, x4, x5, x6⟩, ⟨y0, y2, y3, y4, y5, y7, y6, ys⟩, ⟨z8, z9, z10, z11, z12⟩, u1, u2, u3, u4⟩ := (((relA.thr 0).thr 0).stt s2).wt rb.toNatClampNeg (-1)
      rw [ha, hb]
      exact ⟨x1, x2, ⟨x3, x4, x5, x6⟩, ⟨y0, y2, y3, y4, y5, y7, y6, ys⟩, ⟨z8, z9, z10, z11, z12⟩, u1, u2, u3, u4⟩
  · rw [if_neg (nz e1), if_pos e2, e1]
    exact rx_no rel (by decide) (by decide) rfl
theorem op_pass (rel : LR F A G B) (tm : Int32) : RX cm_Lw_pass (f_RS_pass F A tm) (f_Mo_pass G B tm) := by
  obtain ⟨hI, hn, ⟨g1, g2, g3, g4⟩, ⟨b0, b2, b3, b4, b5, b7, b6, bs⟩, ⟨h8, h9, h10, h11, h12⟩, hz, hat, how, hlk⟩ := id rel
  obtain ⟨-, -, hg0, hg1⟩ := id hI
  obtain ⟨hn0, hn1⟩ := id hn
  have hk : (10000 : Int32).toInt = 10000 := rfl
  unfold f_RS_pass f_Mo_pass f_Mo_in
  rw [g1]
  by_cases c : tm < F 0
  · rw [if_pos c, if_pos c, if_pos rfl]
    exact rx_no rel (by decide) (by decide) rfl
  rw [if_neg c, if_neg c]
  by_cases d : tm ≤ 10000
  · rw [if_pos d, if_neg (Int32.not_lt.mpr d), if_neg (show ¬ (1 : Int32) = 0 by decide)]
    obtain ⟨v, s2, t1, t2⟩ := sw_pass (A := A) (B := B) hI g4 (uF F 0 tm) rfl A B h11 tm 64 (A 13) 0 1 (LA.i hg0 hg1)
    rw [uA_self rfl] at t1
    rw [uA_self bs] at t2
    rw [t2]
    unfold f_Gr_endAllBy
    rw [t1]
    rw [Int32.lt_iff_toInt_lt] at c
    rw [Int32.le_iff_toInt_le] at d
    exact rx_ok rfl rfl (((rel.thr 0).now tm (by omega) (by omega)).stt s2)
  · rw [if_neg d, if_pos (Int32.not_le.mp d), if_pos rfl]
    exact rx_no rel (by decide) (by decide) rfl
theorem op_told (rel : LR F A G B) (rb wh : Int32) : RX cm_Lw_told (f_RS_told F A rb wh) (f_Mo_told G B rb wh) := by
  obtain ⟨hI, hn, ⟨g1, g2, g3, g4⟩, ⟨b0, b2, b3, b4, b5, b7, b6, bs⟩, ⟨h8, h9, h10, h11, h12⟩, hz, hat, how, hlk⟩ := id rel
  have e5 := eq_silent (F := F) (A := A) (G := uF G 0 0) (B := B) g1 b6 rb
  have e3 := eq_liveOf (F := F) (A := A) (G := uF G 0 0) (B := B) hI g4 bs h8 rb
  have h0 : (0 : Int32).toInt = 0 := rfl
  have h6 : (6 : Int32).toInt = 6 := rfl
  have ok : ∀ v : Int32, RX cm_Lw_told (0, v, F, A) (v, uF G 0 0, B) := fun v => rx_ok rfl rfl (rel.thr 0)
  unfold f_RS_told f_Mo_told
  rcases needR (A := A) (B := B) hI g3 rb with ⟨e1, e2, p0, p1⟩ | ⟨e1, e2⟩
  · rw [if_pos e1, if_neg e2, b2, b4, b5, b6, b7, e3, e5]
    by_cases k : f_Mo_in wh 0 6 = 0
    · rw [if_pos k]
      have n0 : ∀ c : Int32, ¬ f_Mo_in c 0 6 = 0 → ¬ wh = c := fun c h q => h (q ▸ k)
      rw [if_neg (n0 0 (by decide)), if_neg (n0 1 (by decide)), if_neg (n0 2 (by decide)), if_neg (n0 3 (by decide)), if_neg (n0 4 (by decide)), if_neg (n0 5 (by decide)), if_neg (n0 6 (by decide))]
      exact rx_no rel (by decide) (by decide) rfl
    · rw [if_neg k]
      by_cases w0 : wh = 0
      · rw [if_pos w0, if_pos w0]; exact ok _
      rw [if_neg w0, if_neg w0]
      by_cases w1 : wh = 1
      · rw [if_pos w1, if_pos w1]; exact ok _
      rw [if_neg w1, if_neg w1]
      by_cases w2 : wh = 2
      · rw [if_pos w2, if_pos w2]; exact ok _
      rw [if_neg w2, if_neg w2]
      by_cases w3 : wh = 3
      · rw [if_pos w3, if_pos w3]; exact ok _
      rw [if_neg w3, if_neg w3]
      by_cases w4 : wh = 4
      · have w6 : ¬ wh = 6 := fun q => absurd (w4.symm.trans q) (by decide)
        rw [if_pos w4, if_neg w6, if_pos w4]
        split <;> exact ok _
      rw [if_neg w4]
      by_cases w5 : wh = 5
      · have w6 : ¬ wh = 6 := fun q => absurd (w5.symm.trans q) (by decide)
        rw [if_pos w5, if_neg w6, if_neg w4]
        split <;> exact ok _
      rw [if_neg w5]
      by_cases w6 : wh = 6
      · rw [if_pos w6, if_pos w6]; exact ok _
      exfalso
      refine k ?_
      unfold f_Mo_in
      rcases tsw7 w0 w1 w2 w3 w4 w5 w6 with q | q
      · rw [if_pos (show wh < 0 by rw [Int32.lt_iff_toInt_lt]; omega)]
      · rw [if_pos (show (6 : Int32) < wh by rw [Int32.lt_iff_toInt_lt]; omega), ite_self]
  · rw [if_neg (nz e1), if_pos e2, e1]
    exact rx_no rel (by decide) (by decide) rfl
theorem op_grant (rel : LR F A G B) (gr wh : Int32) : RX cm_Lw_grant (f_RS_grant F A gr wh) (f_Mo_grant G B gr wh) := by
  obtain ⟨hI, hn, ⟨g1, g2, g3, g4⟩, ⟨b0, b2, b3, b4, b5, b7, b6, bs⟩, ⟨h8, h9, h10, h11, h12⟩, hz, hat, how, hlk⟩ := id rel
  have h0 : (0 : Int32).toInt = 0 := rfl
  have h5 : (5 : Int32).toInt = 5 := rfl
  have ok : ∀ v : Int32, RX cm_Lw_grant (0, v, F, A) (v, uF G 0 0, B) := fun v => rx_ok rfl rfl (rel.thr 0)
  unfold f_RS_grant f_Mo_grant
  rcases needG (A := A) (B := B) g4 gr with ⟨e1, e2, p0, p1⟩ | ⟨e1, e2⟩
  · have t := toN (i := gr) (by omega)
    have y0 : 1 ≤ gr.toNatClampNeg := by omega
    have y1 : (gr.toNatClampNeg : Int) ≤ (F 3).toInt := by omega
    rw [if_pos e1, if_neg e2, h8 _ y0 y1, h9 _ y0 y1, h10 _ y0 y1, h11 _ y0 y1, h12 _ y0 y1, bs]
    by_cases k : f_Mo_in wh 0 5 = 0
    · rw [if_pos k]
      have n0 : ∀ c : Int32, ¬ f_Mo_in c 0 5 = 0 → ¬ wh = c := fun c h q => h (q ▸ k)
      rw [if_neg (n0 0 (by decide)), if_neg (n0 1 (by decide)), if_neg (n0 2 (by decide)), if_neg (n0 3 (by decide)), if_neg (n0 4 (by decide)), if_neg (n0 5 (by decide))]
      exact rx_no rel (by decide) (by decide) rfl
    · rw [if_neg k]
      by_cases w0 : wh = 0
      · rw [if_pos w0, if_pos w0]; exact ok _
      rw [if_neg w0, if_neg w0]
      by_cases w1 : wh = 1
      · rw [if_pos w1, if_pos w1]; exact ok _
      rw [if_neg w1, if_neg w1]
      by_cases w2 : wh = 2
      · rw [if_pos w2, if_pos w2]; exact ok _
      rw [if_neg w2, if_neg w2]
      by_cases w3 : wh = 3
      · rw [if_pos w3, if_pos w3]; exact ok _
      rw [if_neg w3, if_neg w3]
      by_cases w4 : wh = 4
      · rw [if_pos w4, if_pos w4]; exact ok _
      rw [if_neg w4, if_neg w4]
      by_cases w5 : wh = 5
      · rw [if_pos w5]; exact ok _
      exfalso
      refine k ?_
      unfold f_Mo_in
      rcases tsw6 w0 w1 w2 w3 w4 w5 with q | q
      · rw [if_pos (show wh < 0 by rw [Int32.lt_iff_toInt_lt]; omega)]
      · rw [if_pos (show (5 : Int32) < wh by rw [Int32.lt_iff_toInt_lt]; omega), ite_self]
  · rw [if_neg (nz e1), if_pos e2, e1]
    exact rx_no rel (by decide) (by decide) rfl
end
