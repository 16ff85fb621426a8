section
variable {F : Nat → Int32} {A : Nat → Nat → Int32} {G : Nat → Int32} {B : Nat → Nat → Int32}
theorem op_holder0 (rel : LR F A G B) (h0 : F 1 = 0) (pc tm : Int32) : RX cm_Lw_holder (f_RS_holder F A pc tm) (f_Mo_holder G B pc tm) := by
  obtain ⟨hI, hn, ⟨g1, g2, g3, g4⟩, ⟨b0, b2, b3, b4, b5, b7, b6, bs⟩, ⟨h8, h9, h10, h11, h12⟩, hz, hat, how, hlk⟩ := id rel
  unfold f_RS_holder f_Mo_holder
  rcases needP (A := A) (B := B) hI g2 pc with ⟨e1, e2, p0, p1⟩ | ⟨e1, e2⟩
  · rw [h0, show (0 : Int32).toInt = 0 from rfl] at p1
    exact absurd p1 (by omega)
  · rw [if_neg (nz e1), if_pos e2, e1]
    exact rx_no rel (by decide) (by decide) rfl
theorem ans_holder (rel : LR F A G B) (h0 : F 1 = 0) (pc tm : Int32) (f : Nat → Int64) : f_Mo_thrown (f_Mo_holder G B pc tm).2.1 (f_Mo_holder G B pc tm).2.2 = (hL cm_Lw_holder f (f_RS_holder F A pc tm)).1 ∧ ((hL cm_Lw_holder f (f_RS_holder F A pc tm)).1 = 0 → (hL cm_Lw_holder f (f_RS_holder F A pc tm)).2.1 (0 : Int32).toNatClampNeg = (f_Mo_holder G B pc tm).1.toInt64) := ansL (op_holder0 rel h0 pc tm)
end
