abbrev SL : Type := (Nat → Int64) × SC
def hL (cm : Nat → Int32) (f : Nat → Int64) (x : Nat × Int32 × SC) : Int32 × SL := if x.1 = 0 then (0, vp_updL f (0 : Int32).toNatClampNeg x.2.1.toInt64, x.2.2) else (cm x.1, f, x.2.2)
def hB (cm : Nat → Int32) (f : Nat → Int64) (x : Nat × Int32 × SC) : Int32 × SL := if x.1 = 0 then (0, vp_updL f (0 : Int32).toNatClampNeg (if x.2.1 = 0 then 0 else 1), x.2.2) else (cm x.1, f, x.2.2)
def wL (r : Nat → Nat) (k : Nat → ClassId) (F : Nat → Int32) (A : Nat → Nat → Int32) (o : Nat) (kO : ClassId) (f : Nat → Int64) : va_W := [(o, .inl (kO, 1, .inr (.inl f)))] ++ wC r k F A
def tL (k : Nat → ClassId) (kO : ClassId) : List (ClassId × FieldType) := [(kO, .long)] ++ tC k
theorem in01 : vp_in 0 1 := by rw [vp_in_iff]; decide
theorem cd_RS_needPiece (F : Nat → Int32) (A : Nat → Nat → Int32) (pc : Int32) : f_RS_needPiece F A pc = 0 ∨ f_RS_needPiece F A pc = 1 := by
  unfold f_RS_needPiece
  repeat' split
  all_goals first | exact Or.inl rfl | exact Or.inr rfl
theorem cd_RS_needRobot (F : Nat → Int32) (A : Nat → Nat → Int32) (rb : Int32) : f_RS_needRobot F A rb = 0 ∨ f_RS_needRobot F A rb = 1 := by
  unfold f_RS_needRobot
  repeat' split
  all_goals first | exact Or.inl rfl | exact Or.inr rfl
theorem cd_RS_needGrant (F : Nat → Int32) (A : Nat → Nat → Int32) (gr : Int32) : f_RS_needGrant F A gr = 0 ∨ f_RS_needGrant F A gr = 1 := by
  unfold f_RS_needGrant
  repeat' split
  all_goals first | exact Or.inl rfl | exact Or.inr rfl
theorem cd_RS_needSpan (F : Nat → Int32) (A : Nat → Nat → Int32) (fr tt : Int32) : f_RS_needSpan F A fr tt = 0 ∨ f_RS_needSpan F A fr tt = 2 := by
  unfold f_RS_needSpan
  repeat' split
  all_goals first | exact Or.inl rfl | exact Or.inr rfl
theorem cd_RS_needPriority (F : Nat → Int32) (A : Nat → Nat → Int32) (pr : Int32) : f_RS_needPriority F A pr = 0 ∨ f_RS_needPriority F A pr = 2 := by
  unfold f_RS_needPriority
  repeat' split
  all_goals first | exact Or.inl rfl | exact Or.inr rfl
theorem cd_RS_needActive (F : Nat → Int32) (A : Nat → Nat → Int32) (rb : Int32) : f_RS_needActive F A rb = 0 ∨ f_RS_needActive F A rb = 3 := by
  unfold f_RS_needActive
  repeat' split
  all_goals first | exact Or.inl rfl | exact Or.inr rfl
theorem cd_RS_piece (F : Nat → Int32) (A : Nat → Nat → Int32) : (f_RS_piece F A).1 = 0 ∨ (f_RS_piece F A).1 = 4 := by
  unfold f_RS_piece
  repeat' split
  all_goals first | exact Or.inl rfl | (dsimp only; omega)
theorem cd_RS_link (F : Nat → Int32) (A : Nat → Nat → Int32) (pc oth on : Int32) : (f_RS_link F A pc oth on).1 = 0 ∨ (f_RS_link F A pc oth on).1 = 1 ∨ (f_RS_link F A pc oth on).1 = 2 := by
  have g0 := cd_RS_needPiece F A pc
  have g1 := cd_RS_needPiece F A oth
  unfold f_RS_link
  repeat' split
  all_goals first | exact Or.inl rfl | (dsimp only; omega)
theorem cd_RS_robot (F : Nat → Int32) (A : Nat → Nat → Int32) (pc tl : Int32) : (f_RS_robot F A pc tl).1 = 0 ∨ (f_RS_robot F A pc tl).1 = 1 ∨ (f_RS_robot F A pc tl).1 = 3 ∨ (f_RS_robot F A pc tl).1 = 4 := by
  have g0 := cd_RS_needPiece F A pc
  unfold f_RS_robot
  repeat' split
  all_goals first | exact Or.inl rfl | (dsimp only; omega)
theorem cd_RS_ask (F : Nat → Int32) (A : Nat → Nat → Int32) (rb pc fr tt pr : Int32) : (f_RS_ask F A rb pc fr tt pr).1 = 0 ∨ (f_RS_ask F A rb pc fr tt pr).1 = 1 ∨ (f_RS_ask F A rb pc fr tt pr).1 = 2 ∨ (f_RS_ask F A rb pc fr tt pr).1 = 3 ∨ (f_RS_ask F A rb pc fr tt pr).1 = 4 := by
  have g0 := cd_RS_needRobot F A rb
  have g1 := cd_RS_needPiece F A pc
  have g2 := cd_RS_needSpan F A fr tt
  have g3 := cd_RS_needPriority F A pr
  have g4 := cd_RS_needActive F A rb
  unfold f_RS_ask
  repeat' split
  all_goals first | exact Or.inl rfl | (dsimp only; omega)
theorem cd_RS_free (F : Nat → Int32) (A : Nat → Nat → Int32) (gr : Int32) : (f_RS_free F A gr).1 = 0 ∨ (f_RS_free F A gr).1 = 1 ∨ (f_RS_free F A gr).1 = 3 := by
  have g0 := cd_RS_needGrant F A gr
  unfold f_RS_free
  repeat' split
  all_goals first | exact Or.inl rfl | (dsimp only; omega)
theorem cd_RS_meets (F : Nat → Int32) (A : Nat → Nat → Int32) (gr oth : Int32) : (f_RS_meets F A gr oth).1 = 0 ∨ (f_RS_meets F A gr oth).1 = 1 := by
  have g0 := cd_RS_needGrant F A gr
  have g1 := cd_RS_needGrant F A oth
  unfold f_RS_meets
  repeat' split
  all_goals first | exact Or.inl rfl | (dsimp only; omega)
theorem cd_RS_step (F : Nat → Int32) (A : Nat → Nat → Int32) (rb pc : Int32) : (f_RS_step F A rb pc).1 = 0 ∨ (f_RS_step F A rb pc).1 = 1 ∨ (f_RS_step F A rb pc).1 = 2 ∨ (f_RS_step F A rb pc).1 = 3 := by
  have g0 := cd_RS_needRobot F A rb
  have g1 := cd_RS_needPiece F A pc
  have g2 := cd_RS_needActive F A rb
  unfold f_RS_step
  repeat' split
  all_goals first | exact Or.inl rfl | (dsimp only; omega)
theorem cd_RS_pull (F : Nat → Int32) (A : Nat → Nat → Int32) (rb : Int32) : (f_RS_pull F A rb).1 = 0 ∨ (f_RS_pull F A rb).1 = 1 ∨ (f_RS_pull F A rb).1 = 3 := by
  have g0 := cd_RS_needRobot F A rb
  unfold f_RS_pull
  repeat' split
  all_goals first | exact Or.inl rfl | (dsimp only; omega)
theorem cd_RS_await (F : Nat → Int32) (A : Nat → Nat → Int32) (rb pc : Int32) : (f_RS_await F A rb pc).1 = 0 ∨ (f_RS_await F A rb pc).1 = 1 ∨ (f_RS_await F A rb pc).1 = 3 := by
  have g0 := cd_RS_needRobot F A rb
  have g1 := cd_RS_needPiece F A pc
  unfold f_RS_await
  repeat' split
  all_goals first | exact Or.inl rfl | (dsimp only; omega)
theorem cd_RS_next (F : Nat → Int32) (A : Nat → Nat → Int32) (pc : Int32) : (f_RS_next F A pc).1 = 0 ∨ (f_RS_next F A pc).1 = 1 := by
  have g0 := cd_RS_needPiece F A pc
  unfold f_RS_next
  repeat' split
  all_goals first | exact Or.inl (cd_next_L F A pc _ _ _ _) | exact Or.inl rfl | (dsimp only; omega)
theorem cd_RS_zone (F : Nat → Int32) (A : Nat → Nat → Int32) (pc on : Int32) : (f_RS_zone F A pc on).1 = 0 ∨ (f_RS_zone F A pc on).1 = 1 ∨ (f_RS_zone F A pc on).1 = 3 := by
  have g0 := cd_RS_needPiece F A pc
  unfold f_RS_zone
  repeat' split
  all_goals first | exact Or.inl rfl | (dsimp only; omega)
theorem cd_RS_halt (F : Nat → Int32) (A : Nat → Nat → Int32) (rb on : Int32) : (f_RS_halt F A rb on).1 = 0 ∨ (f_RS_halt F A rb on).1 = 1 ∨ (f_RS_halt F A rb on).1 = 3 := by
  have g0 := cd_RS_needRobot F A rb
  unfold f_RS_halt
  repeat' split
  all_goals first | exact Or.inl rfl | (dsimp only; omega)
theorem cd_RS_report (F : Nat → Int32) (A : Nat → Nat → Int32) (rb : Int32) : (f_RS_report F A rb).1 = 0 ∨ (f_RS_report F A rb).1 = 1 := by
  have g0 := cd_RS_needRobot F A rb
  unfold f_RS_report
  repeat' split
  all_goals first | exact Or.inl rfl | (dsimp only; omega)
theorem cd_RS_pass (F : Nat → Int32) (A : Nat → Nat → Int32) (tm : Int32) : (f_RS_pass F A tm).1 = 0 ∨ (f_RS_pass F A tm).1 = 2 := by
  unfold f_RS_pass
  repeat' split
  all_goals first | exact Or.inl rfl | (dsimp only; omega)
theorem cd_RS_holder (F : Nat → Int32) (A : Nat → Nat → Int32) (pc tm : Int32) : (f_RS_holder F A pc tm).1 = 0 ∨ (f_RS_holder F A pc tm).1 = 1 ∨ (f_RS_holder F A pc tm).1 = 2 := by
  have g0 := cd_RS_needPiece F A pc
  unfold f_RS_holder
  repeat' split
  all_goals first | exact Or.inl rfl | (dsimp only; omega)
theorem cd_RS_told (F : Nat → Int32) (A : Nat → Nat → Int32) (rb wh : Int32) : (f_RS_told F A rb wh).1 = 0 ∨ (f_RS_told F A rb wh).1 = 1 ∨ (f_RS_told F A rb wh).1 = 2 := by
  have g0 := cd_RS_needRobot F A rb
  unfold f_RS_told
  repeat' split
  all_goals first | exact Or.inl rfl | (dsimp only; omega)
theorem cd_RS_grant (F : Nat → Int32) (A : Nat → Nat → Int32) (gr wh : Int32) : (f_RS_grant F A gr wh).1 = 0 ∨ (f_RS_grant F A gr wh).1 = 1 ∨ (f_RS_grant F A gr wh).1 = 2 := by
  have g0 := cd_RS_needGrant F A gr
  unfold f_RS_grant
  repeat' split
  all_goals first | exact Or.inl rfl | (dsimp only; omega)
