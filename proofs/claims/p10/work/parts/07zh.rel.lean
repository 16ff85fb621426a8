section
variable {F : Nat → Int32} {A : Nat → Nat → Int32} {G : Nat → Int32} {B : Nat → Nat → Int32}
def CST (G : Nat → Int32) (B : Nat → Nat → Int32) (y : Int32 × SC) : Prop := y.2 = (uF G 0 0, B) ∨ y.2 = (G, B)
theorem cst_122 (wh z : Int32) (K : Int32 → Int32 → Int32 × SC) (hK : ∀ a b : Int32, CST G B (K a b)) : ∀ (n : Nat) (x y : Int32), CST G B (f_Mo_count_L122 G B wh z K n x y) := by
  intro n
  induction n with
  | zero => intro x y; exact Or.inr rfl
  | succ n ih =>
    intro x y
    rw [f_Mo_count_L122]
    split
    · exact hK _ _
    repeat' split
    all_goals exact ih _ _
theorem cst_105 (wh : Int32) : ∀ (n : Nat) (x y : Int32), CST G B (f_Mo_count_L105 G B wh n x y) := by
  intro n
  induction n with
  | zero => intro x y; exact Or.inr rfl
  | succ n ih =>
    intro x y
    rw [f_Mo_count_L105]
    by_cases c : G 4 < y
    · rw [if_pos c]
      repeat' split
      all_goals exact Or.inl rfl
    rw [if_neg c]
    by_cases d : wh = 6
    · rw [if_pos d]
      exact cst_122 _ _ _ (fun a b => ih _ _) _ _ _
    rw [if_neg d]
    repeat' split
    all_goals exact Or.inl rfl
theorem cst_105b (wh : Int32) : ∀ (n : Nat) (x y : Int32), CST G B (f_Mo_count_L105b G B wh n x y) := by
  intro n
  induction n with
  | zero => intro x y; exact Or.inr rfl
  | succ n ih =>
    intro x y
    rw [f_Mo_count_L105b]
    by_cases c : G 4 < y
    · rw [if_pos c]
      repeat' split
      all_goals exact Or.inl rfl
    rw [if_neg c]
    by_cases d : wh = 6
    · rw [if_pos d]
      exact cst_122 _ _ _ (fun a b => ih _ _) _ _ _
    rw [if_neg d]
    exact Or.inl rfl
theorem cst_48 (wh : Int32) : ∀ (n : Nat) (x y : Int32), CST G B (f_Mo_count_L48 G B wh n x y) := by
  intro n
  induction n with
  | zero => intro x y; exact Or.inr rfl
  | succ n ih =>
    intro x y
    rw [f_Mo_count_L48]
    split
    · exact cst_105 _ _ _ _
    split
    · exact ih _ _
    split
    · split
      · exact ih _ _
      · exact ih _ _
    · exact cst_105b _ _ _ _
theorem sim_count (rel : LR F A G B) (wh : Int32) : LR F A (f_Mo_count G B wh).2.1 (f_Mo_count G B wh).2.2 := by
  have h : CST G B (f_Mo_count G B wh) := by
    unfold f_Mo_count
    split
    · exact Or.inl rfl
    split
    · exact Or.inl rfl
    split
    · exact Or.inl rfl
    split
    · exact Or.inl rfl
    · exact cst_48 _ _ _ _
  rcases h with h | h
  · rw [h]
    exact rel.thr 0
  · rw [h]
    exact rel
theorem sim_piece (rel : LR F A G B) : LR (f_RS_piece F A).2.2.1 (f_RS_piece F A).2.2.2 (f_Mo_piece G B).2.1 (f_Mo_piece G B).2.2 := (op_piece rel).2
theorem ans_piece (rel : LR F A G B) (f : Nat → Int64) : f_Mo_thrown (f_Mo_piece G B).2.1 (f_Mo_piece G B).2.2 = (hL cm_Lw_piece f (f_RS_piece F A)).1 ∧ ((hL cm_Lw_piece f (f_RS_piece F A)).1 = 0 → (hL cm_Lw_piece f (f_RS_piece F A)).2.1 (0 : Int32).toNatClampNeg = (f_Mo_piece G B).1.toInt64) := ansL (op_piece rel)
theorem sim_link (rel : LR F A G B) (pc oth on : Int32) (hon : on = 0 ∨ on = 1) : LR (f_RS_link F A pc oth on).2.2.1 (f_RS_link F A pc oth on).2.2.2 (f_Mo_link G B pc oth on).2.1 (f_Mo_link G B pc oth on).2.2 := op_link rel pc oth on hon
theorem sim_robot (rel : LR F A G B) (pc tl : Int32) : LR (f_RS_robot F A pc tl).2.2.1 (f_RS_robot F A pc tl).2.2.2 (f_Mo_robot G B pc tl).2.1 (f_Mo_robot G B pc tl).2.2 := (op_robot rel pc tl).2
theorem ans_robot (rel : LR F A G B) (pc tl : Int32) (f : Nat → Int64) : f_Mo_thrown (f_Mo_robot G B pc tl).2.1 (f_Mo_robot G B pc tl).2.2 = (hL cm_Lw_robot f (f_RS_robot F A pc tl)).1 ∧ ((hL cm_Lw_robot f (f_RS_robot F A pc tl)).1 = 0 → (hL cm_Lw_robot f (f_RS_robot F A pc tl)).2.1 (0 : Int32).toNatClampNeg = (f_Mo_robot G B pc tl).1.toInt64) := ansL (op_robot rel pc tl)
theorem sim_ask (rel : LR F A G B) (rb pc fr tt pr : Int32) : LR (f_RS_ask F A rb pc fr tt pr).2.2.1 (f_RS_ask F A rb pc fr tt pr).2.2.2 (f_Mo_ask G B rb pc fr tt pr).2.1 (f_Mo_ask G B rb pc fr tt pr).2.2 := (op_ask rel rb pc fr tt pr).2
theorem ans_ask (rel : LR F A G B) (rb pc fr tt pr : Int32) (f : Nat → Int64) : f_Mo_thrown (f_Mo_ask G B rb pc fr tt pr).2.1 (f_Mo_ask G B rb pc fr tt pr).2.2 = (hL cm_Lw_ask f (f_RS_ask F A rb pc fr tt pr)).1 ∧ ((hL cm_Lw_ask f (f_RS_ask F A rb pc fr tt pr)).1 = 0 → (hL cm_Lw_ask f (f_RS_ask F A rb pc fr tt pr)).2.1 (0 : Int32).toNatClampNeg = (f_Mo_ask G B rb pc fr tt pr).1.toInt64) := ansL (op_ask rel rb pc fr tt pr)
theorem sim_free (rel : LR F A G B) (gr : Int32) : LR (f_RS_free F A gr).2.2.1 (f_RS_free F A gr).2.2.2 (f_Mo_free G B gr).2.1 (f_Mo_free G B gr).2.2 := (op_free rel gr).2
theorem ans_free (rel : LR F A G B) (gr : Int32) (f : Nat → Int64) : f_Mo_thrown (f_Mo_free G B gr).2.1 (f_Mo_free G B gr).2.2 = (hL cm_Lw_free f (f_RS_free F A gr)).1 ∧ ((hL cm_Lw_free f (f_RS_free F A gr)).1 = 0 → (hL cm_Lw_free f (f_RS_free F A gr)).2.1 (0 : Int32).toNatClampNeg = (f_Mo_free G B gr).1.toInt64) := ansL (op_free rel gr)
theorem sim_meets (rel : LR F A G B) (gr oth : Int32) : LR (f_RS_meets F A gr oth).2.2.1 (f_RS_meets F A gr oth).2.2.2 (f_Mo_meets G B gr oth).2.1 (f_Mo_meets G B gr oth).2.2 := (op_meets rel gr oth).2
theorem ans_meets (rel : LR F A G B) (gr oth : Int32) (f : Nat → Int64) : f_Mo_thrown (f_Mo_meets G B gr oth).2.1 (f_Mo_meets G B gr oth).2.2 = (hB cm_Lw_meets f (f_RS_meets F A gr oth)).1 ∧ ((hB cm_Lw_meets f (f_RS_meets F A gr oth)).1 = 0 → (hB cm_Lw_meets f (f_RS_meets F A gr oth)).2.1 (0 : Int32).toNatClampNeg = if (f_Mo_meets G B gr oth).1 = 0 then 0 else 1) := ansB (op_meets rel gr oth)
theorem sim_step (rel : LR F A G B) (rb pc : Int32) : LR (f_RS_step F A rb pc).2.2.1 (f_RS_step F A rb pc).2.2.2 (f_Mo_step G B rb pc).2.1 (f_Mo_step G B rb pc).2.2 := (op_step rel rb pc).2
theorem ans_step (rel : LR F A G B) (rb pc : Int32) (f : Nat → Int64) : f_Mo_thrown (f_Mo_step G B rb pc).2.1 (f_Mo_step G B rb pc).2.2 = (hL cm_Lw_step f (f_RS_step F A rb pc)).1 ∧ ((hL cm_Lw_step f (f_RS_step F A rb pc)).1 = 0 → (hL cm_Lw_step f (f_RS_step F A rb pc)).2.1 (0 : Int32).toNatClampNeg = (f_Mo_step G B rb pc).1.toInt64) := ansL (op_step rel rb pc)
theorem sim_pull (rel : LR F A G B) (rb : Int32) : LR (f_RS_pull F A rb).2.2.1 (f_RS_pull F A rb).2.2.2 (f_Mo_pull G B rb).2.1 (f_Mo_pull G B rb).2.2 := (op_pull rel rb).2
theorem ans_pull (rel : LR F A G B) (rb : Int32) (f : Nat → Int64) : f_Mo_thrown (f_Mo_pull G B rb).2.1 (f_Mo_pull G B rb).2.2 = (hL cm_Lw_pull f (f_RS_pull F A rb)).1 ∧ ((hL cm_Lw_pull f (f_RS_pull F A rb)).1 = 0 → (hL cm_Lw_pull f (f_RS_pull F A rb)).2.1 (0 : Int32).toNatClampNeg = (f_Mo_pull G B rb).1.toInt64) := ansL (op_pull rel rb)
theorem sim_await (rel : LR F A G B) (rb pc : Int32) : LR (f_RS_await F A rb pc).2.2.1 (f_RS_await F A rb pc).2.2.2 (f_Mo_await G B rb pc).2.1 (f_Mo_await G B rb pc).2.2 := (op_await rel rb pc).2
theorem ans_await (rel : LR F A G B) (rb pc : Int32) (f : Nat → Int64) : f_Mo_thrown (f_Mo_await G B rb pc).2.1 (f_Mo_await G B rb pc).2.2 = (hL cm_Lw_await f (f_RS_await F A rb pc)).1 ∧ ((hL cm_Lw_await f (f_RS_await F A rb pc)).1 = 0 → (hL cm_Lw_await f (f_RS_await F A rb pc)).2.1 (0 : Int32).toNatClampNeg = (f_Mo_await G B rb pc).1.toInt64) := ansL (op_await rel rb pc)
theorem sim_next (rel : LR F A G B) (pc : Int32) : LR (f_RS_next F A pc).2.2.1 (f_RS_next F A pc).2.2.2 (f_Mo_next G B pc).2.1 (f_Mo_next G B pc).2.2 := (op_next rel pc).2
theorem ans_next (rel : LR F A G B) (pc : Int32) (f : Nat → Int64) : f_Mo_thrown (f_Mo_next G B pc).2.1 (f_Mo_next G B pc).2.2 = (hL cm_Lw_next f (f_RS_next F A pc)).1 ∧ ((hL cm_Lw_next f (f_RS_next F A pc)).1 = 0 → (hL cm_Lw_next f (f_RS_next F A pc)).2.1 (0 : Int32).toNatClampNeg = (f_Mo_next G B pc).1.toInt64) := ansL (op_next rel pc)
theorem sim_zone (rel : LR F A G B) (pc on : Int32) : LR (f_RS_zone F A pc on).2.2.1 (f_RS_zone F A pc on).2.2.2 (f_Mo_zone G B pc on).2.1 (f_Mo_zone G B pc on).2.2 := (op_zone rel pc on).2
theorem ans_zone (rel : LR F A G B) (pc on : Int32) (f : Nat → Int64) : f_Mo_thrown (f_Mo_zone G B pc on).2.1 (f_Mo_zone G B pc on).2.2 = (hL cm_Lw_zone f (f_RS_zone F A pc on)).1 ∧ ((hL cm_Lw_zone f (f_RS_zone F A pc on)).1 = 0 → (hL cm_Lw_zone f (f_RS_zone F A pc on)).2.1 (0 : Int32).toNatClampNeg = (f_Mo_zone G B pc on).1.toInt64) := ansL (op_zone rel pc on)
theorem sim_halt (rel : LR F A G B) (rb on : Int32) : LR (f_RS_halt F A rb on).2.2.1 (f_RS_halt F A rb on).2.2.2 (f_Mo_halt G B rb on).2.1 (f_Mo_halt G B rb on).2.2 := (op_halt rel rb on).2
theorem ans_halt (rel : LR F A G B) (rb on : Int32) (f : Nat → Int64) : f_Mo_thrown (f_Mo_halt G B rb on).2.1 (f_Mo_halt G B rb on).2.2 = (hL cm_Lw_halt f (f_RS_halt F A rb on)).1 ∧ ((hL cm_Lw_halt f (f_RS_halt F A rb on)).1 = 0 → (hL cm_Lw_halt f (f_RS_halt F A rb on)).2.1 (0 : Int32).toNatClampNeg = (f_Mo_halt G B rb on).1.toInt64) := ansL (op_halt rel rb on)
theorem sim_report (rel : LR F A G B) (rb : Int32) : LR (f_RS_report F A rb).2.2.1 (f_RS_report F A rb).2.2.2 (f_Mo_report G B rb).2.1 (f_Mo_report G B rb).2.2 := (op_report rel rb).2
theorem ans_report (rel : LR F A G B) (rb : Int32) (f : Nat → Int64) : f_Mo_thrown (f_Mo_report G B rb).2.1 (f_Mo_report G B rb).2.2 = (hB cm_Lw_report f (f_RS_report F A rb)).1 ∧ ((hB cm_Lw_report f (f_RS_report F A rb)).1 = 0 → (hB cm_Lw_report f (f_RS_report F A rb)).2.1 (0 : Int32).toNatClampNeg = if (f_Mo_report G B rb).1 = 0 then 0 else 1) := ansB (op_report rel rb)
theorem sim_pass (rel : LR F A G B) (tm : Int32) : LR (f_RS_pass F A tm).2.2.1 (f_RS_pass F A tm).2.2.2 (f_Mo_pass G B tm).2.1 (f_Mo_pass G B tm).2.2 := (op_pass rel tm).2
theorem ans_pass (rel : LR F A G B) (tm : Int32) (f : Nat → Int64) : f_Mo_thrown (f_Mo_pass G B tm).2.1 (f_Mo_pass G B tm).2.2 = (hL cm_Lw_pass f (f_RS_pass F A tm)).1 ∧ ((hL cm_Lw_pass f (f_RS_pass F A tm)).1 = 0 → (hL cm_Lw_pass f (f_RS_pass F A tm)).2.1 (0 : Int32).toNatClampNeg = (f_Mo_pass G B tm).1.toInt64) := ansL (op_pass rel tm)
theorem sim_told (rel : LR F A G B) (rb wh : Int32) : LR (f_RS_told F A rb wh).2.2.1 (f_RS_told F A rb wh).2.2.2 (f_Mo_told G B rb wh).2.1 (f_Mo_told G B rb wh).2.2 := (op_told rel rb wh).2
theorem ans_told (rel : LR F A G B) (rb wh : Int32) (f : Nat → Int64) : f_Mo_thrown (f_Mo_told G B rb wh).2.1 (f_Mo_told G B rb wh).2.2 = (hL cm_Lw_told f (f_RS_told F A rb wh)).1 ∧ ((hL cm_Lw_told f (f_RS_told F A rb wh)).1 = 0 → (hL cm_Lw_told f (f_RS_told F A rb wh)).2.1 (0 : Int32).toNatClampNeg = (f_Mo_told G B rb wh).1.toInt64) := ansL (op_told rel rb wh)
theorem sim_grant (rel : LR F A G B) (gr wh : Int32) : LR (f_RS_grant F A gr wh).2.2.1 (f_RS_grant F A gr wh).2.2.2 (f_Mo_grant G B gr wh).2.1 (f_Mo_grant G B gr wh).2.2 := (op_grant rel gr wh).2
theorem ans_grant (rel : LR F A G B) (gr wh : Int32) (f : Nat → Int64) : f_Mo_thrown (f_Mo_grant G B gr wh).2.1 (f_Mo_grant G B gr wh).2.2 = (hL cm_Lw_grant f (f_RS_grant F A gr wh)).1 ∧ ((hL cm_Lw_grant f (f_RS_grant F A gr wh)).1 = 0 → (hL cm_Lw_grant f (f_RS_grant F A gr wh)).2.1 (0 : Int32).toNatClampNeg = (f_Mo_grant G B gr wh).1.toInt64) := ansL (op_grant rel gr wh)
end
