def atOK (n : Int) (a : Nat → Int32) : Prop := ∀ j : Nat, (j : Int) < n → vp_in (a j) 16
def LR (F : Nat → Int32) (A : Nat → Nat → Int32) (G : Nat → Int32) (B : Nat → Nat → Int32) : Prop := CI F ∧ SI G ∧ G 2 = F 1 ∧ atOK (G 3).toInt (B 2)
section
variable {F : Nat → Int32} {A : Nat → Nat → Int32} {G : Nat → Int32} {B : Nat → Nat → Int32}
theorem LR.ci (h : LR F A G B) : CI F := h.1
theorem LR.si (h : LR F A G B) : SI G := h.2.1
theorem LR.at (h : LR F A G B) : ∀ j : Nat, (j : Int) < (G 3).toInt → vp_in (B 2 j) 16 := h.2.2.2
theorem hL_st {cm : Nat → Int32} {f : Nat → Int64} {x : Nat × Int32 × SC} : (hL cm f x).2.2 = x.2.2 := by unfold hL; split <;> rfl
theorem hB_st {cm : Nat → Int32} {f : Nat → Int64} {x : Nat × Int32 × SC} : (hB cm f x).2.2 = x.2.2 := by unfold hB; split <;> rfl
theorem lr_start : LR (fun _ => 0) (fun _ _ => 0) (fun _ => 0) (fun _ _ => 0) := by
  have h0 : (0 : Int32).toInt = 0 := rfl
  refine ⟨⟨⟨?_, ?_⟩, ⟨?_, ?_⟩, ?_, ?_⟩, ⟨⟨?_, ?_⟩, ⟨?_, ?_⟩, ?_, ?_⟩, rfl, fun j hj => ?_⟩
  all_goals first | exact absurd hj (by show ¬ ((j : Int) < (0 : Int32).toInt); omega) | decide
theorem lgc_self {x y : Int64} (h : x = y) : lg_cmp x y = 0 := by
  subst h
  unfold lg_cmp
  rw [if_neg (fun h => absurd h (Int64.lt_irrefl x)), if_pos rfl]
theorem sim_piece (rel : LR F A G B) : LR (f_RS_piece F A ).2.2.1 (f_RS_piece F A ).2.2.2 (f_Mo_piece G B ).2.1 (f_Mo_piece G B ).2.2 := by
  sorry
theorem sim_link (rel : LR F A G B) (pc oth on : Int32) : LR (f_RS_link F A pc oth on).2.2.1 (f_RS_link F A pc oth on).2.2.2 (f_Mo_link G B pc oth on).2.1 (f_Mo_link G B pc oth on).2.2 := by
  sorry
theorem sim_robot (rel : LR F A G B) (pc tl : Int32) : LR (f_RS_robot F A pc tl).2.2.1 (f_RS_robot F A pc tl).2.2.2 (f_Mo_robot G B pc tl).2.1 (f_Mo_robot G B pc tl).2.2 := by
  sorry
theorem sim_ask (rel : LR F A G B) (rb pc fr tt pr : Int32) : LR (f_RS_ask F A rb pc fr tt pr).2.2.1 (f_RS_ask F A rb pc fr tt pr).2.2.2 (f_Mo_ask G B rb pc fr tt pr).2.1 (f_Mo_ask G B rb pc fr tt pr).2.2 := by
  sorry
theorem sim_free (rel : LR F A G B) (gr : Int32) : LR (f_RS_free F A gr).2.2.1 (f_RS_free F A gr).2.2.2 (f_Mo_free G B gr).2.1 (f_Mo_free G B gr).2.2 := by
  sorry
theorem sim_meets (rel : LR F A G B) (gr oth : Int32) : LR (f_RS_meets F A gr oth).2.2.1 (f_RS_meets F A gr oth).2.2.2 (f_Mo_meets G B gr oth).2.1 (f_Mo_meets G B gr oth).2.2 := by
  sorry
theorem sim_step (rel : LR F A G B) (rb pc : Int32) : LR (f_RS_step F A rb pc).2.2.1 (f_RS_step F A rb pc).2.2.2 (f_Mo_step G B rb pc).2.1 (f_Mo_step G B rb pc).2.2 := by
  sorry
theorem sim_pull (rel : LR F A G B) (rb : Int32) : LR (f_RS_pull F A rb).2.2.1 (f_RS_pull F A rb).2.2.2 (f_Mo_pull G B rb).2.1 (f_Mo_pull G B rb).2.2 := by
  sorry
theorem sim_await (rel : LR F A G B) (rb pc : Int32) : LR (f_RS_await F A rb pc).2.2.1 (f_RS_await F A rb pc).2.2.2 (f_Mo_await G B rb pc).2.1 (f_Mo_await G B rb pc).2.2 := by
  sorry
theorem sim_next (rel : LR F A G B) (pc : Int32) : LR (f_RS_next F A pc).2.2.1 (f_RS_next F A pc).2.2.2 (f_Mo_next G B pc).2.1 (f_Mo_next G B pc).2.2 := by
  sorry
theorem sim_zone (rel : LR F A G B) (pc on : Int32) : LR (f_RS_zone F A pc on).2.2.1 (f_RS_zone F A pc on).2.2.2 (f_Mo_zone G B pc on).2.1 (f_Mo_zone G B pc on).2.2 := by
  sorry
theorem sim_halt (rel : LR F A G B) (rb on : Int32) : LR (f_RS_halt F A rb on).2.2.1 (f_RS_halt F A rb on).2.2.2 (f_Mo_halt G B rb on).2.1 (f_Mo_halt G B rb on).2.2 := by
  sorry
theorem sim_report (rel : LR F A G B) (rb : Int32) : LR (f_RS_report F A rb).2.2.1 (f_RS_report F A rb).2.2.2 (f_Mo_report G B rb).2.1 (f_Mo_report G B rb).2.2 := by
  sorry
theorem sim_pass (rel : LR F A G B) (tm : Int32) : LR (f_RS_pass F A tm).2.2.1 (f_RS_pass F A tm).2.2.2 (f_Mo_pass G B tm).2.1 (f_Mo_pass G B tm).2.2 := by
  sorry
theorem sim_holder (rel : LR F A G B) (pc tm : Int32) : LR (f_RS_holder F A pc tm).2.2.1 (f_RS_holder F A pc tm).2.2.2 (f_Mo_holder G B pc tm).2.1 (f_Mo_holder G B pc tm).2.2 := by
  sorry
theorem sim_told (rel : LR F A G B) (rb wh : Int32) : LR (f_RS_told F A rb wh).2.2.1 (f_RS_told F A rb wh).2.2.2 (f_Mo_told G B rb wh).2.1 (f_Mo_told G B rb wh).2.2 := by
  sorry
theorem sim_grant (rel : LR F A G B) (gr wh : Int32) : LR (f_RS_grant F A gr wh).2.2.1 (f_RS_grant F A gr wh).2.2.2 (f_Mo_grant G B gr wh).2.1 (f_Mo_grant G B gr wh).2.2 := by
  sorry
theorem sim_count (rel : LR F A G B) (wh : Int32) : LR F A (f_Mo_count G B wh).2.1 (f_Mo_count G B wh).2.2 := by
  sorry
theorem ans_piece (rel : LR F A G B) (f : Nat → Int64) : f_Mo_thrown (f_Mo_piece G B).2.1 (f_Mo_piece G B).2.2 = (hL cm_Lw_piece f (f_RS_piece F A)).1 ∧ ((hL cm_Lw_piece f (f_RS_piece F A)).1 = 0 → (hL cm_Lw_piece f (f_RS_piece F A)).2.1 (0 : Int32).toNatClampNeg = (f_Mo_piece G B).1.toInt64) := by
  sorry
end
