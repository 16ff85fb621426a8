theorem nx_and (a b : Nat) : nI a &&& nI b = nI (a &&& b) := by
  apply Int32.toBitVec_inj.1
  show BitVec.ofNat 32 a &&& BitVec.ofNat 32 b = BitVec.ofNat 32 (a &&& b)
  apply BitVec.eq_of_getLsbD_eq
  intro i hi
  simp [hi]
theorem nx_cnt : ∀ j : Fin 32, (UInt32.ofNat j.val &&& Int32.toUInt32 31).toNat % 32 = j.val := by decide +kernel
theorem nx_ush {k j : Nat} (hk : k < 65536) (hj : j < 32) : ((nI k).toUInt32 >>> ((nI j).toUInt32 &&& Int32.toUInt32 31)).toInt32 = nI (k >>> j) := by
  have hs : k >>> j ≤ k := by
    rw [Nat.shiftRight_eq_div_pow]
    exact Nat.div_le_self _ _
  have e2 : UInt32.ofNat k >>> (UInt32.ofNat j &&& Int32.toUInt32 31) = UInt32.ofNat (k >>> j) := by
    apply UInt32.toNat_inj.1
    have h1 : (UInt32.ofNat k).toNat = k := Nat.mod_eq_of_lt (by omega)
    have h2 : (UInt32.ofNat (k >>> j)).toNat = k >>> j := Nat.mod_eq_of_lt (by omega)
    rw [UInt32.toNat_shiftRight, nx_cnt ⟨j, hj⟩, h1, h2]
  show (UInt32.ofNat k >>> (UInt32.ofNat j &&& Int32.toUInt32 31)).toInt32 = _
  rw [e2]
  rfl
theorem i16lit {x : Int32} (h0 : 0 ≤ x.toInt) (h1 : x.toInt < 16) : Int32.ofNat x.toNatClampNeg = x := by
  rcases (show x.toInt = 0 ∨ x.toInt = 1 ∨ x.toInt = 2 ∨ x.toInt = 3 ∨ x.toInt = 4 ∨ x.toInt = 5 ∨ x.toInt = 6 ∨ x.toInt = 7 ∨ x.toInt = 8 ∨ x.toInt = 9 ∨ x.toInt = 10 ∨ x.toInt = 11 ∨ x.toInt = 12 ∨ x.toInt = 13 ∨ x.toInt = 14 ∨ x.toInt = 15 by omega) with q | q | q | q | q | q | q | q | q | q | q | q | q | q | q | q
  · rw [i32_ext (x := x) (y := 0) q]; rfl
  · rw [i32_ext (x := x) (y := 1) q]; rfl
  · rw [i32_ext (x := x) (y := 2) q]; rfl
  · rw [i32_ext (x := x) (y := 3) q]; rfl
  · rw [i32_ext (x := x) (y := 4) q]; rfl
  · rw [i32_ext (x := x) (y := 5) q]; rfl
  · rw [i32_ext (x := x) (y := 6) q]; rfl
  · rw [i32_ext (x := x) (y := 7) q]; rfl
  · rw [i32_ext (x := x) (y := 8) q]; rfl
  · rw [i32_ext (x := x) (y := 9) q]; rfl
  · rw [i32_ext (x := x) (y := 10) q]; rfl
  · rw [i32_ext (x := x) (y := 11) q]; rfl
  · rw [i32_ext (x := x) (y := 12) q]; rfl
  · rw [i32_ext (x := x) (y := 13) q]; rfl
  · rw [i32_ext (x := x) (y := 14) q]; rfl
  · rw [i32_ext (x := x) (y := 15) q]; rfl
theorem sh1 : ∀ k : Nat, k < 16 → ∀ i : Nat, i < 32 → lnk ((1 : Int32) <<< (Int32.ofNat k &&& 31)) i = decide (i = k) := by decide +kernel
theorem sh2 : ∀ k : Nat, k < 16 → ∀ i : Nat, i < 32 → lnk (((1 : Int32) <<< (Int32.ofNat k &&& 31)) ^^^ (-1)) i = !decide (i = k) := by decide +kernel
theorem sh3 : ∀ k : Nat, k < 16 → ((Int32.ofNat k &&& 31).toBitVec.smod 32).toNat = k := by decide +kernel
theorem sh4 : ∀ i : Nat, i < 32 → (1 : Int32).toBitVec.getLsbD i = decide (i = 0) := by decide +kernel
theorem lnk_ge {x : Int32} {i : Nat} (h : ¬ i < 32) : lnk x i = false := BitVec.getLsbD_of_ge _ _ (by omega)
theorem lnk_or {x k : Int32} (h0 : 0 ≤ k.toInt) (h1 : k.toInt < 16) (i : Nat) : lnk (x ||| ((1 : Int32) <<< (k &&& 31))) i = (lnk x i || decide (i = k.toNatClampNeg)) := by
  have t := toN h0
  by_cases h : i < 32
  · have e := sh1 k.toNatClampNeg (by omega) i h
    rw [i16lit h0 h1] at e
    rw [← e]
    unfold lnk
    rw [Int32.toBitVec_or, BitVec.getLsbD_or]
  · rw [lnk_ge h, lnk_ge h, decide_eq_false (by omega)]
    rfl
theorem lnk_an {x k : Int32} (h0 : 0 ≤ k.toInt) (h1 : k.toInt < 16) (i : Nat) : lnk (x &&& (((1 : Int32) <<< (k &&& 31)) ^^^ (-1))) i = (lnk x i && !decide (i = k.toNatClampNeg)) := by
  have t := toN h0
  by_cases h : i < 32
  · have e := sh2 k.toNatClampNeg (by omega) i h
    rw [i16lit h0 h1] at e
    rw [← e]
    unfold lnk
    rw [Int32.toBitVec_and, BitVec.getLsbD_and]
  · rw [lnk_ge h, lnk_ge h]
    rfl
theorem and1 (y : Int32) : y &&& 1 = 1 ↔ lnk y 0 = true := by
  unfold lnk
  constructor
  · intro h
    have e := congrArg (fun z : Int32 => z.toBitVec.getLsbD 0) h
    have e : (y &&& 1).toBitVec.getLsbD 0 = (1 : Int32).toBitVec.getLsbD 0 := e
    rw [Int32.toBitVec_and, BitVec.getLsbD_and, sh4 0 (by decide)] at e
    simpa using e
  · intro h
    refine Int32.toBitVec_inj.mp (BitVec.eq_of_getLsbD_eq fun i hi => ?_)
    rw [Int32.toBitVec_and, BitVec.getLsbD_and, sh4 i hi]
    by_cases q : i = 0
    · rw [q, h]
      rfl
    · rw [decide_eq_false q, Bool.and_false]
theorem lnk_test {x k : Int32} (h0 : 0 ≤ k.toInt) (h1 : k.toInt < 16) : (x >>> (k &&& 31)) &&& 1 = 1 ↔ lnk x k.toNatClampNeg = true := by
  have t := toN h0
  have e := sh3 k.toNatClampNeg (by omega)
  rw [i16lit h0 h1] at e
  rw [and1]
  unfold lnk
  rw [Int32.toBitVec_shiftRight, BitVec.sshiftRight', BitVec.getLsbD_sshiftRight, e, if_pos (show k.toNatClampNeg + 0 < 32 by omega)]
  simp
theorem lk_step {F : Nat → Int32} {A : Nat → Nat → Int32} {B : Nat → Nat → Int32} {n : Int32} (h : LKR n (A 0) (B 1)) (u v : Int32) (u0 : 0 ≤ u.toInt) (u1 : u.toInt < 16) (v0 : 0 ≤ v.toInt) (v1 : v.toInt < 16) : B 1 ((16 * u) + v).toNatClampNeg = 0 ↔ f_RS_areLinked F A v u = 0 := by
  have tu := toN u0
  have tv := toN v0
  have h1 : (16 * u).toInt = 16 * u.toInt := by
    rw [Int32.toInt_mul, show (16 : Int32).toInt = 16 from rfl, Int.bmod_eq_of_le] <;> omega
  have h2 : (16 * u + v).toInt = 16 * u.toInt + v.toInt := by
    rw [Int32.toInt_add, h1, Int.bmod_eq_of_le] <;> omega
  have h3 : ((16 * u) + v).toNatClampNeg = 16 * u.toNatClampNeg + v.toNatClampNeg := by
    have := toN (i := 16 * u + v) (by omega)
    omega
  rw [h3, h.1 _ _ (by omega) (by omega), h.2.1 _ _ (by omega) (by omega)]
  unfold f_RS_areLinked
  rw [ite01, lnk_test u0 u1]
  cases lnk (A 0 v.toNatClampNeg) u.toNatClampNeg <;> simp
def ctf (f : Nat → Bool) : Nat → Nat → Int32
  | 0, _ => 0
  | m + 1, k => (if f k then 1 else 0) + ctf f m (k + 1)
theorem ctf_ext {f g : Nat → Bool} : ∀ (m k : Nat), (∀ j : Nat, k ≤ j → j < k + m → f j = g j) → ctf f m k = ctf g m k := by
  intro m
  induction m with
  | zero => intro k h; rfl
  | succ m ih =>
    intro k h
    rw [ctf, ctf, h k (by omega) (by omega), ih (k + 1) (fun j a b => h j (by omega) (by omega))]
theorem ctf_zero {f : Nat → Bool} : ∀ (m k : Nat), (∀ j : Nat, k ≤ j → f j = false) → ctf f m k = 0 := by
  intro m
  induction m with
  | zero => intro k h; rfl
  | succ m ih =>
    intro k h
    rw [ctf, h k (by omega), ih (k + 1) (fun j a => h j (by omega))]
    rfl
theorem ctf_cut {f : Nat → Bool} : ∀ (m d k : Nat), (∀ j : Nat, k + m ≤ j → f j = false) → ctf f (m + d) k = ctf f m k := by
  intro m
  induction m with
  | zero => intro d k h; rw [Nat.zero_add]; exact ctf_zero d k (fun j q => h j (by omega))
  | succ m ih =>
    intro d k h
    rw [show m + 1 + d = (m + d) + 1 by omega, ctf, ctf, ih d (k + 1) (fun j q => h j (by omega))]
theorem nI_sb {a b : Nat} (h : b ≤ a) : nI a - nI b = nI (a - b) := by
  have e := nI_add (a - b) b
  rw [Nat.sub_add_cancel h] at e
  rw [← e, Int32.add_sub_cancel]
theorem bcs {m j : Nat} (h : m < 65536) (hj : j < 32) : bc_s (nI m) (nI j) = nI (m >>> j) := nx_ush h hj
