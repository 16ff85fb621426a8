theorem nx_and (a b : Nat) : nI a &&& nI b = nI (a &&& b) := by
  apply Int32.toBitVec_inj.1
  show BitVec.ofNat 32 a &&& BitVec.ofNat 32 b = BitVec.ofNat 32 (a &&& b)
  apply BitVec.eq_of_getLsbD_eq
  intro i hi
  simp [hi]
theorem nx_cnt : ∀ j : Fin 32, (UInt32.ofNat j.val &&& Int32.toUInt32 31).toNat % 32 = j.val := by decide +kernel
theorem nx_ush {k j : Nat} (hk : k < 65536) (hj : j < 32) : ((nI k).toUInt32 >>> ((nI j).toUInt32 &&& Int32.toUInt32 31)).toInt32 = nI (k >>> j) := by
  have hs : k >>> j ≤ k := by
    rw [Nat.shiftRight_eq_div_pow]
    exact Nat.div_le_self _ _
  have e2 : UInt32.ofNat k >>> (UInt32.ofNat j &&& Int32.toUInt32 31) = UInt32.ofNat (k >>> j) := by
    apply UInt32.toNat_inj.1
    have h1 : (UInt32.ofNat k).toNat = k := Nat.mod_eq_of_lt (by omega)
    have h2 : (UInt32.ofNat (k >>> j)).toNat = k >>> j := Nat.mod_eq_of_lt (by omega)
    rw [UInt32.toNat_shiftRight, nx_cnt ⟨j, hj⟩, h1, h2]
  show (UInt32.ofNat k >>> (UInt32.ofNat j &&& Int32.toUInt32 31)).toInt32 = _
  rw [e2]
  rfl
theorem i16lit {x : Int32} (h0 : 0 ≤ x.toInt) (h1 : x.toInt < 16) : Int32.ofNat x.toNatClampNeg = x := by
  rcases (show x.toInt = 0 ∨ x.toInt = 1 ∨ x.toInt = 2 ∨ x.toInt = 3 ∨ x.toInt = 4 ∨ x.toInt = 5 ∨ x.toInt = 6 ∨ x.toInt = 7 ∨ x.toInt = 8 ∨ x.toInt = 9 ∨ x.toInt = 10 ∨ x.toInt = 11 ∨ x.toInt = 12 ∨ x.toInt = 13 ∨ x.toInt = 14 ∨ x.toInt = 15 by omega) with q | q | q | q | q | q | q | q | q | q | q | q | q | q | q | q
  · rw [i32_ext (x := x) (y := 0) q]; rfl
  · rw [i32_ext (x := x) (y := 1) q]; rfl
  · rw [i32_ext (x := x) (y := 2) q]; rfl
  · rw [i32_ext (x := x) (y := 3) q]; rfl
  · rw [i32_ext (x := x) (y := 4) q]; rfl
  · rw [i32_ext (x := x) (y := 5) q]; rfl
  · rw [i32_ext (x := x) (y := 6) q]; rfl
  · rw [i32_ext (x := x) (y := 7) q]; rfl
  · rw [i32_ext (x := x) (y := 8) q]; rfl
  · rw [i32_ext (x := x) (y := 9) q]; rfl
  · rw [i32_ext (x := x) (y := 10) q]; rfl
  · rw [i32_ext (x := x) (y := 11) q]; rfl
  · rw [i32_ext (x := x) (y := 12) q]; rfl
  · rw [i32_ext (x := x) (y := 13) q]; rfl
  · rw [i32_ext (x := x) (y := 14) q]; rfl
  · rw [i32_ext (x := x) (y := 15) q]; rfl
theorem sh1 : ∀ k : Nat, k < 16 → ∀ i : Nat, i < 32 → lnk ((1 : Int32) <<< (Int32.ofNat k &&& 31)) i = decide (i = k) := by decide +kernel
theorem sh2 : ∀ k : Nat, k < 16 → ∀ i : Nat, i < 32 → lnk (((1 : Int32) <<< (Int32.ofNat k &&& 31)) ^^^ (-1)) i = !decide (i = k) := by decide +kernel
theorem sh3 : ∀ k : Nat, k < 16 → ((Int32.ofNat k &&& 31).toBitVec.smod 32).toNat = k := by decide +kernel
theorem sh4 : ∀ i : Nat, i < 32 → (1 : Int32).toBitVec.getLsbD i = decide (i = 0) := by decide +kernel
theorem lnk_ge {x : Int32} {i : Nat} (h : ¬ i < 32) : lnk x i = false := BitVec.getLsbD_of_ge _ _ (by omega)
theorem lnk_or {x k : Int32} (h0 : 0 ≤ k.toInt) (h1 : k.toInt < 16) (i : Nat) : lnk (x ||| ((1 : Int32) <<< (k &&& 31))) i = (lnk x i || decide (i = k.toNatClampNeg)) := by
  have t := toN h0
  by_cases h : i < 32
  · have e := sh1 k.toNatClampNeg (by omega) i h
    rw [i16lit h0 h1] at e
    rw [← e]
    unfold lnk
    rw [Int32.toBitVec_or, BitVec.getLsbD_or]
  · rw [lnk_ge h, lnk_ge h, decide_eq_false (by omega)]
    rfl
theorem lnk_an {x k : Int32} (h0 : 0 ≤ k.toInt) (h1 : k.toInt < 16) (i : Nat) : lnk (x &&& (((1 : Int32) <<< (k &&& 31)) ^^^ (-1))) i = (lnk x i && !decide (i = k.toNatClampNeg)) := by
  have t := toN h0
  by_cases h : i < 32
  · have e := sh2 k.toNatClampNeg (by omega) i h
    rw [i16lit h0 h1] at e
    rw [← e]
    unfold lnk
    rw [Int32.toBitVec_and, BitVec.getLsbD_and]
  · rw [lnk_ge h, lnk_ge h]
    rfl
theorem and1 (y : Int32) : y &&& 1 = 1 ↔ lnk y 0 = true := by
  unfold lnk
  constructor
  · intro h
    have e := congrArg (fun z : Int32 => z.toBitVec.getLsbD 0) h
    have e : (y &&& 1).toBitVec.getLsbD 0 = (1 : Int32).toBitVec.getLsbD 0 := e
    rw [Int32.toBitVec_and, BitVec.getLsbD_and, sh4 0 (by decide)] at e
    simpa using e
  · intro h
    refine Int32.toBitVec_inj.mp (BitVec.eq_of_getLsbD_eq fun i hi => ?_)
    rw [Int32.toBitVec_and, BitVec.getLsbD_and, sh4 i hi]
    by_cases q : i = 0
    · rw [q, h]
      rfl
    · rw [decide_eq_false q, Bool.and_false]
theorem lnk_test {x k : Int32} (h0 : 0 ≤ k.toInt) (h1 : k.toInt < 16) : (x >>> (k &&& 31)) &&& 1 = 1 ↔ lnk x k.toNatClampNeg = true := by
  have t := toN h0
  have e := sh3 k.toNatClampNeg (by omega)
  rw [i16lit h0 h1] at e
  rw [and1]
  unfold lnk
  rw [Int32.toBitVec_shiftRight, BitVec.sshiftRight', BitVec.getLsbD_sshiftRight, e, if_pos (show k.toNatClampNeg + 0 < 32 by omega)]
  simp
theorem lk_step {F : Nat → Int32} {A : Nat → Nat → Int32} {B : Nat → Nat → Int32} {n : Int32} (h : LKR n (A 0) (B 1)) (u v : Int32) (u0 : 0 ≤ u.toInt) (u1 : u.toInt < 16) (v0 : 0 ≤ v.toInt) (v1 : v.toInt < 16) : B 1 ((16 * u) + v).toNatClampNeg = 0 ↔ f_RS_areLinked F A v u = 0 := by
  have tu := toN u0
  have tv := toN v0
  have h1 : (16 * u).toInt = 16 * u.toInt := by
    rw [Int32.toInt_mul, show (16 : Int32).toInt = 16 from rfl, Int.bmod_eq_of_le] <;> omega
  have h2 : (16 * u + v).toInt = 16 * u.toInt + v.toInt := by
    rw [Int32.toInt_add, h1, Int.bmod_eq_of_le] <;> omega
  have h3 : ((16 * u) + v).toNatClampNeg = 16 * u.toNatClampNeg + v.toNatClampNeg := by
    have := toN (i := 16 * u + v) (by omega)
    omega
  rw [h3, h.1 _ _ (by omega) (by omega), h.2.1 _ _ (by omega) (by omega)]
  unfold f_RS_areLinked
  rw [ite01, lnk_test u0 u1]
  cases lnk (A 0 v.toNatClampNeg) u.toNatClampNeg <;> simp
def ctf (f : Nat → Bool) : Nat → Nat → Int32
  | 0, _ => 0
  | m + 1, k => (if f k then 1 else 0) + ctf f m (k + 1)
theorem ctf_ext {f g : Nat → Bool} : ∀ (m k : Nat), (∀ j : Nat, k ≤ j → j < k + m → f j = g j) → ctf f m k = ctf g m k := by
  intro m
  induction m with
  | zero => intro k h; rfl
  | succ m ih =>
    intro k h
    rw [ctf, ctf, h k (by omega) (by omega), ih (k + 1) (fun j a b => h j (by omega) (by omega))]
theorem ctf_zero {f : Nat → Bool} : ∀ (m k : Nat), (∀ j : Nat, k ≤ j → f j = false) → ctf f m k = 0 := by
  intro m
  induction m with
  | zero => intro k h; rfl
  | succ m ih =>
    intro k h
    rw [ctf, h k (by omega), ih (k + 1) (fun j a => h j (by omega))]
    rfl
theorem ctf_cut {f : Nat → Bool} : ∀ (m d k : Nat), (∀ j : Nat, k + m ≤ j → f j = false) → ctf f (m + d) k = ctf f m k := by
  intro m
  induction m with
  | zero => intro d k h; rw [Nat.zero_add]; exact ctf_zero d k (fun j q => h j (by omega))
  | succ m ih =>
    intro d k h
    rw [show m + 1 + d = (m + d) + 1 by omega, ctf, ctf, ih d (k + 1) (fun j q => h j (by omega))]
def frc (n : Nat) (f : Nat → Bool) : Bool := match n with
  | 0 => f 0
  | k + 1 => f (Nat.succ k)
theorem frc_eq {n : Nat} {f : Nat → Bool} : frc n f = f n := by cases n <;> rfl
def ctE (m : Nat) : Nat := (m &&& 1) + ((m >>> 1) &&& 1) + ((m >>> 2) &&& 1) + ((m >>> 3) &&& 1) + ((m >>> 4) &&& 1) + ((m >>> 5) &&& 1) + ((m >>> 6) &&& 1) + ((m >>> 7) &&& 1) + ((m >>> 8) &&& 1) + ((m >>> 9) &&& 1) + ((m >>> 10) &&& 1) + ((m >>> 11) &&& 1) + ((m >>> 12) &&& 1) + ((m >>> 13) &&& 1) + ((m >>> 14) &&& 1) + ((m >>> 15) &&& 1)
def chk (m : Nat) : Bool := frc m fun m => frc (m - ((m >>> 1) &&& 1431655765)) fun a => frc ((a &&& 858993459) + ((a >>> 2) &&& 858993459)) fun b => frc ((b + (b >>> 4)) &&& 252645135) fun c => frc (c + (c >>> 8)) fun d => frc (d + (d >>> 16)) fun e => (Nat.blt b 65536 && (Nat.blt c 65536 && (Nat.blt d 65536 && Nat.beq (e &&& 63) (ctE m))))
theorem chk_0 : ∀ u : Nat, u < 32 → ∀ v : Nat, v < 256 → chk (256 * (0 + u) + v) = true := by decide +kernel
theorem chk_1 : ∀ u : Nat, u < 32 → ∀ v : Nat, v < 256 → chk (256 * (32 + u) + v) = true := by decide +kernel
theorem chk_2 : ∀ u : Nat, u < 32 → ∀ v : Nat, v < 256 → chk (256 * (64 + u) + v) = true := by decide +kernel
theorem chk_3 : ∀ u : Nat, u < 32 → ∀ v : Nat, v < 256 → chk (256 * (96 + u) + v) = true := by decide +kernel
theorem chk_4 : ∀ u : Nat, u < 32 → ∀ v : Nat, v < 256 → chk (256 * (128 + u) + v) = true := by decide +kernel
theorem chk_5 : ∀ u : Nat, u < 32 → ∀ v : Nat, v < 256 → chk (256 * (160 + u) + v) = true := by decide +kernel
theorem chk_6 : ∀ u : Nat, u < 32 → ∀ v : Nat, v < 256 → chk (256 * (192 + u) + v) = true := by decide +kernel
theorem chk_7 : ∀ u : Nat, u < 32 → ∀ v : Nat, v < 256 → chk (256 * (224 + u) + v) = true := by decide +kernel
theorem chk_all {m : Nat} (h : m < 65536) : chk m = true := by
  have e : ∀ j : Nat, m / 256 / 32 = j → 256 * (32 * j + (m / 256) % 32) + m % 256 = m := fun j q => by omega
  have h1 : (m / 256) % 32 < 32 := by omega
  have h2 : m % 256 < 256 := by omega
  rcases (show m / 256 / 32 = 0 ∨ m / 256 / 32 = 1 ∨ m / 256 / 32 = 2 ∨ m / 256 / 32 = 3 ∨ m / 256 / 32 = 4 ∨ m / 256 / 32 = 5 ∨ m / 256 / 32 = 6 ∨ m / 256 / 32 = 7 by omega) with q | q | q | q | q | q | q | q
  · rw [← e _ q]; exact chk_0 _ h1 _ h2
  · rw [← e _ q]; exact chk_1 _ h1 _ h2
  · rw [← e _ q]; exact chk_2 _ h1 _ h2
  · rw [← e _ q]; exact chk_3 _ h1 _ h2
  · rw [← e _ q]; exact chk_4 _ h1 _ h2
  · rw [← e _ q]; exact chk_5 _ h1 _ h2
  · rw [← e _ q]; exact chk_6 _ h1 _ h2
  · rw [← e _ q]; exact chk_7 _ h1 _ h2
theorem nI_sb {a b : Nat} (h : b ≤ a) : nI a - nI b = nI (a - b) := by
  have e := nI_add (a - b) b
  rw [Nat.sub_add_cancel h] at e
  rw [← e, Int32.add_sub_cancel]
theorem bcs {m j : Nat} (h : m < 65536) (hj : j < 32) : bc_s (nI m) (nI j) = nI (m >>> j) := nx_ush h hj
def ctn (m : Nat) : Nat → Nat → Nat
  | 0, _ => 0
  | k + 1, i => ((m >>> i) &&& 1) + ctn m k (i + 1)
theorem ctn_eq (m : Nat) : ∀ k i : Nat, ctf (fun j => m.testBit j) k i = nI (ctn m k i) := by
  intro k
  induction k with
  | zero => intro i; rfl
  | succ k ih =>
    intro i
    rw [ctf, ctn, ← nI_add, ih (i + 1)]
    have h1 : (m >>> i) &&& 1 = if m.testBit i then 1 else 0 := by
      rw [Nat.and_one_is_mod, Nat.testBit_eq_decide_div_mod_eq, Nat.shiftRight_eq_div_pow]
      generalize m / 2 ^ i = z
      by_cases q : z % 2 = 1
      · rw [q, decide_eq_true rfl]; rfl
      · rw [decide_eq_false q]
        show z % 2 = 0
        omega
    rw [h1]
    cases m.testBit i <;> rfl
theorem ctE_eq (m : Nat) : ctn m 16 0 = ctE m := by
  unfold ctE
  simp only [ctn, Nat.shiftRight_zero, Nat.add_zero, Nat.zero_add, Nat.reduceAdd]
  omega
theorem bc_nat {m : Nat} (h : m < 65536) : f_bitCount (nI m) = ctf (fun i => m.testBit i) 16 0 := by
  have k := chk_all h
  unfold chk at k
  rw [frc_eq, frc_eq, frc_eq, frc_eq, frc_eq, frc_eq] at k
  have ha : (m >>> 1) &&& 1431655765 ≤ m := Nat.le_trans Nat.and_le_left (by rw [Nat.shiftRight_eq_div_pow]; exact Nat.div_le_self _ _)
  have e1 : bc1 (nI m) = nI (m - ((m >>> 1) &&& 1431655765)) := by
    show nI m - (bc_s (nI m) (nI 1) &&& nI 1431655765) = _
    rw [bcs h (by decide), nx_and, nI_sb ha]
  have hA : m - ((m >>> 1) &&& 1431655765) < 65536 := by omega
  generalize m - ((m >>> 1) &&& 1431655765) = a at k e1 hA
  have e2 : bc2 (nI a) = nI ((a &&& 858993459) + ((a >>> 2) &&& 858993459)) := by
    show (nI a &&& nI 858993459) + (bc_s (nI a) (nI 2) &&& nI 858993459) = _
    rw [bcs hA (by decide), nx_and, nx_and, nI_add]
  generalize (a &&& 858993459) + ((a >>> 2) &&& 858993459) = b at k e2
  rw [Bool.and_eq_true, Nat.blt_eq] at k
  obtain ⟨hB, k⟩ := k
  have e3 : bc3 (nI b) = nI ((b + (b >>> 4)) &&& 252645135) := by
    show (nI b + bc_s (nI b) (nI 4)) &&& nI 252645135 = _
    rw [bcs hB (by decide), nI_add, nx_and]
  generalize (b + (b >>> 4)) &&& 252645135 = c at k e3
  rw [Bool.and_eq_true, Nat.blt_eq] at k
  obtain ⟨hC, k⟩ := k
  have e4 : bc4 (nI c) = nI (c + (c >>> 8)) := by
    show nI c + bc_s (nI c) (nI 8) = _
    rw [bcs hC (by decide), nI_add]
  generalize c + (c >>> 8) = d at k e4
  rw [Bool.and_eq_true, Nat.blt_eq] at k
  obtain ⟨hD, k⟩ := k
  have e5 : bc5 (nI d) = nI (d + (d >>> 16)) := by
    show nI d + bc_s (nI d) (nI 16) = _
    rw [bcs hD (by decide), nI_add]
  unfold f_bitCount
  rw [e1, e2, e3, e4, e5, ctn_eq, ctE_eq]
  show nI (d + (d >>> 16)) &&& nI 63 = _
  rw [nx_and, Nat.eq_of_beq_eq_true k]
theorem bc_eq {x : Int32} (h : ∀ i : Nat, 16 ≤ i → lnk x i = false) : f_bitCount x = ctf (lnk x) 16 0 := by
  have h1 : x.toBitVec.toNat < 2 ^ 16 := Nat.lt_pow_two_of_testBit _ (fun i q => h i q)
  have h2 := bc_nat (m := x.toBitVec.toNat) (by omega)
  have h4 : nI x.toBitVec.toNat = x := by
    apply Int32.toBitVec_inj.1
    show BitVec.ofNat 32 x.toBitVec.toNat = x.toBitVec
    simp
  rw [h4] at h2
  exact h2
