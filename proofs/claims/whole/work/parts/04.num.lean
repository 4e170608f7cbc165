-- rows wb_, u_tn, g_, bp_b: pasted out of kit/laws/BITS.to-paste
theorem wb_tb (n : Nat) : (lN n).toBitVec = BitVec.ofNat 64 n := rfl
theorem wb_inj {a b : Int64} (h : a.toBitVec = b.toBitVec) : a = b := Int64.toBitVec_inj.mp h
theorem wb_tn {n : Nat} (h : n < 2 ^ 64) : (lN n).toBitVec.toNat = n := by rw [wb_tb, BitVec.toNat_ofNat, Nat.mod_eq_of_lt h]
theorem wb_of (x : Int64) : ∃ n, n < 2 ^ 64 ∧ x = lN n := ⟨x.toBitVec.toNat, x.toBitVec.isLt, wb_inj (by rw [wb_tb]; simp)⟩
theorem wb_of32 (x : Int32) : ∃ n, n < 2 ^ 32 ∧ x = nI n := ⟨x.toBitVec.toNat, x.toBitVec.isLt, Int32.toBitVec_inj.mp (by show _ = BitVec.ofNat 32 _; simp)⟩
theorem wb_c : ∀ k, k < 64 → ((nI k).toInt64 &&& 63) = lN k := by decide +kernel
theorem wb_sm : ∀ k, k < 64 → (BitVec.ofNat 64 k).smod 64 = BitVec.ofNat 64 k := by decide +kernel
theorem wb_pw {a b : Nat} (h : a ≤ b) : 2 ^ b = 2 ^ a * 2 ^ (b - a) := by rw [← Nat.pow_add]; congr 1; omega
theorem wb_lt2 {a b : Nat} (h : a < b) : 2 ^ a < 2 ^ b := Nat.pow_lt_pow_right (by decide) h
theorem wb_mod (n : Nat) : lN n = lN (n % 2 ^ 64) := wb_inj (by rw [wb_tb, wb_tb]; apply BitVec.eq_of_toNat_eq; rw [BitVec.toNat_ofNat, BitVec.toNat_ofNat, Nat.mod_mod])
theorem wb_shl (n : Nat) {k : Nat} (hk : k < 64) : lN n <<< ((nI k).toInt64 &&& 63) = lN (n * 2 ^ k) := by
  rw [wb_c k hk]
  apply wb_inj
  rw [Int64.toBitVec_shiftLeft, wb_tb, wb_tb, wb_tb, wb_sm k hk]
  apply BitVec.eq_of_toNat_eq
  rw [BitVec.shiftLeft_eq', BitVec.toNat_shiftLeft, BitVec.toNat_ofNat, BitVec.toNat_ofNat, BitVec.toNat_ofNat, Nat.mod_eq_of_lt (show k < 2 ^ 64 by omega), Nat.shiftLeft_eq, Nat.mul_mod, Nat.mod_mod, ← Nat.mul_mod]
theorem wb_and {a b : Nat} (ha : a < 2 ^ 64) (hb : b < 2 ^ 64) : lN a &&& lN b = lN (a &&& b) := by
  apply wb_inj
  rw [Int64.toBitVec_and, wb_tb, wb_tb, wb_tb]
  apply BitVec.eq_of_toNat_eq
  rw [BitVec.toNat_and, BitVec.toNat_ofNat, BitVec.toNat_ofNat, BitVec.toNat_ofNat, Nat.mod_eq_of_lt ha, Nat.mod_eq_of_lt hb, Nat.mod_eq_of_lt (Nat.and_lt_two_pow _ hb)]
theorem wb_or {a b : Nat} (ha : a < 2 ^ 64) (hb : b < 2 ^ 64) : lN a ||| lN b = lN (a ||| b) := by
  apply wb_inj
  rw [Int64.toBitVec_or, wb_tb, wb_tb, wb_tb]
  apply BitVec.eq_of_toNat_eq
  rw [BitVec.toNat_or, BitVec.toNat_ofNat, BitVec.toNat_ofNat, BitVec.toNat_ofNat, Nat.mod_eq_of_lt ha, Nat.mod_eq_of_lt hb, Nat.mod_eq_of_lt (Nat.or_lt_two_pow ha hb)]
theorem wb_mask {n k : Nat} (hn : n < 2 ^ 64) (hk : k < 64) : lN n &&& lN (2 ^ k - 1) = lN (n % 2 ^ k) := by
  rw [wb_and hn (by have := wb_lt2 hk; omega), Nat.and_two_pow_sub_one_eq_mod]
theorem wb_a1 {n : Nat} (hn : n < 2 ^ 64) : lN n &&& 1 = lN (n % 2) := wb_mask (k := 1) hn (by decide)
theorem u_tn {n : Nat} (h : n < 2 ^ 64) : (UInt64.ofNat n).toNat = n := Nat.mod_eq_of_lt h
theorem g_and {a b c : Nat} (ha : a < 2 ^ 64) (hb : b < 2 ^ 64) (hc : a &&& b = c) : lN a &&& lN b = lN c := by
  subst hc
  have h : UInt64.ofNat a &&& UInt64.ofNat b = UInt64.ofNat (a &&& b) := UInt64.toNat_inj.mp (by rw [UInt64.toNat_and, u_tn ha, u_tn hb, u_tn (Nat.and_lt_two_pow a hb)])
  have h2 := congrArg UInt64.toInt64 h
  exact h2
theorem g_mask {a s p : Nat} (hp : 2 ^ s = p) (hs : s < 64) (ha : a < 2 ^ 64) : lN a &&& lN (p - 1) = lN (a % p) := by
  subst hp
  have := Nat.pow_lt_pow_right (show 1 < 2 by decide) hs
  exact g_and ha (by omega) (Nat.and_two_pow_sub_one_eq_mod a s)
theorem g_or {k p a b : Nat} (hp : 2 ^ k = p) (ha : a < p) (h : b * p + a < 2 ^ 64) : lN (b * p) ||| lN a = lN (b * p + a) := by
  subst hp
  have h1 : b * 2 ^ k ||| a = b * 2 ^ k + a := by rw [← Nat.shiftLeft_eq, Nat.shiftLeft_add_eq_or_of_lt ha]
  have h3 : UInt64.ofNat (b * 2 ^ k) ||| UInt64.ofNat a = UInt64.ofNat (b * 2 ^ k + a) := UInt64.toNat_inj.mp (by rw [UInt64.toNat_or, u_tn (by omega), u_tn (by omega), u_tn h, h1])
  have h2 := congrArg UInt64.toInt64 h3
  exact h2
theorem bp_b (x : Int32) : x.toInt8.toInt32 &&& 255 = x &&& 255 := by
  apply Int32.toBitVec_inj.mp
  rw [Int32.toBitVec_and, Int32.toBitVec_and, Int8.toBitVec_toInt32, Int32.toBitVec_toInt8]
  apply BitVec.eq_of_getLsbD_eq
  intro i hi
  rw [BitVec.getLsbD_and, BitVec.getLsbD_and]
  have hm : ∀ i < 32, 8 ≤ i → (255 : Int32).toBitVec.getLsbD i = false := by decide
  rcases Nat.lt_or_ge i 8 with z | z
  · rw [BitVec.getLsbD_signExtend, BitVec.getLsbD_signExtend, if_pos z, if_pos hi]
    simp only [z, hi, decide_true, Bool.true_and]
  · rw [hm i hi z]; simp
-- bytes and fields
def ky_by (f : Nat → Int32) (i : Nat) : Nat := (f i).toBitVec.toNat % 256
def ky_le (f : Nat → Int32) : Nat → Nat → Nat
  | _, 0 => 0
  | a, n + 1 => ky_by f a + 256 * ky_le f (a + 1) n
theorem ky_by_lt (f : Nat → Int32) (i : Nat) : ky_by f i < 256 := Nat.mod_lt _ (by decide)
theorem ky_le_lt (f : Nat → Int32) : ∀ n a, ky_le f a n < 256 ^ n := by
  intro n
  induction n with
  | zero => intro a; simp [ky_le]
  | succ n ih =>
    intro a
    have h1 := ih (a + 1)
    have h2 := ky_by_lt f a
    rw [Nat.pow_succ]
    show ky_by f a + 256 * ky_le f (a + 1) n < _
    omega
theorem ky_le_congr {f g : Nat → Int32} : ∀ (n a : Nat), (∀ j, a ≤ j → j < a + n → ky_by f j = ky_by g j) → ky_le f a n = ky_le g a n := by
  intro n
  induction n with
  | zero => intro a _; rfl
  | succ n ih =>
    intro a h
    show ky_by f a + 256 * ky_le f (a + 1) n = ky_by g a + 256 * ky_le g (a + 1) n
    rw [h a (Nat.le_refl a) (by omega), ih (a + 1) (fun j h1 h2 => h j (by omega) (by omega))]
theorem ky_step {v : Nat} (hv : v < 2 ^ 48) (x : Int32) : lN v <<< ((8 : Int32).toInt64 &&& 63) ||| (x &&& 255).toInt64 = lN (x.toBitVec.toNat % 256 + 256 * v) := by
  have h1 : x &&& 255 = nI (x.toBitVec.toNat % 2 ^ 8) := pk_and x 8 (by decide)
  have hb : x.toBitVec.toNat % 2 ^ 8 < 256 := Nat.mod_lt _ (by decide)
  rw [h1, nI_l (by omega), show ((8 : Int32)) = nI 8 from rfl, wb_shl v (by decide), show 2 ^ 8 = 256 from rfl, g_or (k := 8) rfl hb (by omega)]
  congr 1
  omega
def ky_bt (v : Int64) (i : Nat) : Int32 := vp_nar .byte (v >>> ((8 * nI i).toInt64 &&& 63)).toInt32.toInt8.toInt32
def ky_wr (f : Nat → Int32) (a : Nat) (v : Int64) : Nat → Nat → Int32
  | 0 => f
  | n + 1 => upd (ky_wr f a v n) (a + n) (ky_bt v n)
theorem ky_b8 (x : Int32) : x.toInt8.toInt32.toBitVec.toNat % 256 = x.toBitVec.toNat % 256 := by
  have h := bp_b x
  rw [pk_and _ 8 (by decide), pk_and x 8 (by decide)] at h
  have h1 : x.toInt8.toInt32.toBitVec.toNat % 2 ^ 8 < 256 := Nat.mod_lt _ (by decide)
  have h2 : x.toBitVec.toNat % 2 ^ 8 < 256 := Nat.mod_lt _ (by decide)
  exact (nI_eq (by omega) (by omega)).mp h
theorem ky_sh : ∀ i, i < 8 → ((((8 * nI i).toInt64 &&& 63).toBitVec.smod 64).toNat = 8 * i) := by decide +kernel
theorem ky_btBy (v : Int64) (i : Nat) (hi : i < 8) : (ky_bt v i).toBitVec.toNat % 256 = v.toBitVec.toNat / 256 ^ i % 256 := by
  unfold ky_bt
  rw [pk_vb, ky_b8]
  apply Nat.eq_of_testBit_eq
  intro j
  rw [show (256 : Nat) = 2 ^ 8 from rfl, Nat.testBit_mod_two_pow, Nat.testBit_mod_two_pow, ← Nat.pow_mul, Nat.testBit_div_two_pow]
  by_cases hj : j < 8
  · rw [BitVec.testBit_toNat, BitVec.testBit_toNat, Int64.toBitVec_toInt32, Int64.toBitVec_shiftRight, BitVec.getLsbD_signExtend, BitVec.getLsbD_sshiftRight', ky_sh i hi]
    have h1 : 8 * i + j < 64 := by omega
    have h2 : j < 32 := by omega
    have h3 : j < 64 := by omega
    have h4 : ¬ 64 ≤ j := by omega
    simp [hj, h1, h2, h3, h4, Nat.add_comm]
    intro h5
    omega
  · simp [hj]
theorem ky_wrBy (f : Nat → Int32) (a : Nat) (v : Int64) : ∀ n, n ≤ 8 → ∀ j, ky_by (ky_wr f a v n) j = if a ≤ j ∧ j < a + n then v.toBitVec.toNat / 256 ^ (j - a) % 256 else ky_by f j := by
  intro n
  induction n with
  | zero => intro _ j; rw [if_neg (by omega)]; rfl
  | succ n ih =>
    intro hn j
    show ky_by (upd (ky_wr f a v n) (a + n) (ky_bt v n)) j = _
    by_cases h : j = a + n
    · subst h
      rw [if_pos (by omega), show a + n - a = n by omega, ← ky_btBy v n (by omega)]
      show (upd (ky_wr f a v n) (a + n) (ky_bt v n) (a + n)).toBitVec.toNat % 256 = _
      rw [pk_us]
    · have e1 : ky_by (upd (ky_wr f a v n) (a + n) (ky_bt v n)) j = ky_by (ky_wr f a v n) j := by
        show (upd (ky_wr f a v n) (a + n) (ky_bt v n) j).toBitVec.toNat % 256 = _
        rw [pk_un h]
        rfl
      rw [e1, ih (by omega) j]
      by_cases h2 : a ≤ j ∧ j < a + n
      · rw [if_pos h2, if_pos (by omega)]
      · rw [if_neg h2, if_neg (by omega)]
def ky_cp (f g : Nat → Int32) (n : Nat) : Nat → Int32 := fun j => if j < n then vp_nar .byte (g j) else f j
theorem ky_cp_s (f g : Nat → Int32) (n : Nat) : upd (ky_cp f g n) n (vp_nar .byte (g n)) = ky_cp f g (n + 1) := by
  funext j
  unfold upd ky_cp
  by_cases h : j = n
  · subst h; simp
  · simp only [h, if_false]
    by_cases h2 : j < n
    · rw [if_pos h2, if_pos (by omega)]
    · rw [if_neg h2, if_neg (by omega)]
theorem ky_narBy (x : Int32) : (vp_nar .byte x).toBitVec.toNat % 256 = x.toBitVec.toNat % 256 := by
  rw [vp_nar_byte, ky_b8]
theorem ky_cpBy (f g : Nat → Int32) (n j : Nat) : ky_by (ky_cp f g n) j = if j < n then ky_by g j else ky_by f j := by
  unfold ky_by ky_cp
  by_cases h : j < n
  · simp only [h, if_true]; exact ky_narBy _
  · simp only [h, if_false]
