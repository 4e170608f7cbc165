def km_ok (f : Nat → Int32) : Prop := ∀ j, j < 1024 → f j = nI (ky_by f j)
def km_b (v : Int64) (k : Nat) : Int32 := ((v >>> ((8 * nI k).toInt64 &&& 63)) &&& 255).toInt32
def km_st (f : Nat → Int32) (a : Nat) (v : Int64) : Nat → Nat → Int32
  | 0 => f
  | n + 1 => upd (km_st f a v n) (a + n) (km_b v n)
theorem km_and255 (x : Int64) : x &&& 255 = lN (x.toBitVec.toNat % 256) := by
  obtain ⟨n, hn, rfl⟩ := wb_of x
  rw [wb_tn hn]
  exact wb_mask (k := 8) hn (by decide)
theorem km_bEq (v : Int64) (k : Nat) (hk : k < 8) : km_b v k = nI (v.toBitVec.toNat / 256 ^ k % 256) := by
  unfold km_b
  rw [km_and255, lN_i]
  congr 1
  apply Nat.eq_of_testBit_eq
  intro j
  rw [show (256 : Nat) = 2 ^ 8 from rfl, Nat.testBit_mod_two_pow, Nat.testBit_mod_two_pow, ← Nat.pow_mul, Nat.testBit_div_two_pow]
  by_cases hj : j < 8
  · rw [BitVec.testBit_toNat, BitVec.testBit_toNat, Int64.toBitVec_shiftRight, BitVec.getLsbD_sshiftRight', ky_sh k hk]
    have h1 : 8 * k + j < 64 := by omega
    have h4 : ¬ 64 ≤ j := by omega
    simp [hj, h1, h4, Nat.add_comm]
    intro h5
    omega
  · simp [hj]
theorem km_nB {m : Nat} (h : m < 256) : (nI m).toBitVec.toNat % 256 = m := by
  rw [pk_tn (by omega)]
  exact Nat.mod_eq_of_lt h
theorem km_stBy (f : Nat → Int32) (a : Nat) (v : Int64) : ∀ n, n ≤ 8 → ∀ j, ky_by (km_st f a v n) j = if a ≤ j ∧ j < a + n then v.toBitVec.toNat / 256 ^ (j - a) % 256 else ky_by f j := by
  intro n
  induction n with
  | zero => intro _ j; rw [if_neg (by omega)]; rfl
  | succ n ih =>
    intro hn j
    show ky_by (upd (km_st f a v n) (a + n) (km_b v n)) j = _
    by_cases h : j = a + n
    · subst h
      rw [if_pos (by omega), show a + n - a = n by omega]
      show (upd (km_st f a v n) (a + n) (km_b v n) (a + n)).toBitVec.toNat % 256 = _
      rw [pk_us, km_bEq v n (by omega), km_nB (Nat.mod_lt _ (by decide))]
    · have e1 : ky_by (upd (km_st f a v n) (a + n) (km_b v n)) j = ky_by (km_st f a v n) j := by
        show (upd (km_st f a v n) (a + n) (km_b v n) j).toBitVec.toNat % 256 = _
        rw [pk_un h]
        rfl
      rw [e1, ih (by omega) j]
      by_cases h2 : a ≤ j ∧ j < a + n
      · rw [if_pos h2, if_pos (by omega)]
      · rw [if_neg h2, if_neg (by omega)]
theorem km_stOk {f : Nat → Int32} (h : km_ok f) (a : Nat) (v : Int64) : ∀ n, n ≤ 8 → km_ok (km_st f a v n) := by
  intro n
  induction n with
  | zero => intro _; exact h
  | succ n ih =>
    intro hn j hj
    show upd (km_st f a v n) (a + n) (km_b v n) j = nI ((upd (km_st f a v n) (a + n) (km_b v n) j).toBitVec.toNat % 256)
    by_cases h2 : j = a + n
    · subst h2
      rw [pk_us, km_bEq v n (by omega), km_nB (Nat.mod_lt _ (by decide))]
    · rw [pk_un h2]
      exact ih (by omega) j hj
abbrev km_hasP (f : Nat → Int32) (a b : Nat) : Prop := ky_le f a 4 / 2 ^ b % 2 = 1
theorem km_sh : ∀ b, b < 32 → (((nI b).toInt64 &&& 63).toBitVec.smod 64).toNat = b := by decide +kernel
theorem km_has_eq {v b : Nat} (hv : v < 2 ^ 32) (hb : b < 32) : (lN v >>> ((nI b).toInt64 &&& 63)) &&& 1 = 1 ↔ v / 2 ^ b % 2 = 1 := by
  have e : lN v >>> ((nI b).toInt64 &&& 63) = lN (v / 2 ^ b) := by
    have hd : v / 2 ^ b ≤ v := Nat.div_le_self _ _
    apply Int64.toInt_inj.mp
    have e1 : (lN v >>> ((nI b).toInt64 &&& 63)).toInt = (lN v).toInt >>> b := by
      rw [← Int64.toInt_toBitVec, Int64.toBitVec_shiftRight, BitVec.sshiftRight_eq', BitVec.toInt_sshiftRight, km_sh b hb]
      rfl
    rw [e1, pk_lT (by omega), pk_lT (by omega), Int.shiftRight_eq_div_pow]
    norm_cast
  have hd : v / 2 ^ b ≤ v := Nat.div_le_self _ _
  rw [e, wb_a1 (by omega)]
  have h2 : v / 2 ^ b % 2 < 2 := Nat.mod_lt _ (by decide)
  exact lN_eq (b := 1) (by omega) (by decide)
abbrev km_powP (q n : Nat) : Prop := n = 1 ∨ n = q ∨ n = q * q ∨ n = q * q * q
theorem km_powJ {q n j : Nat} (hq : q = 3 ∨ q = 5 ∨ q = 7) (hn : n < 64) (hlt : ∀ i, i < j → q ^ i < n) : j ≤ 4 := by
  rcases Nat.lt_or_ge 4 j with h | h
  · have h1 := hlt 4 h
    rcases hq with rfl | rfl | rfl <;> omega
  · exact h
theorem km_powE {q n j : Nat} (hq : q = 3 ∨ q = 5 ∨ q = 7) (hn : n < 64) (hlt : ∀ i, i < j → q ^ i < n) (hge : n ≤ q ^ j) : q ^ j = n ↔ km_powP q n := by
  have hj := km_powJ hq hn hlt
  have a0 := hlt 0
  have a1 := hlt 1
  have a2 := hlt 2
  have a3 := hlt 3
  rcases (show j = 0 ∨ j = 1 ∨ j = 2 ∨ j = 3 ∨ j = 4 by omega) with rfl | rfl | rfl | rfl | rfl <;> rcases hq with rfl | rfl | rfl <;> simp at a0 a1 a2 a3 hge ⊢ <;> omega
abbrev km_hcP (f : Nat → Int32) (n : Nat) : Prop := ¬ km_hasP f 100 0 ∨ n < 2 ∨ km_powP 3 n ∨ km_powP 5 n ∨ km_powP 7 n
def km_hd (f : Nat → Int32) (n : Nat) : Int64 := if km_hcP f n then kv_cb f else 0
abbrev km_inP (v lo hi : Int64) : Prop := ¬ v < lo ∧ ¬ hi < v
theorem km_size {f : Nat → Int32} (h : lN (ky_le f 24 4) ≤ 2) : ∃ s, s ≤ 2 ∧ ky_le f 24 4 = s ∧ kv_size f = lN (1024 * 2 ^ s) := by
  have h1 := ky_le_lt f 4 24
  have h2 : ky_le f 24 4 ≤ 2 := (pk_lLE (b := 2) (by omega) (by decide)).mp h
  refine ⟨ky_le f 24 4, h2, rfl, ?_⟩
  unfold kv_size
  rw [lN_i]
  exact wb_shl 1024 (by omega)
theorem km_size1 {f : Nat → Int32} (h : lN (ky_le f 24 4) ≤ 2) : 1 ≤ kv_size f := by
  obtain ⟨s, hs, -, e⟩ := km_size h
  rw [e]
  rcases (show s = 0 ∨ s = 1 ∨ s = 2 by omega) with rfl | rfl | rfl <;> decide
theorem km_ne0 {x : Int64} (h : 1 ≤ x) : ¬ x = 0 := fun q => by
  rw [q] at h
  exact absurd h (by decide)
def km_sz (f : Nat → Int32) : Int32 :=
  if ¬ lN (ky_le f 56 2) = 61267 then 56 else if ¬ lN (ky_le f 76 4) = 1 then 76 else if ¬ lN (ky_le f 24 4) ≤ 2 then 24 else if ¬ lN (ky_le f 28 4) = lN (ky_le f 24 4) then 28
  else if ¬ lN (ky_le f 20 4) = (if lN (ky_le f 24 4) = 0 then 1 else 0) then 20
  else if ¬ (km_inP (lN (ky_le f 32 4)) 64 (8 * kv_size f) ∧ lN (ky_le f 32 4) - lN (ky_le f 32 4) / 8 * 8 = 0) then 32
  else if ¬ lN (ky_le f 36 4) = lN (ky_le f 32 4) then 36 else if ¬ ky_rlP (lN (ky_le f 88 2)) then 88
  else if km_inP (lN (ky_le f 40 4)) 16 (8 * kv_size f) ∧ lN (ky_le f 40 4) - lN (ky_le f 40 4) / 8 * 8 = 0 ∧ lN (ky_le f 40 4) * lN (ky_le f 88 2) - lN (ky_le f 40 4) * lN (ky_le f 88 2) / kv_size f * kv_size f = 0 then -2 else 40
abbrev km_fxP (f : Nat → Int32) (k : Nat) : Prop := km_hd f k + 2 + kv_rk f < ky_min (lN (ky_le f 32 4)) (lN (ky_le f 4 4) - (lN (ky_le f 20 4) + lN k * lN (ky_le f 32 4)))
abbrev km_rmP (f : Nat → Int32) : Prop := ¬ lN (ky_le f 4 4) ≤ lN (ky_le f 20 4) ∧ ¬ 16777216 < lN (ky_le f 4 4) ∧ kv_gc f ≤ 64 ∧ ∀ k, k < (kv_gc f).toInt.toNat → km_fxP f k
def km_ct (f : Nat → Int32) : Int32 :=
  if ¬ km_rmP f then 4 else if ¬ lN (ky_le f 0 4) = kv_gc f * lN (ky_le f 40 4) then 0 else if ¬ lN (ky_le f 8 4) ≤ lN (ky_le f 4 4) then 8 else if ¬ lN (ky_le f 12 4) ≤ lN (ky_le f 4 4) then 12 else if ¬ lN (ky_le f 16 4) ≤ lN (ky_le f 0 4) then 16
  else if ¬ (lN (ky_le f 58 2) = 1 ∨ lN (ky_le f 58 2) = 3) then 58 else if ¬ km_inP (lN (ky_le f 84 4)) 11 (lN (ky_le f 0 4)) then 84
  else if ¬ kv_gc f ≤ lN (ky_le f 90 2) ∧ km_hcP f (ky_le f 90 2) then -2 else 90
abbrev km_liP (w b : Int32) : Prop := (w = 0 ∧ (b = 2 ∨ b = 5)) ∨ (¬ w = 0 ∧ w = 1 ∧ (b = 1 ∨ b = 2 ∨ b = 6)) ∨ (¬ w = 0 ∧ ¬ w = 1 ∧ ¬ 2 ≤ b)
def km_inn (f : Nat → Int32) (w : Nat) (z : Int32) : Nat → Int32
  | 0 => z
  | n + 1 => if km_hasP f (92 + 4 * w) (31 - n) ∧ ¬ km_liP (nI w) (nI (31 - n)) then 2000 + 32 * nI w + nI (31 - n) else km_inn f w z n
def km_out (f : Nat → Int32) : Nat → Int32
  | 0 => -2
  | n + 1 => km_inn f (2 - n) (if 2 - n = 1 ∧ (¬ km_hasP f 96 1 ∨ ¬ km_hasP f 96 6) then 96 else km_out f n) 32
def km_re (f : Nat → Int32) : Int32 :=
  if ¬ lN (ky_le f 224 4) = (if km_hasP f 92 2 then 8 else 0) then 224 else if ¬ lN (ky_le f 232 4) ≤ lN (ky_le f 0 4) then 232 else if ¬ lN (ky_le f 252 1) = (if km_hasP f 92 5 then 1 else 0) then 252 else if lN (ky_le f 254 2) = 0 then -2 else 254
def km_fault (f : Nat → Int32) : Int32 :=
  if ¬ km_sz f = -2 then km_sz f else if ¬ km_ct f = -2 then km_ct f else if ¬ km_out f 3 = -2 then km_out f 3 else km_re f
theorem km_szI {f : Nat → Int32} (h : km_sz f = -2) : lN (ky_le f 24 4) ≤ 2 ∧ 1 ≤ lN (ky_le f 32 4) := by
  unfold km_sz at h
  have h24 : lN (ky_le f 24 4) ≤ 2 := by
    by_cases q : lN (ky_le f 24 4) ≤ 2
    · exact q
    · exfalso
      simp only [if_pos q] at h
      revert h
      split
      · decide
      · split <;> decide
  have h32 : ¬ lN (ky_le f 32 4) < 64 := by
    intro q
    have q2 : ¬ (km_inP (lN (ky_le f 32 4)) 64 (8 * kv_size f) ∧ lN (ky_le f 32 4) - lN (ky_le f 32 4) / 8 * 8 = 0) := fun z => z.1.1 q
    simp only [if_pos q2] at h
    revert h
    repeat' split
    all_goals decide
  refine ⟨h24, ?_⟩
  have h1 := ky_le_lt f 4 32
  have h2 : ¬ ky_le f 32 4 < 64 := fun q => h32 ((pk_lLT (b := 64) (by omega) (by decide)).mpr q)
  exact (pk_lLE (a := 1) (by decide) (by omega)).mpr (by omega)
theorem km_ctI {f : Nat → Int32} (h : km_ct f = -2) : km_rmP f := by
  by_cases q : km_rmP f
  · exact q
  · exfalso
    unfold km_ct at h
    rw [if_pos q] at h
    exact absurd h (by decide)
theorem km_fI {f : Nat → Int32} (h : km_fault f = -2) : km_sz f = -2 ∧ km_ct f = -2 ∧ km_out f 3 = -2 ∧ km_re f = -2 := by
  unfold km_fault at h
  by_cases h1 : km_sz f = -2
  · rw [if_neg (fun q => q h1)] at h
    by_cases h2 : km_ct f = -2
    · rw [if_neg (fun q => q h2)] at h
      by_cases h3 : km_out f 3 = -2
      · rw [if_neg (fun q => q h3)] at h
        exact ⟨h1, h2, h3, h⟩
      · rw [if_pos h3] at h
        exact absurd h h3
    · rw [if_pos h2] at h
      exact absurd h h2
  · rw [if_pos h1] at h
    exact absurd h h1
