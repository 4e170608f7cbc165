section TIE
variable {f g : Nat → Int32}
def kz_A (f g : Nat → Int32) : Prop := ∀ a n, a + n ≤ 1024 → ky_le f a n = ky_le g a n
theorem kz_of (h : ∀ j, j < 1024 → ky_by f j = ky_by g j) : kz_A f g := fun a n ha => ky_le_congr n a (fun j h1 h2 => h j (by omega))
theorem kz_gc (h : kz_A f g) : kv_gc f = kv_gc g := by
  unfold kv_gc
  rw [h 4 4 (by decide), h 20 4 (by decide), h 32 4 (by decide)]
theorem kz_size (h : kz_A f g) : kv_size f = kv_size g := by
  unfold kv_size
  rw [h 24 4 (by decide)]
theorem kz_few (h : kz_A f g) : kv_few f = kv_few g := by
  unfold kv_few
  rw [h 100 4 (by decide)]
theorem kz_cb (h : kz_A f g) : kv_cb f = kv_cb g := by
  unfold kv_cb
  rw [kz_gc h, kz_size h]
theorem kz_rk (h : kz_A f g) : kv_rk f = kv_rk g := by
  unfold kv_rk
  rw [kz_size h, h 40 4 (by decide), h 88 2 (by decide)]
theorem kz_form (h : kz_A f g) (x y : Int64) : kv_form f x y = kv_form g x y := by
  unfold kv_form
  rw [h 56 2 (by decide), h 76 4 (by decide), h 28 4 (by decide)]
theorem kz_gs (h : kz_A f g) (x y z u v : Int64) : kv_gs f x y z u v = kv_gs g x y z u v := by
  unfold kv_gs
  rw [h 36 4 (by decide)]
theorem kz_ct (h : kz_A f g) (x y z u : Int64) (v : Int32) : kv_ct f x y z u v = kv_ct g x y z u v := by
  unfold kv_ct
  rw [h 8 4 (by decide), h 12 4 (by decide), h 16 4 (by decide), h 58 2 (by decide), h 84 4 (by decide), h 90 2 (by decide)]
theorem kz_ft (h : kz_A f g) : kv_ft f = kv_ft g := by
  unfold kv_ft
  rw [h 92 4 (by decide), h 96 4 (by decide), h 100 4 (by decide)]
theorem kz_re (h : kz_A f g) (x : Int64) : kv_re f x = kv_re g x := by
  unfold kv_re
  rw [h 92 4 (by decide), h 224 4 (by decide), h 232 4 (by decide), h 252 1 (by decide), h 254 2 (by decide)]
theorem kz_fault (h : kz_A f g) : kv_fault f = kv_fault g := by
  unfold kv_fault
  rw [kz_form h, kz_gs h, kz_ct h, kz_ft h, kz_re h, kz_gc h, kz_size h, kz_few h, kz_cb h, kz_rk h, h 24 4 (by decide), h 20 4 (by decide), h 32 4 (by decide), h 88 2 (by decide), h 40 4 (by decide), h 4 4 (by decide), h 0 4 (by decide)]
theorem kz_k64 {P : Prop} [Decidable P] : (kP P).toInt64 = if P then 1 else 0 := by
  unfold kP
  split <;> rfl
theorem kz_and7 {n : Nat} (h : n < 2 ^ 32) : lN n &&& 7 = 0 ↔ lN n - lN n / 8 * 8 = 0 := by
  have e1 : lN n &&& 7 = lN (n % 8) := wb_mask (k := 3) (by omega) (by decide)
  have e2 : lN n - lN n / 8 * 8 = lN (n % 8) := pk_lRem (a := n) (b := 8) (by omega) (by decide) (by decide)
  rw [e1, e2]
theorem kz_qU {X S : Nat} (hX : X < 2 ^ 60) (hS : 0 < S) (hS2 : S < 2 ^ 40) : ky_qU (lN X) (lN S) = lN ((X + S - 1) / S) := by
  unfold ky_qU ky_q
  have h1 : (1 : Int64) ≤ lN S := (pk_lLE (a := 1) (by decide) (by omega)).mpr hS
  have h2 : lN X + lN S - 1 = lN (X + S - 1) := by
    rw [lN_add]
    exact lN_sub (b := 1) (by omega)
  rw [if_pos h1, h2, pk_lDiv (by omega) hS (by omega)]
theorem kz_ceil {X S : Nat} (hS : 0 < S) : (X + S - 1) / S * S = X ↔ X % S = 0 := by
  have h0 := Nat.div_add_mod X S
  have h1 := Nat.mod_lt X hS
  have h2 : S * (X / S) = X / S * S := Nat.mul_comm _ _
  rw [h2] at h0
  by_cases hr : X % S = 0
  · have e : (X + S - 1) / S = X / S := Nat.div_eq_of_lt_le (by omega) (by rw [Nat.succ_mul]; omega)
    rw [e]
    omega
  · have e : (X + S - 1) / S = X / S + 1 := Nat.div_eq_of_lt_le (by rw [Nat.succ_mul]; omega) (by rw [Nat.succ_mul, Nat.succ_mul]; omega)
    rw [e, Nat.succ_mul]
    omega
theorem kz_whole {X S : Nat} (hX : X < 2 ^ 60) (hS : 0 < S) (hS2 : S < 2 ^ 40) : ky_qU (lN X) (lN S) * lN S = lN X ↔ lN X - lN X / lN S * lN S = 0 := by
  have hm := Nat.mod_lt X hS
  have hb : (X + S - 1) / S * S ≤ X + S - 1 := Nat.div_mul_le_self _ _
  rw [kz_qU hX hS hS2, lN_mul, pk_lRem (by omega) hS (by omega), pk_lEQ (by omega) (by omega)]
  rw [show (0 : Int64) = lN 0 from rfl, pk_lEQ (by omega) (by decide)]
  exact kz_ceil hS
theorem kz_32 (f : Nat → Int32) (a : Nat) : ky_le f a 4 < 2 ^ 32 := Nat.lt_of_lt_of_le (ky_le_lt f 4 a) (by decide)
theorem kz_16 (f : Nat → Int32) (a : Nat) : ky_le f a 2 < 2 ^ 16 := Nat.lt_of_lt_of_le (ky_le_lt f 2 a) (by decide)
theorem km_szE (f : Nat → Int32) : km_sz f = if ¬ kv_form f (lN (ky_le f 24 4)) (lN (ky_le f 20 4)) = -2 then kv_form f (lN (ky_le f 24 4)) (lN (ky_le f 20 4)) else kv_gs f (kv_size f) (lN (ky_le f 32 4)) (lN (ky_le f 88 2)) (lN (ky_le f 40 4)) (kv_rk f) := by
  have hk := @kz_k64 (lN (ky_le f 24 4) = 0) _
  by_cases c1 : lN (ky_le f 56 2) = 61267
  · by_cases c2 : lN (ky_le f 76 4) = 1
    · by_cases c3 : lN (ky_le f 24 4) ≤ 2
      · by_cases c4 : lN (ky_le f 28 4) = lN (ky_le f 24 4)
        · by_cases c5 : lN (ky_le f 20 4) = (if lN (ky_le f 24 4) = 0 then 1 else 0)
          · have e : kv_form f (lN (ky_le f 24 4)) (lN (ky_le f 20 4)) = -2 := by
              unfold kv_form
              rw [if_neg (fun q => q c1), if_neg (fun q => q c2), if_neg (fun q => q c3), if_neg (fun q => q c4), if_neg (fun q => q (by rw [hk]; exact c5))]
            rw [if_neg (fun q => q e)]
            obtain ⟨s, hs, -, ez⟩ := km_size c3
            have hS : 0 < 1024 * 2 ^ s ∧ 1024 * 2 ^ s < 2 ^ 40 := by
              rcases (show s = 0 ∨ s = 1 ∨ s = 2 by omega) with rfl | rfl | rfl <;> decide
            have a1 : (km_inP (lN (ky_le f 32 4)) 64 (8 * kv_size f) ∧ lN (ky_le f 32 4) - lN (ky_le f 32 4) / 8 * 8 = 0) ↔ ky_e8P (lN (ky_le f 32 4)) 64 (8 * kv_size f) := by
              rw [← kz_and7 (kz_32 f 32)]
              exact ⟨fun q => ⟨q.1.1, q.1.2, q.2⟩, fun q => ⟨⟨q.1, q.2.1⟩, q.2.2⟩⟩
            have hX : ky_le f 40 4 * ky_le f 88 2 < 2 ^ 60 := by
              have h1 := kz_32 f 40
              have h2 := kz_16 f 88
              have h3 : ky_le f 40 4 * ky_le f 88 2 ≤ 2 ^ 32 * 2 ^ 16 := Nat.mul_le_mul (by omega) (by omega)
              omega
            have a2 : (km_inP (lN (ky_le f 40 4)) 16 (8 * kv_size f) ∧ lN (ky_le f 40 4) - lN (ky_le f 40 4) / 8 * 8 = 0 ∧ lN (ky_le f 40 4) * lN (ky_le f 88 2) - lN (ky_le f 40 4) * lN (ky_le f 88 2) / kv_size f * kv_size f = 0) ↔ (ky_e8P (lN (ky_le f 40 4)) 16 (8 * kv_size f) ∧ kv_rk f * kv_size f = lN (ky_le f 40 4) * lN (ky_le f 88 2)) := by
              rw [← kz_and7 (kz_32 f 40)]
              have a3 : kv_rk f * kv_size f = lN (ky_le f 40 4) * lN (ky_le f 88 2) ↔ lN (ky_le f 40 4) * lN (ky_le f 88 2) - lN (ky_le f 40 4) * lN (ky_le f 88 2) / kv_size f * kv_size f = 0 := by
                unfold kv_rk
                rw [ez, lN_mul]
                exact kz_whole hX hS.1 hS.2
              rw [a3]
              exact ⟨fun q => ⟨⟨q.1.1, q.1.2, q.2.1⟩, q.2.2⟩, fun q => ⟨⟨q.1.1, q.1.2.1⟩, q.1.2.2, q.2⟩⟩
            unfold km_sz kv_gs
            rw [if_neg (fun q => q c1), if_neg (fun q => q c2), if_neg (fun q => q c3), if_neg (fun q => q c4), if_neg (fun q => q c5)]
            simp only [a1, a2]
          · have c5' : ¬ lN (ky_le f 20 4) = (kP (lN (ky_le f 24 4) = 0)).toInt64 := by rw [hk]; exact c5
            have e : kv_form f (lN (ky_le f 24 4)) (lN (ky_le f 20 4)) = 20 := by unfold kv_form; rw [if_neg (fun q => q c1), if_neg (fun q => q c2), if_neg (fun q => q c3), if_neg (fun q => q c4), if_pos c5']
            have e2 : km_sz f = 20 := by unfold km_sz; rw [if_neg (fun q => q c1), if_neg (fun q => q c2), if_neg (fun q => q c3), if_neg (fun q => q c4), if_pos c5]
            rw [e, e2, if_pos (by decide)]
        · have e : kv_form f (lN (ky_le f 24 4)) (lN (ky_le f 20 4)) = 28 := by unfold kv_form; rw [if_neg (fun q => q c1), if_neg (fun q => q c2), if_neg (fun q => q c3), if_pos c4]
          have e2 : km_sz f = 28 := by unfold km_sz; rw [if_neg (fun q => q c1), if_neg (fun q => q c2), if_neg (fun q => q c3), if_pos c4]
          rw [e, e2, if_pos (by decide)]
      · have e : kv_form f (lN (ky_le f 24 4)) (lN (ky_le f 20 4)) = 24 := by unfold kv_form; rw [if_neg (fun q => q c1), if_neg (fun q => q c2), if_pos c3]
        have e2 : km_sz f = 24 := by unfold km_sz; rw [if_neg (fun q => q c1), if_neg (fun q => q c2), if_pos c3]
        rw [e, e2, if_pos (by decide)]
    · have e : kv_form f (lN (ky_le f 24 4)) (lN (ky_le f 20 4)) = 76 := by unfold kv_form; rw [if_neg (fun q => q c1), if_pos c2]
      have e2 : km_sz f = 76 := by unfold km_sz; rw [if_neg (fun q => q c1), if_pos c2]
      rw [e, e2, if_pos (by decide)]
  · have e : kv_form f (lN (ky_le f 24 4)) (lN (ky_le f 20 4)) = 56 := by unfold kv_form; rw [if_pos c1]
    have e2 : km_sz f = 56 := by unfold km_sz; rw [if_pos c1]
    rw [e, e2, if_pos (by decide)]
theorem kz_few0 (f : Nat → Int32) : kv_few f = 0 ↔ ¬ km_hasP f 100 0 := by
  have h := kz_32 f 100
  have e : lN (ky_le f 100 4) &&& 1 = lN (ky_le f 100 4 % 2) := wb_a1 (by omega)
  have e2 : km_hasP f 100 0 ↔ ky_le f 100 4 % 2 = 1 := by
    show ky_le f 100 4 / 2 ^ 0 % 2 = 1 ↔ _
    rw [Nat.pow_zero, Nat.div_one]
  have e3 : lN (ky_le f 100 4 % 2) = 0 ↔ ky_le f 100 4 % 2 = 0 := lN_eq (b := 0) (by omega) (by decide)
  rw [e2]
  constructor
  · intro q
    have q1 := kP_eq q
    rw [e] at q1
    have q2 : lN (ky_le f 100 4 % 2) = 0 := Decidable.not_not.mp q1
    have := e3.mp q2
    omega
  · intro q
    refine (kP_f (fun z => z ?_)).symm
    rw [e]
    exact e3.mpr (by omega)
theorem kz_fewK : ∀ k, k < 64 → (ky_fewP (lN k) ↔ (k < 2 ∨ km_powP 3 k ∨ km_powP 5 k ∨ km_powP 7 k)) := by decide +kernel
theorem kz_hc (f : Nat → Int32) {k : Nat} (hk : k < 64) : ky_hcP (kv_few f) (lN k) ↔ km_hcP f k := by
  show kv_few f = 0 ∨ ky_fewP (lN k) ↔ _
  rw [kz_few0, kz_fewK k hk]
theorem kz_hd (f : Nat → Int32) {k : Nat} (hk : k < 64) : ky_bc (kv_few f) (kv_cb f) (lN k) = km_hd f k := by
  unfold ky_bc km_hd
  by_cases q : km_hcP f k
  · rw [if_pos q, if_pos ((kz_hc f hk).mpr q)]
  · rw [if_neg q, if_neg (fun z => q ((kz_hc f hk).mp z))]
theorem kz_rm (f : Nat → Int32) : kv_rmP (lN (ky_le f 4 4)) (lN (ky_le f 20 4)) (lN (ky_le f 32 4)) (kv_gc f) (kv_cb f) (kv_rk f) (kv_few f) ↔ km_rmP f := by
  constructor
  · rintro ⟨h1, h2, h3, h4⟩
    refine ⟨h1, h2, h3, fun k hk => ?_⟩
    have hk64 : k < 64 := by have := kv_64 h3; omega
    have := h4 k hk
    rw [kz_hd f hk64] at this
    exact this
  · rintro ⟨h1, h2, h3, h4⟩
    refine ⟨h1, h2, h3, fun k hk => ?_⟩
    have hk64 : k < 64 := by have := kv_64 h3; omega
    rw [kz_hd f hk64]
    exact h4 k hk
theorem km_ctE (f : Nat → Int32) : km_ct f = if ¬ kv_rmP (lN (ky_le f 4 4)) (lN (ky_le f 20 4)) (lN (ky_le f 32 4)) (kv_gc f) (kv_cb f) (kv_rk f) (kv_few f) then 4 else kv_ct f (lN (ky_le f 0 4)) (lN (ky_le f 4 4)) (lN (ky_le f 40 4)) (kv_gc f) (kv_few f) := by
  by_cases q : km_rmP f
  · rw [if_neg (fun z => z ((kz_rm f).mpr q))]
    have a1 : (¬ km_inP (lN (ky_le f 84 4)) 11 (lN (ky_le f 0 4))) ↔ (lN (ky_le f 84 4) < 11 ∨ ¬ lN (ky_le f 84 4) ≤ lN (ky_le f 0 4)) := by
      have e : lN (ky_le f 0 4) < lN (ky_le f 84 4) ↔ ¬ lN (ky_le f 84 4) ≤ lN (ky_le f 0 4) := Int64.not_le.symm
      show ¬ (¬ lN (ky_le f 84 4) < 11 ∧ ¬ lN (ky_le f 0 4) < lN (ky_le f 84 4)) ↔ _
      rw [e]
      constructor
      · intro z
        by_cases y : lN (ky_le f 84 4) < 11
        · exact Or.inl y
        · exact Or.inr (fun x => z ⟨y, fun w => w x⟩)
      · rintro (z | z) y
        · exact y.1 z
        · exact y.2 z
    have a2 : (¬ kv_gc f ≤ lN (ky_le f 90 2) ∧ km_hcP f (ky_le f 90 2)) ↔ (¬ kv_gc f ≤ lN (ky_le f 90 2) ∧ ky_hcP (kv_few f) (lN (ky_le f 90 2))) := by
      constructor
      · rintro ⟨z1, z2⟩
        exact ⟨z1, (kz_hc f (km_own64 q.2.2.1 z1 (km_le2 f 90))).mpr z2⟩
      · rintro ⟨z1, z2⟩
        exact ⟨z1, (kz_hc f (km_own64 q.2.2.1 z1 (km_le2 f 90))).mp z2⟩
    unfold km_ct kv_ct
    rw [if_neg (fun z => z q)]
    simp only [a1, a2]
  · rw [if_pos (fun z => q ((kz_rm f).mp z))]
    unfold km_ct
    rw [if_pos q]
theorem kz_bitX (X : Int64) {k : Nat} (hk : k < 32) : X &&& ((1 : Int64) <<< ((nI k).toInt64 &&& 63)) = 0 ↔ X.toBitVec.getLsbD k = false := by
  have e : ((1 : Int64) <<< ((nI k).toInt64 &&& 63)) = lN (2 ^ k) := by
    have := wb_shl 1 (k := k) (by omega)
    rw [Nat.one_mul] at this
    exact this
  have e2 : (lN (2 ^ k)).toBitVec = BitVec.twoPow 64 k := by
    apply BitVec.eq_of_toNat_eq
    rw [wb_tb, BitVec.toNat_ofNat, BitVec.toNat_twoPow]
  rw [e]
  constructor
  · intro h
    have h1 := congrArg (fun z => z.toBitVec.getLsbD k) h
    simp only [Int64.toBitVec_and, e2, BitVec.getLsbD_and, BitVec.getLsbD_twoPow] at h1
    simp at h1
    cases hh : X.toBitVec.getLsbD k with
    | false => rfl
    | true => exact absurd (h1 hh) (by omega)
  · intro h
    apply wb_inj
    rw [Int64.toBitVec_and, e2]
    apply BitVec.eq_of_getLsbD_eq
    intro i hi
    rw [BitVec.getLsbD_and, BitVec.getLsbD_twoPow]
    by_cases q : k = i
    · subst q
      simp [h]
    · simp [q]
theorem kz_bit {v : Nat} (hv : v < 2 ^ 32) (li : Int64) {k : Nat} (hk : k < 32) : kv_ub (lN v) li k ↔ ¬ (v / 2 ^ k % 2 = 1 ∧ li.toBitVec.getLsbD k = false) := by
  show (lN v &&& (li ^^^ (-1 : Int64))) &&& ((1 : Int64) <<< ((nI k).toInt64 &&& 63)) = 0 ↔ _
  rw [kz_bitX _ hk, Int64.toBitVec_and, Int64.toBitVec_xor, BitVec.getLsbD_and, BitVec.getLsbD_xor]
  have e1 : (-1 : Int64).toBitVec.getLsbD k = true := (by decide +kernel : ∀ k, k < 32 → (-1 : Int64).toBitVec.getLsbD k = true) k hk
  have e2 : (lN v).toBitVec.getLsbD k = v.testBit k := by
    rw [← BitVec.testBit_toNat, wb_tn (by omega)]
  have e3 : v.testBit k = decide (v / 2 ^ k % 2 = 1) := Nat.testBit_eq_decide_div_mod_eq
  rw [e1, e2, e3]
  cases h : li.toBitVec.getLsbD k <;> simp
def kz_li : Nat → Int64 := fun w => match w with
  | 0 => 36
  | 1 => 70
  | _ => 3
def kz_lb (w k : Nat) : Bool := decide (km_liP (nI w) (nI k))
theorem kz_lbE : ∀ w, w < 3 → ∀ k, k < 32 → (kz_li w).toBitVec.getLsbD k = kz_lb w k := by decide +kernel
theorem kz_liP (w : Nat) (hw : w < 3) (k : Nat) (hk : k < 32) : ((kz_li w).toBitVec.getLsbD k = false ↔ ¬ km_liP (nI w) (nI k)) := by
  rw [kz_lbE w hw k hk]
  unfold kz_lb
  exact decide_eq_false_iff_not
theorem kz_val : ∀ w, w < 3 → ∀ k, k < 32 → ¬ (2000 + 32 * nI w + nI k = -2) := by decide +kernel
theorem kz_inn (f : Nat → Int32) {w : Nat} (hw : w < 3) (z : Int32) : ∀ n, n ≤ 32 → km_inn f w z n = if ¬ kv_unl (nI w) (lN (ky_le f (92 + 4 * w) 4)) (kz_li w) n = -2 then kv_unl (nI w) (lN (ky_le f (92 + 4 * w) 4)) (kz_li w) n else z := by
  intro n
  induction n with
  | zero => intro _; rw [if_neg (fun q => q rfl)]; rfl
  | succ n ih =>
    intro hn
    show (if km_hasP f (92 + 4 * w) (31 - n) ∧ ¬ km_liP (nI w) (nI (31 - n)) then 2000 + 32 * nI w + nI (31 - n) else km_inn f w z n) = _
    have hb := kz_bit (kz_32 f (92 + 4 * w)) (kz_li w) (k := 31 - n) (by omega)
    rw [kz_liP w hw (31 - n) (by omega)] at hb
    have hu : kv_unl (nI w) (lN (ky_le f (92 + 4 * w) 4)) (kz_li w) (n + 1) = if kv_ub (lN (ky_le f (92 + 4 * w) 4)) (kz_li w) (31 - n) then kv_unl (nI w) (lN (ky_le f (92 + 4 * w) 4)) (kz_li w) n else 2000 + 32 * nI w + nI (31 - n) := rfl
    by_cases q : km_hasP f (92 + 4 * w) (31 - n) ∧ ¬ km_liP (nI w) (nI (31 - n))
    · rw [if_pos q, hu, if_neg (fun y => hb.mp y q), if_pos (kz_val w hw (31 - n) (by omega))]
    · rw [if_neg q, hu, if_pos (hb.mpr q)]
      exact ih (by omega)
theorem kz_m66 : ∀ m, m < 128 → (m &&& 66 = 66 ↔ (m / 2 % 2 = 1 ∧ m / 64 % 2 = 1)) := by decide +kernel
theorem kz_66 {v : Nat} (hv : v < 2 ^ 32) : lN v &&& 66 = 66 ↔ (v / 2 ^ 1 % 2 = 1 ∧ v / 2 ^ 6 % 2 = 1) := by
  have e : lN v &&& 66 = lN (v &&& 66) := wb_and (b := 66) (by omega) (by decide)
  have h1 : v &&& 66 ≤ 66 := Nat.and_le_right
  have h2 : v &&& 66 = v % 128 &&& 66 := by
    have := Nat.and_two_pow_sub_one_eq_mod v 7
    rw [show (128 : Nat) = 2 ^ 7 from rfl, ← this, Nat.and_assoc]
    rfl
  have h3 := kz_m66 (v % 128) (Nat.mod_lt _ (by decide))
  rw [e]
  have h4 : lN (v &&& 66) = 66 ↔ v &&& 66 = 66 := lN_eq (b := 66) (by omega) (by decide)
  rw [h4, h2, h3]
  omega
theorem kz_m4 : ∀ m, m < 8 → (m &&& 4 = 0 ↔ ¬ m / 4 % 2 = 1) := by decide +kernel
theorem kz_m32 : ∀ m, m < 64 → (m &&& 32 = 0 ↔ ¬ m / 32 % 2 = 1) := by decide +kernel
theorem kz_b4 {v : Nat} (hv : v < 2 ^ 32) : lN v &&& 4 = 0 ↔ ¬ v / 2 ^ 2 % 2 = 1 := by
  have e : lN v &&& 4 = lN (v &&& 4) := wb_and (b := 4) (by omega) (by decide)
  have h1 : v &&& 4 ≤ 4 := Nat.and_le_right
  have h2 : v &&& 4 = v % 8 &&& 4 := by
    have := Nat.and_two_pow_sub_one_eq_mod v 3
    rw [show (8 : Nat) = 2 ^ 3 from rfl, ← this, Nat.and_assoc]
    rfl
  have h3 := kz_m4 (v % 8) (Nat.mod_lt _ (by decide))
  have h4 : lN (v &&& 4) = 0 ↔ v &&& 4 = 0 := lN_eq (b := 0) (by omega) (by decide)
  rw [e, h4, h2, h3]
  omega
theorem kz_b32 {v : Nat} (hv : v < 2 ^ 32) : lN v &&& 32 = 0 ↔ ¬ v / 2 ^ 5 % 2 = 1 := by
  have e : lN v &&& 32 = lN (v &&& 32) := wb_and (b := 32) (by omega) (by decide)
  have h1 : v &&& 32 ≤ 32 := Nat.and_le_right
  have h2 : v &&& 32 = v % 64 &&& 32 := by
    have := Nat.and_two_pow_sub_one_eq_mod v 6
    rw [show (64 : Nat) = 2 ^ 6 from rfl, ← this, Nat.and_assoc]
    rfl
  have h3 := kz_m32 (v % 64) (Nat.mod_lt _ (by decide))
  have h4 : lN (v &&& 32) = 0 ↔ v &&& 32 = 0 := lN_eq (b := 0) (by omega) (by decide)
  rw [e, h4, h2, h3]
  omega
theorem km_ftE (f : Nat → Int32) : kv_ft f = km_out f 3 := by
  have e2 : km_out f 1 = kv_unl 2 (lN (ky_le f 100 4)) 3 32 := by
    show km_inn f 2 (if 2 = 1 ∧ (¬ km_hasP f 96 1 ∨ ¬ km_hasP f 96 6) then 96 else -2) 32 = _
    rw [if_neg (fun q => absurd q.1 (by decide)), kz_inn f (w := 2) (by decide) _ 32 (by decide)]
    show (if ¬ kv_unl 2 (lN (ky_le f 100 4)) 3 32 = -2 then kv_unl 2 (lN (ky_le f 100 4)) 3 32 else -2) = _
    by_cases q : kv_unl 2 (lN (ky_le f 100 4)) 3 32 = -2
    · rw [if_neg (fun z => z q), q]
    · rw [if_pos q]
  have e1 : km_out f 2 = if ¬ kv_unl 1 (lN (ky_le f 96 4)) 70 32 = -2 then kv_unl 1 (lN (ky_le f 96 4)) 70 32 else if ¬ lN (ky_le f 96 4) &&& 66 = 66 then 96 else kv_unl 2 (lN (ky_le f 100 4)) 3 32 := by
    show km_inn f 1 (if 1 = 1 ∧ (¬ km_hasP f 96 1 ∨ ¬ km_hasP f 96 6) then 96 else km_out f 1) 32 = _
    rw [kz_inn f (w := 1) (by decide) _ 32 (by decide), e2]
    have h66 := kz_66 (kz_32 f 96)
    have a : (1 = 1 ∧ (¬ km_hasP f 96 1 ∨ ¬ km_hasP f 96 6)) ↔ ¬ lN (ky_le f 96 4) &&& 66 = 66 := by
      rw [h66]
      constructor
      · rintro ⟨-, z | z⟩ y
        · exact z y.1
        · exact z y.2
      · intro z
        refine ⟨rfl, ?_⟩
        by_cases y : km_hasP f 96 1
        · exact Or.inr (fun x => z ⟨y, x⟩)
        · exact Or.inl y
    by_cases q : lN (ky_le f 96 4) &&& 66 = 66
    · have hq : ¬ (1 = 1 ∧ (¬ km_hasP f 96 1 ∨ ¬ km_hasP f 96 6)) := fun z => a.mp z q
      have hr : ¬ ¬ (lN (ky_le f 96 4) &&& 66 = 66) := fun z => z q
      rw [if_neg hq, if_neg hr]
      rfl
    · rw [if_pos (a.mpr q), if_pos q]
      rfl
  show _ = km_inn f 0 (if 0 = 1 ∧ (¬ km_hasP f 96 1 ∨ ¬ km_hasP f 96 6) then 96 else km_out f 2) 32
  rw [if_neg (fun q => absurd q.1 (by decide)), kz_inn f (w := 0) (by decide) _ 32 (by decide), e1]
  rfl
theorem km_reE (f : Nat → Int32) : kv_re f (lN (ky_le f 0 4)) = km_re f := by
  have a1 := kz_b4 (kz_32 f 92)
  have a2 := kz_b32 (kz_32 f 92)
  have b1 : (if lN (ky_le f 92 4) &&& 4 = 0 then (0 : Int64) else 8) = if km_hasP f 92 2 then 8 else 0 := by
    by_cases q : km_hasP f 92 2
    · rw [if_pos q, if_neg (fun z => a1.mp z q)]
    · rw [if_neg q, if_pos (a1.mpr q)]
  have b2 : (if lN (ky_le f 92 4) &&& 32 = 0 then (0 : Int64) else 1) = if km_hasP f 92 5 then 1 else 0 := by
    by_cases q : km_hasP f 92 5
    · rw [if_pos q, if_neg (fun z => a2.mp z q)]
    · rw [if_neg q, if_pos (a2.mpr q)]
  unfold kv_re km_re
  rw [b1, b2]
theorem km_faultE (f : Nat → Int32) : kv_fault f = km_fault f := by
  unfold kv_fault km_fault
  rw [km_szE f, km_ctE f, km_ftE f, km_reE f]
  generalize kv_form f (lN (ky_le f 24 4)) (lN (ky_le f 20 4)) = a
  generalize kv_gs f (kv_size f) (lN (ky_le f 32 4)) (lN (ky_le f 88 2)) (lN (ky_le f 40 4)) (kv_rk f) = b
  generalize kv_ct f (lN (ky_le f 0 4)) (lN (ky_le f 4 4)) (lN (ky_le f 40 4)) (kv_gc f) (kv_few f) = ct
  generalize km_out f 3 = o
  generalize km_re f = r
  have h42 : ¬ (4 : Int32) = -2 := by decide
  by_cases h3 : kv_rmP (lN (ky_le f 4 4)) (lN (ky_le f 20 4)) (lN (ky_le f 32 4)) (kv_gc f) (kv_cb f) (kv_rk f) (kv_few f)
  · have h3' : ¬ ¬ kv_rmP (lN (ky_le f 4 4)) (lN (ky_le f 20 4)) (lN (ky_le f 32 4)) (kv_gc f) (kv_cb f) (kv_rk f) (kv_few f) := fun z => z h3
    simp only [if_neg h3']
    by_cases h1 : a = -2 <;> by_cases h2 : b = -2 <;> simp [h1, h2]
  · simp only [if_pos h3]
    by_cases h1 : a = -2 <;> by_cases h2 : b = -2 <;> simp [h1, h2, h42]
end TIE
