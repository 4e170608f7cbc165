def kP (P : Prop) [Decidable P] : Int32 := if P then 1 else 0
theorem kP_nar {P : Prop} [Decidable P] : narrow .boolean (.int (kP P)) = .int (kP P) := by
  unfold kP
  split <;> rfl
theorem kP_t {P : Prop} [Decidable P] (h : P) : 1 = kP P := (if_pos h).symm
theorem kP_f {P : Prop} [Decidable P] (h : ¬ P) : 0 = kP P := (if_neg h).symm
theorem kP_ne {P : Prop} [Decidable P] (h : ¬ kP P = 0) : P := by
  by_cases q : P
  · exact q
  · exact absurd (kP_f q).symm h
theorem kP_eq {P : Prop} [Decidable P] (h : kP P = 0) : ¬ P := fun q => by
  rw [← kP_t q] at h
  exact absurd h (by decide)
abbrev ky_isFP (a n : Int32) : Prop := (n = 1 ∨ n = 2 ∨ n = 4) ∧ ¬ a < 0 ∧ ¬ 1024 - n < a
abbrev ky_e8P (v lo hi : Int64) : Prop := ¬ v < lo ∧ ¬ hi < v ∧ v &&& 7 = 0
abbrev ky_rlP (v : Int64) : Prop := v = 128 ∨ v = 256 ∨ v = 512 ∨ v = 1024
def ky_q (v b : Int64) : Int64 := if 1 ≤ b then v / b else 0
def ky_qU (v b : Int64) : Int64 := ky_q (v + b - 1) b
def ky_min (x y : Int64) : Int64 := if y < x then y else x
abbrev ky_fewP (g : Int64) : Prop := g = 0 ∨ g = 1 ∨ g = 3 ∨ g = 5 ∨ g = 7 ∨ g = 9 ∨ g = 25 ∨ g = 27 ∨ g = 49
abbrev ky_hcP (fc : Int32) (g : Int64) : Prop := fc = 0 ∨ ky_fewP g
def ky_bc (fc : Int32) (cb g : Int64) : Int64 := if ky_hcP fc g then cb else 0
theorem ky_few_in {g : Int64} {j : Nat} (h : j < 9) (e : (ky_few j).toInt64 = g) : ky_fewP g := by
  subst e
  exact (by decide +kernel : ∀ j, j < 9 → ky_fewP (ky_few j).toInt64) j h
theorem ky_few_all {g : Int64} (h : ∀ j, j < 9 → ¬ (ky_few j).toInt64 = g) : ¬ ky_fewP g := by
  intro q
  rcases q with q | q | q | q | q | q | q | q | q
  · exact h 0 (by decide) (by rw [q]; decide)
  · exact h 1 (by decide) (by rw [q]; decide)
  · exact h 2 (by decide) (by rw [q]; decide)
  · exact h 3 (by decide) (by rw [q]; decide)
  · exact h 4 (by decide) (by rw [q]; decide)
  · exact h 5 (by decide) (by rw [q]; decide)
  · exact h 6 (by decide) (by rw [q]; decide)
  · exact h 7 (by decide) (by rw [q]; decide)
  · exact h 8 (by decide) (by rw [q]; decide)
theorem ky_isF_of {x y : Int32} (h : ky_isFP x y) : ∃ a n : Nat, x = nI a ∧ y = nI n ∧ (n = 1 ∨ n = 2 ∨ n = 4) ∧ a + n ≤ 1024 := by
  obtain ⟨h1, h2, h3⟩ := h
  obtain ⟨a, ha, rfl⟩ := nI_of h2
  rcases h1 with rfl | rfl | rfl
  · refine ⟨a, 1, rfl, rfl, Or.inl rfl, ?_⟩
    have h4 : ¬ nI 1023 < nI a := h3
    have h5 : ¬ 1023 < a := fun q => h4 ((nI_ltI (a := 1023) (b := a) (by decide) ha).mpr q)
    omega
  · refine ⟨a, 2, rfl, rfl, Or.inr (Or.inl rfl), ?_⟩
    have h4 : ¬ nI 1022 < nI a := h3
    have h5 : ¬ 1022 < a := fun q => h4 ((nI_ltI (a := 1022) (b := a) (by decide) ha).mpr q)
    omega
  · refine ⟨a, 4, rfl, rfl, Or.inr (Or.inr rfl), ?_⟩
    have h4 : ¬ nI 1020 < nI a := h3
    have h5 : ¬ 1020 < a := fun q => h4 ((nI_ltI (a := 1020) (b := a) (by decide) ha).mpr q)
    omega
theorem ky_isF_mk {a n : Nat} (hn : n = 1 ∨ n = 2 ∨ n = 4) (h : a + n ≤ 1024) : ky_isFP (nI a) (nI n) := by
  refine ⟨?_, nI_pos (by omega), ?_⟩
  · rcases hn with rfl | rfl | rfl
    · exact Or.inl rfl
    · exact Or.inr (Or.inl rfl)
    · exact Or.inr (Or.inr rfl)
  · have e : (1024 : Int32) - nI n = nI (1024 - n) := pk_sub (a := 1024) (b := n) (by omega)
    rw [e]
    exact nI_nlt (by omega) (by omega)
def ky_fl (f : Nat → Int32) (a n : Int32) : Int64 := if ky_isFP a n then lN (ky_le f a.toNatClampNeg n.toNatClampNeg) else -1
theorem ky_fl_mk (f : Nat → Int32) {a n : Nat} (hn : n = 1 ∨ n = 2 ∨ n = 4) (h : a + n ≤ 1024) : ky_fl f (nI a) (nI n) = lN (ky_le f a n) := by
  unfold ky_fl
  rw [if_pos (ky_isF_mk hn h), nI_clamp (by omega), nI_clamp (by omega)]
def ky_ww (f : Nat → Int32) (a n : Int32) (v : Int64) : Nat → Int32 := if ky_isFP a n then ky_wr f a.toNatClampNeg v n.toNatClampNeg else f
theorem ky_ww_mk (f : Nat → Int32) {a n : Nat} (v : Int64) (hn : n = 1 ∨ n = 2 ∨ n = 4) (h : a + n ≤ 1024) : ky_ww f (nI a) (nI n) v = ky_wr f a v n := by
  unfold ky_ww
  rw [if_pos (ky_isF_mk hn h), nI_clamp (by omega), nI_clamp (by omega)]
theorem kP_fit {P : Prop} [Decidable P] : fits .boolean (.int (kP P)) = true := by
  unfold kP
  split <;> rfl
theorem ky_le_48 (f : Nat → Int32) (a : Nat) {n : Nat} (h : n ≤ 6) : ky_le f a n < 2 ^ 48 := by
  have h1 := ky_le_lt f n a
  have h2 : 256 ^ n ≤ 256 ^ 6 := Nat.pow_le_pow_right (by decide) h
  have h3 : (256 : Nat) ^ 6 = 2 ^ 48 := by decide
  omega
theorem ky_cp0 (f g : Nat → Int32) : f = ky_cp f g 0 := by
  funext j
  simp [ky_cp]
def ky_wc (f : Nat → Int32) : Nat → Int32 :=
  ky_wr (ky_wr (ky_wr (ky_wr (ky_wr (ky_wr (ky_wr (ky_wr (ky_wr (ky_wr f 54 65535 2) 56 61267 2) 58 1 2) 76 1 4) 84 11 4) 92 36 4) 96 66 4) 100 3 4) 224 8 4) 252 1 1
