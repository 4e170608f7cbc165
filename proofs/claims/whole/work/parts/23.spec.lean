def km_cp (f g : Nat → Int32) (n : Nat) : Nat → Int32 := fun j => if j < n then g j else f j
theorem km_cp0 (f g : Nat → Int32) : f = km_cp f g 0 := by
  funext j
  simp [km_cp]
theorem km_cp_s (f g : Nat → Int32) (n : Nat) : upd (km_cp f g n) n (g n) = km_cp f g (n + 1) := by
  funext j
  unfold upd km_cp
  by_cases h : j = n
  · subst h; simp
  · simp only [h, if_false]
    by_cases h2 : j < n
    · rw [if_pos h2, if_pos (by omega)]
    · rw [if_neg h2, if_neg (by omega)]
theorem km_cpBy (f g : Nat → Int32) (n j : Nat) : ky_by (km_cp f g n) j = if j < n then ky_by g j else ky_by f j := by
  unfold ky_by km_cp
  by_cases h : j < n
  · simp only [h, if_true]
  · simp only [h, if_false]
theorem km_cpOk (f : Nat → Int32) {g : Nat → Int32} (h : km_ok g) : km_ok (km_cp f g 1024) := by
  intro j hj
  rw [km_cpBy, if_pos hj]
  show (if j < 1024 then g j else f j) = _
  rw [if_pos hj]
  exact h j hj
theorem km_zOk (f : Nat → Int32) : km_ok (km_cp f (fun _ => 0) 1024) := km_cpOk f (fun j _ => rfl)
theorem km_leOff (f : Nat → Int32) (v : Int64) {a n b m : Nat} (hn : n ≤ 8) (h : b + m ≤ a ∨ a + n ≤ b) : ky_le (km_st f a v n) b m = ky_le f b m :=
  ky_le_congr m b (fun j h1 h2 => by rw [km_stBy f a v n hn j, if_neg (by omega)])
theorem ky_leOff (f : Nat → Int32) (v : Int64) {a n b m : Nat} (hn : n ≤ 8) (h : b + m ≤ a ∨ a + n ≤ b) : ky_le (ky_wr f a v n) b m = ky_le f b m :=
  ky_le_congr m b (fun j h1 h2 => by rw [ky_wrBy f a v n hn j, if_neg (by omega)])
theorem ky_leNum (f : Nat → Int32) (x : Nat) : ∀ (n a : Nat), (∀ i, i < n → ky_by f (a + i) = x / 256 ^ i % 256) → ky_le f a n = x % 256 ^ n := by
  intro n
  induction n generalizing x with
  | zero => intro a _; rw [Nat.pow_zero, Nat.mod_one]; rfl
  | succ n ih =>
    intro a h
    show ky_by f a + 256 * ky_le f (a + 1) n = _
    have h0 := h 0 (Nat.succ_pos n)
    rw [Nat.add_zero, Nat.pow_zero, Nat.div_one] at h0
    have h1 := ih (x / 256) (a + 1) (fun i hi => by
      have := h (i + 1) (by omega)
      rw [show a + 1 + i = a + (i + 1) by omega, this, Nat.pow_succ, Nat.mul_comm (256 ^ i) 256, ← Nat.div_div_eq_div_mul])
    rw [h0, h1, Nat.pow_succ, Nat.mul_comm (256 ^ n) 256, Nat.mod_mul]
theorem km_leSame (f : Nat → Int32) (v : Int64) {a n : Nat} (hn : n ≤ 8) : ky_le (km_st f a v n) a n = v.toBitVec.toNat % 256 ^ n :=
  ky_leNum _ _ n a (fun i hi => by rw [km_stBy f a v n hn, if_pos (by omega), show a + i - a = i by omega])
theorem ky_leSame (f : Nat → Int32) (v : Int64) {a n : Nat} (hn : n ≤ 8) : ky_le (ky_wr f a v n) a n = v.toBitVec.toNat % 256 ^ n :=
  ky_leNum _ _ n a (fun i hi => by rw [ky_wrBy f a v n hn, if_pos (by omega), show a + i - a = i by omega])
def km_ww (f : Nat → Int32) (a n : Int32) (v : Int64) : Nat → Int32 := if ky_isFP a n then km_st f a.toNatClampNeg v n.toNatClampNeg else f
theorem km_ww_mk (f : Nat → Int32) {a n : Nat} (v : Int64) (hn : n = 1 ∨ n = 2 ∨ n = 4) (h : a + n ≤ 1024) : km_ww f (nI a) (nI n) v = km_st f a v n := by
  unfold km_ww
  rw [if_pos (ky_isF_mk hn h), nI_clamp (by omega), nI_clamp (by omega)]
abbrev km_pkP (i v : Int32) : Prop := ¬ i < 0 ∧ ¬ 1024 ≤ i ∧ ¬ v < 0 ∧ v ≤ 255
theorem km_in {i : Int32} (h1 : ¬ i < 0) (h2 : ¬ 1024 ≤ i) : vp_in i 1024 := by
  obtain ⟨j, hj, rfl⟩ := nI_of h1
  have h3 : ¬ 1024 ≤ j := fun q => h2 ((nI_leI (a := 1024) (by decide) hj).mpr q)
  exact vp_in_nI (by omega) (by decide)
def km_T1 (gd : Nat → Int32) (p1 p2 p3 p4 p5 : Int32) : Nat → Int32 :=
  km_st (km_st (km_st (km_st (km_st (km_st (km_st (km_st (km_st (km_st (km_st (km_st (km_st (km_st (km_st (km_st (km_st (km_st (km_cp gd (fun _ => 0) 1024) 4 p1.toInt64 4) 20 (if p5 = 0 then 1 else 0) 4) 24 p5.toInt64 4) 28 p5.toInt64 4) 32 p2.toInt64 4) 36 p2.toInt64 4) 40 p3.toInt64 4) 54 65535 2) 56 61267 2) 58 1 2) 76 1 4) 84 11 4) 88 p4.toInt64 2) 92 36 4) 96 66 4) 100 3 4) 224 8 4) 252 1 1
def km_T (gd : Nat → Int32) (p1 p2 p3 p4 p5 : Int32) : Nat → Int32 := km_st (km_T1 gd p1 p2 p3 p4 p5) 0 (kv_gc (km_T1 gd p1 p2 p3 p4 p5) * lN (ky_le (km_T1 gd p1 p2 p3 p4 p5) 40 4)) 4
abbrev km_lP (gd : Nat → Int32) (p1 p2 p3 p4 p5 : Int32) : Prop := ¬ p5 < 0 ∧ ¬ 2 < p5 ∧ ¬ p4 < 0 ∧ ¬ 1024 < p4 ∧ 1 ≤ p2 ∧ km_fault (km_T gd p1 p2 p3 p4 p5) = -2
theorem km_toNat (x : Int32) : x.toInt64.toBitVec.toNat % 256 ^ 4 = x.toBitVec.toNat := by
  have h : x.toInt64.toBitVec.toNat % 2 ^ 32 = x.toBitVec.toNat := by
    apply Nat.eq_of_testBit_eq
    intro j
    rw [Nat.testBit_mod_two_pow, BitVec.testBit_toNat, BitVec.testBit_toNat, Int32.toBitVec_toInt64, BitVec.getLsbD_signExtend]
    by_cases hj : j < 32
    · have : j < 64 := by omega
      simp [hj, this]
    · simp [hj]
      rw [BitVec.getLsbD_of_ge _ _ (by omega)]
  exact h
theorem km_T1Ok (gd : Nat → Int32) (p1 p2 p3 p4 p5 : Int32) : km_ok (km_T1 gd p1 p2 p3 p4 p5) := by
  unfold km_T1
  repeat first | exact km_zOk gd | (refine km_stOk ?_ _ _ _ (by decide))
theorem km_T1_32 (gd : Nat → Int32) (p1 p2 p3 p4 p5 : Int32) : ky_le (km_T1 gd p1 p2 p3 p4 p5) 32 4 = p2.toBitVec.toNat := by
  unfold km_T1
  repeat (first | rw [km_leSame _ _ (by decide)] | rw [km_leOff _ _ (by decide) (by decide)])
  exact km_toNat p2
theorem km_T1h (gd : Nat → Int32) (p1 : Int32) {p2 : Int32} (p3 p4 p5 : Int32) (h : 1 ≤ p2) : 1 ≤ lN (ky_le (km_T1 gd p1 p2 p3 p4 p5) 32 4) := by
  rw [km_T1_32]
  have h0 : ¬ p2 < 0 := by
    intro q
    have h1 := Int32.le_iff_toInt_le.mp h
    have h2 := Int32.lt_iff_toInt_lt.mp q
    have e1 : (1 : Int32).toInt = 1 := by decide
    have e0 : (0 : Int32).toInt = 0 := by decide
    omega
  obtain ⟨n, hn, rfl⟩ := nI_of h0
  have h1 : 1 ≤ n := (nI_leI (a := 1) (by decide) hn).mp h
  rw [pk_tn (by omega)]
  exact (lN_le (a := 1) (by decide) hn).mpr h1
def km_df (f0 f1 : Nat → Int32) : Nat → Int32
  | 0 => -2
  | n + 1 => if f0 (1023 - n) = f1 (1023 - n) then km_df f0 f1 n else if km_mdP (nI (1023 - n)) then km_df f0 f1 n else nI (1023 - n)
abbrev km_grP (f : Nat → Int32) (g : Int32) : Prop := km_fault f = -2 ∧ ¬ g < 0 ∧ ¬ kv_gc f ≤ g.toInt64
def km_where (f : Nat → Int32) (g w : Int32) : Int32 :=
  if ¬ (km_grP f g ∧ ¬ w < 0 ∧ w ≤ 7) then -1
  else if w = 0 then (lN (ky_le f 20 4) + g.toInt64 * lN (ky_le f 32 4)).toInt32
  else if w = 1 then (ky_min (lN (ky_le f 32 4)) (lN (ky_le f 4 4) - (lN (ky_le f 20 4) + g.toInt64 * lN (ky_le f 32 4)))).toInt32
  else if w = 2 then (if km_hcP f g.toNatClampNeg then 1 else 0)
  else if w = 3 then (lN (ky_le f 20 4) + g.toInt64 * lN (ky_le f 32 4) + km_hd f g.toNatClampNeg).toInt32
  else if w = 4 then (lN (ky_le f 20 4) + g.toInt64 * lN (ky_le f 32 4) + km_hd f g.toNatClampNeg + 1).toInt32
  else if w = 5 then (lN (ky_le f 20 4) + g.toInt64 * lN (ky_le f 32 4) + km_hd f g.toNatClampNeg + 2).toInt32
  else if w = 6 then (kv_rk f).toInt32
  else (km_hd f g.toNatClampNeg + 2 + kv_rk f).toInt32
def km_at (f : Nat → Int32) (n : Int32) : Int64 := (n.toInt64 - 1 - (n.toInt64 - 1) / lN (ky_le f 40 4) * lN (ky_le f 40 4)) * lN (ky_le f 88 2)
def km_record (f : Nat → Int32) (n pl : Int32) : Int32 :=
  if ¬ km_fault f = -2 ∨ n < 1 ∨ ¬ n.toInt64 ≤ lN (ky_le f 0 4) then -1
  else if pl = 0 then ((km_where f ((n.toInt64 - 1) / lN (ky_le f 40 4)).toInt32 5).toInt64 + km_at f n / kv_size f).toInt32
  else (km_at f n - km_at f n / kv_size f * kv_size f).toInt32
theorem km_sz40 {f : Nat → Int32} (h : km_sz f = -2) : ¬ lN (ky_le f 40 4) = 0 := by
  intro q
  have q1 : lN (ky_le f 40 4) < 16 := by rw [q]; decide
  unfold km_sz at h
  have q2 : ¬ (km_inP (lN (ky_le f 40 4)) 16 (8 * kv_size f) ∧ lN (ky_le f 40 4) - lN (ky_le f 40 4) / 8 * 8 = 0 ∧ lN (ky_le f 40 4) * lN (ky_le f 88 2) - lN (ky_le f 40 4) * lN (ky_le f 88 2) / kv_size f * kv_size f = 0) := fun z => z.1.1 q1
  simp only [if_neg q2] at h
  revert h
  repeat' split
  all_goals decide
section KXM
variable {p : Program} {l : Launch} {e : Env} {R : Room} {s : State} {m : MethodId} {args : Array Value} {below : List Frame} {meth : Method} {c : Code} {H : Heap} {locs : List Loc} {cells slots : Nat} {Q : State → Prop}
variable {D : va_G} {A : Nat → Prop}
abbrev kw_Mo (cI : ClassId) (y a0 a1 a2 : Nat) (g0 g1 gd : Nat → Int32) : va_W := [(y, .inr (3, [.ref a0, .ref a1, .ref a2])), (a0, .inl (cI, 1024, .inl g0)), (a1, .inl (cI, 1024, .inl g1)), (a2, .inl (cI, 1024, .inl gd))]
abbrev kx_Mo (D : va_G) (cI : ClassId) (y a0 a1 a2 : Nat) (g0 g1 : Nat → Int32) (A : Nat → Prop) (t : State) : Prop := ∃ gd : Nat → Int32, kf_po D (kw_Mo cI y a0 a1 a2 g0 g1 gd) A t
theorem kx_atM {cI : ClassId} {y a0 a1 a2 : Nat} {g0 g1 gd : Nat → Int32} (hP : va_P D vwCl (kw_Mo cI y a0 a1 a2 g0 g1 gd) H) (hD : va_D A (kw_Mo cI y a0 a1 a2 g0 g1 gd)) : ∀ t : State, t.heap = H → s.WarmedH t.vm → kx_Mo D cI y a0 a1 a2 g0 g1 A t := fun t ht _ => ⟨gd, by rw [ht]; exact hP, hD⟩
end KXM
