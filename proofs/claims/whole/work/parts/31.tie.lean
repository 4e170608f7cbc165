section TIE2
variable {f g f0 g0 f1 g1 : Nat → Int32}
def kz_R (f g : Nat → Int32) : Prop := (∀ j, j < 1024 → ky_by f j = ky_by g j) ∧ km_ok g
theorem kz_RA (h : kz_R f g) : kz_A f g := kz_of h.1
theorem kz_fl (h : kz_R f g) (a n : Int32) : ky_fl f a n = ky_fl g a n := by
  by_cases q : ky_isFP a n
  · obtain ⟨x, y, rfl, rfl, hn, hxy⟩ := ky_isF_of q
    rw [ky_fl_mk f hn hxy, ky_fl_mk g hn hxy, kz_RA h x y hxy]
  · unfold ky_fl
    rw [if_neg q, if_neg q]
theorem kz_wrR (h : kz_R f g) (a : Nat) (v : Int64) (n : Nat) (hn : n ≤ 8) : kz_R (ky_wr f a v n) (km_st g a v n) :=
  ⟨fun j hj => by rw [ky_wrBy f a v n hn, km_stBy g a v n hn, h.1 j hj], km_stOk h.2 a v n hn⟩
theorem kz_ww (h : kz_R f g) (a n : Int32) (v : Int64) : kz_R (ky_ww f a n v) (km_ww g a n v) := by
  by_cases q : ky_isFP a n
  · obtain ⟨x, y, rfl, rfl, hn, hxy⟩ := ky_isF_of q
    rw [ky_ww_mk f v hn hxy, km_ww_mk g v hn hxy]
    exact kz_wrR h x v y (by omega)
  · unfold ky_ww km_ww
    rw [if_neg q, if_neg q]
    exact h
theorem kz_if {P Q : Prop} [Decidable P] [Decidable Q] {a b c d : Nat → Int32} (h : P ↔ Q) (h1 : P → kz_R a b) (h2 : ¬ P → kz_R c d) : kz_R (if P then a else c) (if Q then b else d) := by
  by_cases q : P
  · rw [if_pos q, if_pos (h.mp q)]; exact h1 q
  · rw [if_neg q, if_neg (fun z => q (h.mpr z))]; exact h2 q
theorem kz_iE {α : Type} {P Q : Prop} [Decidable P] [Decidable Q] {a b c d : α} (h : P ↔ Q) (h1 : P → a = b) (h2 : ¬ P → c = d) : (if P then a else c) = if Q then b else d := by
  by_cases q : P
  · rw [if_pos q, if_pos (h.mp q)]; exact h1 q
  · rw [if_neg q, if_neg (fun z => q (h.mpr z))]; exact h2 q
theorem kz_pk (i v : Int32) : kr_pokeP i v ↔ km_pkP i v := by
  have e : ∀ j : Nat, j < 2 ^ 31 → (¬ (1024 - 1 : Int32) < nI j ↔ ¬ (1024 : Int32) ≤ nI j) := by
    intro j hj
    have a1 : (1024 - 1 : Int32) < nI j ↔ 1023 < j := nI_ltI (a := 1023) (by decide) hj
    have a2 : (1024 : Int32) ≤ nI j ↔ 1024 ≤ j := nI_leI (a := 1024) (by decide) hj
    rw [a1, a2]
    omega
  constructor
  · rintro ⟨⟨-, h1, h2⟩, h3, h4⟩
    obtain ⟨j, hj, rfl⟩ := nI_of h1
    exact ⟨h1, (e j hj).mp h2, h3, h4⟩
  · rintro ⟨h1, h2, h3, h4⟩
    obtain ⟨j, hj, rfl⟩ := nI_of h1
    exact ⟨⟨Or.inl rfl, h1, (e j hj).mpr h2⟩, h3, h4⟩
theorem kz_pkV (h : kz_R f g) {i v : Int32} (hq : kr_pokeP i v) : (ky_fl f i 1).toInt32 = g i.toNatClampNeg := by
  obtain ⟨x, y, rfl, e1, hn, hxy⟩ := ky_isF_of hq.1
  have hy : y = 1 := by
    rcases hn with rfl | rfl | rfl
    · rfl
    · exact absurd e1 (by decide)
    · exact absurd e1 (by decide)
  subst hy
  have e2 : ky_fl f (nI x) 1 = lN (ky_le f x 1) := ky_fl_mk f (a := x) (n := 1) (by decide) (by omega)
  rw [e2, lN_i, nI_clamp (by omega), h.2 x (by omega)]
  congr 1
  exact h.1 x (by omega)
theorem kz_pkR (h : kz_R f g) {i v : Int32} (hq : kr_pokeP i v) : kz_R (ky_ww f i 1 v.toInt64) (upd g i.toNatClampNeg v) := by
  obtain ⟨x, y, rfl, e1, hn, hxy⟩ := ky_isF_of hq.1
  have hy : y = 1 := by
    rcases hn with rfl | rfl | rfl
    · rfl
    · exact absurd e1 (by decide)
    · exact absurd e1 (by decide)
  subst hy
  obtain ⟨m, hm, rfl⟩ := nI_of hq.2.1
  have hm2 : m ≤ 255 := (nI_leI (b := 255) hm (by decide)).mp hq.2.2
  have e2 : ky_ww f (nI x) 1 (nI m).toInt64 = ky_wr f x (nI m).toInt64 1 := ky_ww_mk f (a := x) (n := 1) _ (by decide) (by omega)
  rw [e2, nI_clamp (by omega), nI_l hm]
  constructor
  · intro j hj
    rw [ky_wrBy f x _ 1 (by decide) j, wb_tn (by omega)]
    show _ = (upd g x (nI m) j).toBitVec.toNat % 256
    by_cases q : j = x
    · subst q
      rw [if_pos (by omega), pk_us, Nat.sub_self, Nat.pow_zero, Nat.div_one, pk_tn (by omega)]
    · rw [if_neg (by omega), pk_un q, h.1 j hj]
      rfl
  · intro j hj
    show upd g x (nI m) j = nI ((upd g x (nI m) j).toBitVec.toNat % 256)
    by_cases q : j = x
    · subst q
      rw [pk_us, pk_tn (by omega), Nat.mod_eq_of_lt (by omega)]
    · rw [pk_un q]
      exact h.2 j hj
theorem kz_fE (h : kz_A f g) : kv_fault f = km_fault g := (kz_fault h).trans (km_faultE g)
theorem kz_gr (h : kz_A f g) (p : Int32) : kr_grP f p ↔ km_grP g p := by
  show (kv_fault f = -2 ∧ ¬ p < 0 ∧ ¬ kv_gc f ≤ p.toInt64) ↔ (km_fault g = -2 ∧ ¬ p < 0 ∧ ¬ kv_gc g ≤ p.toInt64)
  rw [kz_fE h, kz_gc h]
theorem kz_gr64 {p : Int32} (h : km_grP g p) : ∃ n, n < 64 ∧ p = nI n := by
  obtain ⟨h1, h2, h3⟩ := h
  obtain ⟨n, hn, rfl⟩ := nI_of h2
  rw [nI_l hn] at h3
  exact ⟨n, km_own64 (km_ctI (km_fI h1).2.1).2.2.1 h3 hn, rfl⟩
theorem kz_cp (h : kz_A f g) (p : Int32) : (kr_grP f p ∧ ky_hcP (kv_few f) p.toInt64) ↔ (km_grP g p ∧ km_hcP g p.toNatClampNeg) := by
  rw [kz_gr h p, kz_few h]
  constructor
  · rintro ⟨h1, h2⟩
    obtain ⟨n, hn, rfl⟩ := kz_gr64 h1
    rw [nI_l (by omega)] at h2
    rw [nI_clamp (by omega)]
    exact ⟨h1, (kz_hc g hn).mp h2⟩
  · rintro ⟨h1, h2⟩
    obtain ⟨n, hn, rfl⟩ := kz_gr64 h1
    rw [nI_clamp (by omega)] at h2
    rw [nI_l (by omega)]
    exact ⟨h1, (kz_hc g hn).mpr h2⟩
theorem kz_cpR (h : kz_R f g) (a b : Nat → Int32) : kz_R (ky_cp a f 1024) (km_cp b g 1024) :=
  ⟨fun j hj => by rw [ky_cpBy, km_cpBy, if_pos hj, if_pos hj, h.1 j hj], km_cpOk b h.2⟩
def kz_fb (k : Nat) : Bool := decide (kr_foP (nI k))
def kz_mb (k : Nat) : Bool := decide (km_mdP (nI k))
theorem kz_fmE : ∀ k, k < 1024 → kz_fb k = !kz_mb k := by decide +kernel
theorem kz_fm {k : Nat} (hk : k < 1024) : kr_foP (nI k) ↔ ¬ km_mdP (nI k) := by
  have h := kz_fmE k hk
  unfold kz_fb kz_mb at h
  by_cases q : km_mdP (nI k)
  · rw [decide_eq_true q] at h
    exact ⟨fun z => absurd z (of_decide_eq_false h), fun z => absurd q z⟩
  · rw [decide_eq_false q] at h
    exact ⟨fun _ => q, fun _ => of_decide_eq_true h⟩
theorem kz_df (h0 : kz_R f0 g0) (h1 : kz_R f1 g1) : ∀ n, n ≤ 1024 → kr_df f0 f1 n = km_df g0 g1 n := by
  intro n
  induction n with
  | zero => intro _; rfl
  | succ n ih =>
    intro hn
    have hk : 1023 - n < 1024 := by omega
    have e : lN (ky_le f0 (1023 - n) 1) = lN (ky_le f1 (1023 - n) 1) ↔ g0 (1023 - n) = g1 (1023 - n) := by
      have a0 : ky_le f0 (1023 - n) 1 = ky_by g0 (1023 - n) := h0.1 _ hk
      have a1 : ky_le f1 (1023 - n) 1 = ky_by g1 (1023 - n) := h1.1 _ hk
      have b0 := ky_by_lt g0 (1023 - n)
      have b1 := ky_by_lt g1 (1023 - n)
      rw [a0, a1, h0.2 _ hk, h1.2 _ hk, lN_eq (by omega) (by omega), nI_eq (by omega) (by omega)]
    show (if lN (ky_le f0 (1023 - n) 1) = lN (ky_le f1 (1023 - n) 1) then kr_df f0 f1 n else if kr_foP (nI (1023 - n)) then nI (1023 - n) else kr_df f0 f1 n) = (if g0 (1023 - n) = g1 (1023 - n) then km_df g0 g1 n else if km_mdP (nI (1023 - n)) then km_df g0 g1 n else nI (1023 - n))
    refine kz_iE e (fun _ => ih (by omega)) (fun _ => ?_)
    by_cases q : km_mdP (nI (1023 - n))
    · rw [if_pos q, if_neg (fun z => (kz_fm hk).mp z q)]
      exact ih (by omega)
    · rw [if_neg q, if_pos ((kz_fm hk).mpr q)]
theorem kz_where1 (h : kz_A f g) (p w : Int32) : kr_where f p w = kr_where g p w := by
  unfold kr_where kr_grP
  rw [kz_fault h, kz_gc h, kz_few h, kz_cb h, kz_rk h, h 20 4 (by decide), h 32 4 (by decide), h 4 4 (by decide)]
theorem kz_where2 (g : Nat → Int32) (p w : Int32) : kr_where g p w = km_where g p w := by
  have hA : kz_A g g := fun _ _ _ => rfl
  by_cases q : kr_grP g p
  · have q2 : km_grP g p := (kz_gr hA p).mp q
    obtain ⟨n, hn, rfl⟩ := kz_gr64 q2
    have e1 : (nI n).toInt64 = lN n := nI_l (by omega)
    have e2 : (nI n).toNatClampNeg = n := nI_clamp (by omega)
    have hb := kz_hd g hn
    have hc := kz_hc g hn
    have q3 : ¬ ¬ kr_grP g (nI n) := fun z => z q
    rcases ky_sw8 w with rfl | rfl | rfl | rfl | rfl | rfl | rfl | rfl | hw
    · have q4 : ¬ ¬ (km_grP g (nI n) ∧ ¬ (0 : Int32) < 0 ∧ (0 : Int32) ≤ 7) := fun z => z ⟨q2, by decide, by decide⟩
      have l : kr_where g (nI n) 0 = (lN (ky_le g 20 4) + (nI n).toInt64 * lN (ky_le g 32 4)).toInt32 := by unfold kr_where; rw [if_neg q3, if_pos rfl]
      have r : km_where g (nI n) 0 = (lN (ky_le g 20 4) + (nI n).toInt64 * lN (ky_le g 32 4)).toInt32 := by unfold km_where; rw [if_neg q4, if_pos rfl]
      rw [l, r]
    · have q4 : ¬ ¬ (km_grP g (nI n) ∧ ¬ (1 : Int32) < 0 ∧ (1 : Int32) ≤ 7) := fun z => z ⟨q2, by decide, by decide⟩
      have l : kr_where g (nI n) 1 = (ky_min (lN (ky_le g 32 4)) (lN (ky_le g 4 4) - (lN (ky_le g 20 4) + (nI n).toInt64 * lN (ky_le g 32 4)))).toInt32 := by unfold kr_where; rw [if_neg q3, if_neg (show ¬ (1 : Int32) = 0 by decide), if_pos rfl]
      have r : km_where g (nI n) 1 = (ky_min (lN (ky_le g 32 4)) (lN (ky_le g 4 4) - (lN (ky_le g 20 4) + (nI n).toInt64 * lN (ky_le g 32 4)))).toInt32 := by unfold km_where; rw [if_neg q4, if_neg (show ¬ (1 : Int32) = 0 by decide), if_pos rfl]
      rw [l, r]
    · have q4 : ¬ ¬ (km_grP g (nI n) ∧ ¬ (2 : Int32) < 0 ∧ (2 : Int32) ≤ 7) := fun z => z ⟨q2, by decide, by decide⟩
      have l : kr_where g (nI n) 2 = (if ky_hcP (kv_few g) (nI n).toInt64 then 1 else 0) := by unfold kr_where; rw [if_neg q3, if_neg (show ¬ (2 : Int32) = 0 by decide), if_neg (show ¬ (2 : Int32) = 1 by decide), if_pos rfl]
      have r : km_where g (nI n) 2 = (if km_hcP g (nI n).toNatClampNeg then 1 else 0) := by unfold km_where; rw [if_neg q4, if_neg (show ¬ (2 : Int32) = 0 by decide), if_neg (show ¬ (2 : Int32) = 1 by decide), if_pos rfl]
      rw [l, r]
      rw [e1, e2]
      exact kz_iE hc (fun _ => rfl) (fun _ => rfl)
    · have q4 : ¬ ¬ (km_grP g (nI n) ∧ ¬ (3 : Int32) < 0 ∧ (3 : Int32) ≤ 7) := fun z => z ⟨q2, by decide, by decide⟩
      have l : kr_where g (nI n) 3 = (lN (ky_le g 20 4) + (nI n).toInt64 * lN (ky_le g 32 4) + ky_bc (kv_few g) (kv_cb g) (nI n).toInt64).toInt32 := by unfold kr_where; rw [if_neg q3, if_neg (show ¬ (3 : Int32) = 0 by decide), if_neg (show ¬ (3 : Int32) = 1 by decide), if_neg (show ¬ (3 : Int32) = 2 by decide), if_pos rfl]
      have r : km_where g (nI n) 3 = (lN (ky_le g 20 4) + (nI n).toInt64 * lN (ky_le g 32 4) + km_hd g (nI n).toNatClampNeg).toInt32 := by unfold km_where; rw [if_neg q4, if_neg (show ¬ (3 : Int32) = 0 by decide), if_neg (show ¬ (3 : Int32) = 1 by decide), if_neg (show ¬ (3 : Int32) = 2 by decide), if_pos rfl]
      rw [l, r]
      rw [e1, e2, hb]
    · have q4 : ¬ ¬ (km_grP g (nI n) ∧ ¬ (4 : Int32) < 0 ∧ (4 : Int32) ≤ 7) := fun z => z ⟨q2, by decide, by decide⟩
      have l : kr_where g (nI n) 4 = (lN (ky_le g 20 4) + (nI n).toInt64 * lN (ky_le g 32 4) + ky_bc (kv_few g) (kv_cb g) (nI n).toInt64 + 1).toInt32 := by unfold kr_where; rw [if_neg q3, if_neg (show ¬ (4 : Int32) = 0 by decide), if_neg (show ¬ (4 : Int32) = 1 by decide), if_neg (show ¬ (4 : Int32) = 2 by decide), if_neg (show ¬ (4 : Int32) = 3 by decide), if_pos rfl]
      have r : km_where g (nI n) 4 = (lN (ky_le g 20 4) + (nI n).toInt64 * lN (ky_le g 32 4) + km_hd g (nI n).toNatClampNeg + 1).toInt32 := by unfold km_where; rw [if_neg q4, if_neg (show ¬ (4 : Int32) = 0 by decide), if_neg (show ¬ (4 : Int32) = 1 by decide), if_neg (show ¬ (4 : Int32) = 2 by decide), if_neg (show ¬ (4 : Int32) = 3 by decide), if_pos rfl]
      rw [l, r]
      rw [e1, e2, hb]
    · have q4 : ¬ ¬ (km_grP g (nI n) ∧ ¬ (5 : Int32) < 0 ∧ (5 : Int32) ≤ 7) := fun z => z ⟨q2, by decide, by decide⟩
      have l : kr_where g (nI n) 5 = (lN (ky_le g 20 4) + (nI n).toInt64 * lN (ky_le g 32 4) + ky_bc (kv_few g) (kv_cb g) (nI n).toInt64 + 1 + 1).toInt32 := by unfold kr_where; rw [if_neg q3, if_neg (show ¬ (5 : Int32) = 0 by decide), if_neg (show ¬ (5 : Int32) = 1 by decide), if_neg (show ¬ (5 : Int32) = 2 by decide), if_neg (show ¬ (5 : Int32) = 3 by decide), if_neg (show ¬ (5 : Int32) = 4 by decide), if_pos rfl]
      have r : km_where g (nI n) 5 = (lN (ky_le g 20 4) + (nI n).toInt64 * lN (ky_le g 32 4) + km_hd g (nI n).toNatClampNeg + 2).toInt32 := by unfold km_where; rw [if_neg q4, if_neg (show ¬ (5 : Int32) = 0 by decide), if_neg (show ¬ (5 : Int32) = 1 by decide), if_neg (show ¬ (5 : Int32) = 2 by decide), if_neg (show ¬ (5 : Int32) = 3 by decide), if_neg (show ¬ (5 : Int32) = 4 by decide), if_pos rfl]
      rw [l, r]
      rw [e1, e2, hb]
      rw [Int64.add_assoc (lN (ky_le g 20 4) + lN n * lN (ky_le g 32 4) + km_hd g n) 1 1]
      rfl
    · have q4 : ¬ ¬ (km_grP g (nI n) ∧ ¬ (6 : Int32) < 0 ∧ (6 : Int32) ≤ 7) := fun z => z ⟨q2, by decide, by decide⟩
      have l : kr_where g (nI n) 6 = (kv_rk g).toInt32 := by unfold kr_where; rw [if_neg q3, if_neg (show ¬ (6 : Int32) = 0 by decide), if_neg (show ¬ (6 : Int32) = 1 by decide), if_neg (show ¬ (6 : Int32) = 2 by decide), if_neg (show ¬ (6 : Int32) = 3 by decide), if_neg (show ¬ (6 : Int32) = 4 by decide), if_neg (show ¬ (6 : Int32) = 5 by decide), if_pos rfl]
      have r : km_where g (nI n) 6 = (kv_rk g).toInt32 := by unfold km_where; rw [if_neg q4, if_neg (show ¬ (6 : Int32) = 0 by decide), if_neg (show ¬ (6 : Int32) = 1 by decide), if_neg (show ¬ (6 : Int32) = 2 by decide), if_neg (show ¬ (6 : Int32) = 3 by decide), if_neg (show ¬ (6 : Int32) = 4 by decide), if_neg (show ¬ (6 : Int32) = 5 by decide), if_pos rfl]
      rw [l, r]
    · have q4 : ¬ ¬ (km_grP g (nI n) ∧ ¬ (7 : Int32) < 0 ∧ (7 : Int32) ≤ 7) := fun z => z ⟨q2, by decide, by decide⟩
      have l : kr_where g (nI n) 7 = (ky_bc (kv_few g) (kv_cb g) (nI n).toInt64 + 2 + kv_rk g).toInt32 := by unfold kr_where; rw [if_neg q3, if_neg (show ¬ (7 : Int32) = 0 by decide), if_neg (show ¬ (7 : Int32) = 1 by decide), if_neg (show ¬ (7 : Int32) = 2 by decide), if_neg (show ¬ (7 : Int32) = 3 by decide), if_neg (show ¬ (7 : Int32) = 4 by decide), if_neg (show ¬ (7 : Int32) = 5 by decide), if_neg (show ¬ (7 : Int32) = 6 by decide), if_pos rfl]
      have r : km_where g (nI n) 7 = (km_hd g (nI n).toNatClampNeg + 2 + kv_rk g).toInt32 := by unfold km_where; rw [if_neg q4, if_neg (show ¬ (7 : Int32) = 0 by decide), if_neg (show ¬ (7 : Int32) = 1 by decide), if_neg (show ¬ (7 : Int32) = 2 by decide), if_neg (show ¬ (7 : Int32) = 3 by decide), if_neg (show ¬ (7 : Int32) = 4 by decide), if_neg (show ¬ (7 : Int32) = 5 by decide), if_neg (show ¬ (7 : Int32) = 6 by decide)]
      rw [l, r]
      rw [e1, e2, hb]
    · have q4 : ¬ (km_grP g (nI n) ∧ ¬ w < 0 ∧ w ≤ 7) := by
        rintro ⟨-, z1, z2⟩
        have y1 : ¬ w.toInt < (0 : Int32).toInt := fun y => z1 (Int32.lt_iff_toInt_lt.mpr y)
        have y2 : w.toInt ≤ (7 : Int32).toInt := Int32.le_iff_toInt_le.mp z2
        have e0 : (0 : Int32).toInt = 0 := by decide
        have e7 : (7 : Int32).toInt = 7 := by decide
        have := hw.1
        omega
      unfold kr_where km_where
      rw [if_neg q3, if_pos q4, if_neg hw.2.1, if_neg hw.2.2.1, if_neg hw.2.2.2.1, if_neg hw.2.2.2.2.1, if_neg hw.2.2.2.2.2.1, if_neg hw.2.2.2.2.2.2.1, if_neg hw.2.2.2.2.2.2.2.1, if_neg hw.2.2.2.2.2.2.2.2]
  · have q4 : ¬ (km_grP g p ∧ ¬ w < 0 ∧ w ≤ 7) := fun z => q ((kz_gr hA p).mpr z.1)
    unfold kr_where km_where
    rw [if_pos q, if_pos q4]
theorem kz_where (h : kz_A f g) (p w : Int32) : kr_where f p w = km_where g p w := (kz_where1 h p w).trans (kz_where2 g p w)
theorem kz_gcN (hF : km_fault g = -2) : ∃ G : Nat, G ≤ 64 ∧ kv_gc g = lN G := by
  obtain ⟨h1, h2, -, -⟩ := km_fI hF
  obtain ⟨r1, -, r3, -⟩ := km_ctI h2
  obtain ⟨-, h32⟩ := km_szI h1
  have b4 := kz_32 g 4
  have b20 := kz_32 g 20
  have b32 := kz_32 g 32
  have h32' : 1 ≤ ky_le g 32 4 := (pk_lLE (a := 1) (by decide) (by omega)).mp h32
  have r1' : ¬ ky_le g 4 4 ≤ ky_le g 20 4 := fun z => r1 ((pk_lLE (by omega) (by omega)).mpr z)
  have e : kv_gc g = lN ((ky_le g 4 4 - ky_le g 20 4 + ky_le g 32 4 - 1) / ky_le g 32 4) := by
    unfold kv_gc
    rw [lN_sub (by omega), kz_qU (by omega) (by omega) (by omega)]
  have hd : (ky_le g 4 4 - ky_le g 20 4 + ky_le g 32 4 - 1) / ky_le g 32 4 ≤ ky_le g 4 4 - ky_le g 20 4 + ky_le g 32 4 - 1 := Nat.div_le_self _ _
  rw [e] at r3 ⊢
  exact ⟨_, (pk_lLE (b := 64) (by omega) (by decide)).mp r3, rfl⟩
theorem kz_files (hF : km_fault g = -2) : lN (ky_le g 0 4) = kv_gc g * lN (ky_le g 40 4) := by
  obtain ⟨-, h2, -, -⟩ := km_fI hF
  have hR := km_ctI h2
  by_cases q : lN (ky_le g 0 4) = kv_gc g * lN (ky_le g 40 4)
  · exact q
  · exfalso
    unfold km_ct at h2
    rw [if_neg (fun z => z hR), if_pos q] at h2
    exact absurd h2 (by decide)
theorem kz_recG (hF : km_fault g = -2) {n : Int32} (h1 : ¬ n < 1) (h2 : n.toInt64 ≤ lN (ky_le g 0 4)) : ∃ k, k < 64 ∧ (n.toInt64 - 1) / lN (ky_le g 40 4) = lN k ∧ km_grP g (nI k) := by
  have h0 : ¬ n < 0 := fun z => h1 (by
    have y := Int32.lt_iff_toInt_lt.mp z
    have e0 : (0 : Int32).toInt = 0 := by decide
    have e1 : (1 : Int32).toInt = 1 := by decide
    exact Int32.lt_iff_toInt_lt.mpr (by omega))
  obtain ⟨N, hN, rfl⟩ := nI_of h0
  have hN1 : ¬ N < 1 := fun z => h1 ((nI_ltI (b := 1) hN (by decide)).mpr z)
  obtain ⟨G, hG, eG⟩ := kz_gcN hF
  have b40 := kz_32 g 40
  have b0 := kz_32 g 0
  have hs := (km_fI hF).1
  have h40 : 0 < ky_le g 40 4 := by
    rcases Nat.eq_zero_or_pos (ky_le g 40 4) with z | z
    · exact absurd (by rw [z]; rfl) (km_sz40 hs)
    · exact z
  have hX : G * ky_le g 40 4 ≤ 64 * 2 ^ 32 := Nat.mul_le_mul hG (by omega)
  have hf := kz_files hF
  rw [eG, lN_mul] at hf
  have hf' : ky_le g 0 4 = G * ky_le g 40 4 := (pk_lEQ (by omega) (by omega)).mp hf
  rw [nI_l hN] at h2 ⊢
  have h2' : N ≤ ky_le g 0 4 := (pk_lLE (by omega) (by omega)).mp h2
  have e1 : lN N - 1 = lN (N - 1) := lN_sub (b := 1) (by omega)
  have hd : (N - 1) / ky_le g 40 4 < G := by
    rw [Nat.div_lt_iff_lt_mul h40]
    omega
  refine ⟨(N - 1) / ky_le g 40 4, by omega, by rw [e1, pk_lDiv (by omega) h40 (by omega)], hF, nI_pos (by omega), ?_⟩
  rw [nI_l (by omega), eG]
  intro z
  have := (lN_le (by omega) (by omega)).mp z
  omega
theorem kz_record1 (h : kz_A f g) (n pl : Int32) : kr_record f n pl = kr_record g n pl := by
  have e1 : kr_g f n = kr_g g n := by unfold kr_g; rw [h 40 4 (by decide)]
  have e2 : kr_by f n = kr_by g n := by unfold kr_by; rw [e1, h 40 4 (by decide), h 88 2 (by decide)]
  have e3 : kr_bl f n = kr_bl g n := by unfold kr_bl; rw [e2, kz_size h]
  unfold kr_record
  rw [kz_fault h, e1, e2, e3, kz_few h, kz_cb h, kz_size h, h 0 4 (by decide), h 20 4 (by decide), h 32 4 (by decide)]
theorem kz_record2 (g : Nat → Int32) (n pl : Int32) : kr_record g n pl = km_record g n pl := by
  unfold kr_record km_record
  rw [km_faultE g]
  refine kz_iE Iff.rfl (fun _ => rfl) (fun q => ?_)
  have hF : km_fault g = -2 := by
    by_cases z : km_fault g = -2
    · exact z
    · exact absurd (Or.inl z) q
  have h1 : ¬ n < 1 := fun z => q (Or.inr (Or.inl z))
  have h2 : n.toInt64 ≤ lN (ky_le g 0 4) := by
    by_cases z : n.toInt64 ≤ lN (ky_le g 0 4)
    · exact z
    · exact absurd (Or.inr (Or.inr z)) q
  obtain ⟨k, hk, ek, hG⟩ := kz_recG hF h1 h2
  have hs := (km_fI hF).1
  have hsz := km_size1 (km_szI hs).1
  have b40 := kz_32 g 40
  have h40 : 0 < ky_le g 40 4 := by
    rcases Nat.eq_zero_or_pos (ky_le g 40 4) with z | z
    · exact absurd (by rw [z]; rfl) (km_sz40 hs)
    · exact z
  have h41 : (1 : Int64) ≤ lN (ky_le g 40 4) := (pk_lLE (a := 1) (by decide) (by omega)).mpr h40
  have e1 : kr_g g n = (n.toInt64 - 1) / lN (ky_le g 40 4) := by unfold kr_g ky_q; rw [if_pos h41]
  have e2 : kr_by g n = km_at g n := by unfold kr_by km_at; rw [e1]
  have e3 : kr_bl g n = km_at g n / kv_size g := by unfold kr_bl ky_q; rw [if_pos hsz, e2]
  refine kz_iE Iff.rfl (fun _ => ?_) (fun _ => by rw [e2, e3])
  rw [e1, e3, ek]
  have ek2 : (lN k).toInt32 = nI k := lN_i k
  rw [ek2]
  have q4 : ¬ ¬ (km_grP g (nI k) ∧ ¬ (5 : Int32) < 0 ∧ (5 : Int32) ≤ 7) := fun z => z ⟨hG, by decide, by decide⟩
  have r : km_where g (nI k) 5 = (lN (ky_le g 20 4) + (nI k).toInt64 * lN (ky_le g 32 4) + km_hd g (nI k).toNatClampNeg + 2).toInt32 := by unfold km_where; rw [if_neg q4, if_neg (show ¬ (5 : Int32) = 0 by decide), if_neg (show ¬ (5 : Int32) = 1 by decide), if_neg (show ¬ (5 : Int32) = 2 by decide), if_neg (show ¬ (5 : Int32) = 3 by decide), if_neg (show ¬ (5 : Int32) = 4 by decide), if_pos rfl]
  rw [r, nI_l (by omega), nI_clamp (by omega), ← kz_hd g hk]
  rw [Int64.toInt32_add, Int64.toInt32_add _ (km_at g n / kv_size g), Int32.toInt32_toInt64]
  rw [Int64.add_assoc _ 1 1]
  rfl
theorem kz_record (h : kz_A f g) (n pl : Int32) : kr_record f n pl = km_record g n pl := (kz_record1 h n pl).trans (kz_record2 g n pl)
end TIE2
