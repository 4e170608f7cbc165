set_option maxRecDepth 100000 in
set_option maxHeartbeats 4000000 in
theorem c_FR_rowOf_0 (l : Launch) (D : va_G) (cB cI : ClassId) (hz : Nat) (x : Nat) (r0 : Nat) (r1 : Nat) (tr : Nat) (vo : Nat) : kf_Ct l y_FR_rowOf w_FR_rowOf 0 0 0 0 D (kT cB cI) [.ref x, .int 0] [(x, .inr (2, [.ref r0, .ref r1, .ref tr, .ref vo]))] hz (some (.ref r0)) (kf_po D [(x, .inr (2, [.ref r0, .ref r1, .ref tr, .ref vo]))]) := by
  refine kf_of (cc := b_FR_rowOf) (maxL := 2) (ret := (some (.object "FieldRows$Row"))) (by decide) rfl (Nat.le_of_ble_eq_true rfl) ?_
  intro p e s m below meth c A H locs hx hb hr hml hown hts hlocks hin hP hD hS hA hE ls hl
  have hl : lv_has ls 2 [(0, .ref x), (1, .int 0)] := hl
  refine lv_iload_n hx hb d_FR_rowOf_0 rfl (lv_at hl 1 rfl) ?_
  refine lv_if_ne (tgt := 9) hx hb d_FR_rowOf_1 (by decide) (fun c1 => absurd rfl c1) (fun c1 => ?_)
  refine lv_aload_n hx hb d_FR_rowOf_4 rfl (lv_at hl 0 rfl) ?_
  refine va_get (D := D) (ci := 2) (v := .ref r0) (C := "FieldRows") (T := F_FR) (N := 4) hx hb hts ku_FR hown hE.1 hP 0 rfl rfl 0 (by decide) (hts _ q1_208) (fun _ h9 => h9) rfl d_FR_rowOf_5 ?_
  exact kf_ar hx hb hr hlocks (Or.inl ⟨_, rfl⟩) (Or.inr ⟨_, rfl⟩) hP hD hS d_FR_rowOf_8

set_option maxRecDepth 100000 in
set_option maxHeartbeats 4000000 in
theorem c_FR_rowOf_1 (l : Launch) (D : va_G) (cB cI : ClassId) (hz : Nat) (x : Nat) (r0 : Nat) (r1 : Nat) (tr : Nat) (vo : Nat) : kf_Ct l y_FR_rowOf w_FR_rowOf 0 0 0 0 D (kT cB cI) [.ref x, .int 1] [(x, .inr (2, [.ref r0, .ref r1, .ref tr, .ref vo]))] hz (some (.ref r1)) (kf_po D [(x, .inr (2, [.ref r0, .ref r1, .ref tr, .ref vo]))]) := by
  refine kf_of (cc := b_FR_rowOf) (maxL := 2) (ret := (some (.object "FieldRows$Row"))) (by decide) rfl (Nat.le_of_ble_eq_true rfl) ?_
  intro p e s m below meth c A H locs hx hb hr hml hown hts hlocks hin hP hD hS hA hE ls hl
  have hl : lv_has ls 2 [(0, .ref x), (1, .int 1)] := hl
  refine lv_iload_n hx hb d_FR_rowOf_0 rfl (lv_at hl 1 rfl) ?_
  refine lv_if_ne (tgt := 9) hx hb d_FR_rowOf_1 (by decide) (fun c1 => ?_) (fun c1 => absurd c1 (by decide))
  refine lv_iload_n hx hb d_FR_rowOf_9 rfl (lv_at hl 1 rfl) ?_
  refine lv_iconst (v := 1) hx hb d_FR_rowOf_10 (by decide) ?_
  refine lv_icmp_ne (tgt := 21) hx hb d_FR_rowOf_11 (by decide) (fun c11 => absurd rfl c11) (fun c11 => ?_)
  refine lv_aload_n hx hb d_FR_rowOf_14 rfl (lv_at hl 0 rfl) ?_
  refine va_get (D := D) (ci := 2) (v := .ref r1) (C := "FieldRows") (T := F_FR) (N := 4) hx hb hts ku_FR hown hE.1 hP 0 rfl rfl 1 (by decide) (hts _ q1_209) (fun _ h9 => h9) rfl d_FR_rowOf_15 ?_
  refine lv_goto (tgt := 22) hx hb d_FR_rowOf_18 (by decide) ?_
  exact kf_ar hx hb hr hlocks (Or.inl ⟨_, rfl⟩) (Or.inr ⟨_, rfl⟩) hP hD hS d_FR_rowOf_22

set_option maxRecDepth 100000 in
set_option maxHeartbeats 4000000 in
theorem c_FR_rowOf_n (l : Launch) (D : va_G) (cB cI : ClassId) (hz : Nat) (x : Nat) (r0 : Nat) (r1 : Nat) (tr : Nat) (vo : Nat) (p1 : Int32) (hn0 : ¬ p1 = 0) (hn1 : ¬ p1 = 1) : kf_Ct l y_FR_rowOf w_FR_rowOf 0 0 0 0 D (kT cB cI) [.ref x, .int p1] [(x, .inr (2, [.ref r0, .ref r1, .ref tr, .ref vo]))] hz (some (.null)) (kf_po D [(x, .inr (2, [.ref r0, .ref r1, .ref tr, .ref vo]))]) := by
  refine kf_of (cc := b_FR_rowOf) (maxL := 2) (ret := (some (.object "FieldRows$Row"))) (by decide) rfl (Nat.le_of_ble_eq_true rfl) ?_
  intro p e s m below meth c A H locs hx hb hr hml hown hts hlocks hin hP hD hS hA hE ls hl
  have hl : lv_has ls 2 [(0, .ref x), (1, .int p1)] := hl
  refine lv_iload_n hx hb d_FR_rowOf_0 rfl (lv_at hl 1 rfl) ?_
  refine lv_if_ne (tgt := 9) hx hb d_FR_rowOf_1 (by decide) (fun c1 => ?_) (fun c1 => absurd c1 hn0)
  refine lv_iload_n hx hb d_FR_rowOf_9 rfl (lv_at hl 1 rfl) ?_
  refine lv_iconst (v := 1) hx hb d_FR_rowOf_10 (by decide) ?_
  refine lv_icmp_ne (tgt := 21) hx hb d_FR_rowOf_11 (by decide) (fun c11 => ?_) (fun c11 => absurd c11 hn1)
  refine lv_null hx hb d_FR_rowOf_21 ?_
  exact kf_ar hx hb hr hlocks (Or.inl ⟨_, rfl⟩) (Or.inl rfl) hP hD hS d_FR_rowOf_22

set_option maxRecDepth 100000 in
set_option maxHeartbeats 4000000 in
theorem c_FR_isFollowed (l : Launch) (D : va_G) (cB cI : ClassId) (hz : Nat) (p0 : Int32) : kf_Ct l y_FR_isFollowed w_FR_isFollowed 0 0 0 0 D (kT cB cI) [.int p0] [] hz (some (.int (kP (kr_foP p0)))) (kf_po D []) := by
  refine kf_of (cc := b_FR_isFollowed) (maxL := 2) (ret := (some .boolean)) (by decide) rfl (Nat.le_of_ble_eq_true rfl) ?_
  intro p e s m below meth c A H locs hx hb hr hml hown hts hlocks hin hP hD hS hA hE ls hl
  have hl : lv_has ls 2 [(0, .int p0)] := hl
  refine lv_iconst (v := 0) hx hb d_FR_isFollowed_0 (by decide) ?_
  refine kf_ti (y := nI (2 * 0)) (rfl) ?_
  refine lv_istore_n (lv' := [(1, .int (nI (2 * 0))), (0, .int p0)]) hx hb d_FR_isFollowed_1 rfl hl (by decide) rfl (fun ls hl => ?_)
  refine kf_loop (σ := Nat) (fun k ls H locs => (k ≤ 5) ∧ (∀ j, j < k → ¬ (¬ p0 < ky_not (2 * j) ∧ ¬ ky_not (2 * j + 1) < p0)) ∧ lv_has ls 2 [(1, .int (nI (2 * k))), (0, .int p0)] ∧ va_P D vwCl [] H ∧ va_D A [] ∧ va_S A s.heap H locs) (fun k => 5 - k) 0 ⟨Nat.zero_le _, fun j hj => absurd hj (Nat.not_lt_zero j), lv_sub hl [0, 1] rfl, hP, hD, hS⟩ (fun k ls H locs hI ih => ?_)
  obtain ⟨hk, hno, hl, hP, hD, hS⟩ := hI
  rcases Nat.lt_or_ge k 5 with hkn | hkn
  · refine lv_iload_n hx hb d_FR_isFollowed_2 rfl (lv_at hl 0 rfl) ?_
    refine lv_iconst (v := 1) hx hb d_FR_isFollowed_3 (by decide) ?_
    refine lv_iadd hx hb d_FR_isFollowed_4 ?_
    refine kf_ti (y := nI (2 * k + 1)) (nI_1 _) ?_
    obtain ⟨tN, htNZ, htNT⟩ := hE.2.2 kf_zN (by simp [kf_zs])
    refine va_gets hx hb htNZ hS hown (hts _ q2_21) (fun _ h9 => h9) d_FR_isFollowed_5 ?_
    refine va_tlen hx hb htNT hS (v := 10) (by decide) d_FR_isFollowed_8 ?_
    refine lv_icmp_ge (tgt := 40) hx hb d_FR_isFollowed_9 (by decide) (fun c9 => absurd c9 (nI_ge (a := 2 * k + 1) (b := 10) (by omega) (by decide))) (fun c9 => ?_)
    refine lv_iload_n hx hb d_FR_isFollowed_12 rfl (lv_at hl 1 rfl) ?_
    obtain ⟨tN, htNZ, htNT⟩ := hE.2.2 kf_zN (by simp [kf_zs])
    refine va_gets hx hb htNZ hS hown (hts _ q2_21) (fun _ h9 => h9) d_FR_isFollowed_13 ?_
    refine lv_iload_n hx hb d_FR_isFollowed_16 rfl (lv_at hl 0 rfl) ?_
    refine va_ti hx hb htNT hS (vp_in_nI (n := 2 * k) (N := 10) (by omega) (by decide)) (v := .int (ky_not (2 * k))) (by show Value.int (ky_not (nI (2 * k)).toNatClampNeg) = _; rw [nI_clamp (by omega)]) d_FR_isFollowed_17 ?_
    refine lv_icmp_lt (tgt := 34) hx hb d_FR_isFollowed_18 (by decide) (fun c18 => ?_) (fun c18 => ?_)
    · refine lv_iinc (v := nI (2 * (k + 1))) (lv' := [(1, .int (nI (2 * (k + 1)))), (0, .int p0)]) hx hb d_FR_isFollowed_34 hl (k := 0) rfl (by rw [show 2 * (k + 1) = 2 * k + 2 by omega, ← nI_add]; rfl) (by decide) rfl (fun ls hl => ?_)
      refine lv_goto (tgt := 2) hx hb d_FR_isFollowed_37 (by decide) ?_
      exact ih (k + 1) _ _ _ (by omega) ⟨by omega, fun j hj => by rcases (show j < k ∨ j = k by omega) with q | rfl; exact hno j q; exact (fun q => q.1 c18), lv_sub hl [0, 1] rfl, hP, hD, hS⟩
    · refine lv_iload_n hx hb d_FR_isFollowed_21 rfl (lv_at hl 1 rfl) ?_
      obtain ⟨tN, htNZ, htNT⟩ := hE.2.2 kf_zN (by simp [kf_zs])
      refine va_gets hx hb htNZ hS hown (hts _ q2_21) (fun _ h9 => h9) d_FR_isFollowed_22 ?_
      refine lv_iload_n hx hb d_FR_isFollowed_25 rfl (lv_at hl 0 rfl) ?_
      refine lv_iconst (v := 1) hx hb d_FR_isFollowed_26 (by decide) ?_
      refine lv_iadd hx hb d_FR_isFollowed_27 ?_
      refine kf_ti (y := nI (2 * k + 1)) (nI_1 _) ?_
      refine va_ti hx hb htNT hS (vp_in_nI (n := 2 * k + 1) (N := 10) (by omega) (by decide)) (v := .int (ky_not (2 * k + 1))) (by show Value.int (ky_not (nI (2 * k + 1)).toNatClampNeg) = _; rw [nI_clamp (by omega)]) d_FR_isFollowed_28 ?_
      refine lv_icmp_gt (tgt := 34) hx hb d_FR_isFollowed_29 (by decide) (fun c29 => ?_) (fun c29 => ?_)
      · refine lv_iinc (v := nI (2 * (k + 1))) (lv' := [(1, .int (nI (2 * (k + 1)))), (0, .int p0)]) hx hb d_FR_isFollowed_34 hl (k := 0) rfl (by rw [show 2 * (k + 1) = 2 * k + 2 by omega, ← nI_add]; rfl) (by decide) rfl (fun ls hl => ?_)
        refine lv_goto (tgt := 2) hx hb d_FR_isFollowed_37 (by decide) ?_
        exact ih (k + 1) _ _ _ (by omega) ⟨by omega, fun j hj => by rcases (show j < k ∨ j = k by omega) with q | rfl; exact hno j q; exact (fun q => q.2 c29), lv_sub hl [0, 1] rfl, hP, hD, hS⟩
      · refine lv_iconst (v := 0) hx hb d_FR_isFollowed_32 (by decide) ?_
        exact kf_zr hx hb hr hlocks hP hD hS (kP_f (fun q => q k hkn ⟨c18, c29⟩)) (kP_nar) d_FR_isFollowed_33
  · refine lv_iload_n hx hb d_FR_isFollowed_2 rfl (lv_at hl 0 rfl) ?_
    refine lv_iconst (v := 1) hx hb d_FR_isFollowed_3 (by decide) ?_
    refine lv_iadd hx hb d_FR_isFollowed_4 ?_
    refine kf_ti (y := nI (2 * k + 1)) (nI_1 _) ?_
    obtain ⟨tN, htNZ, htNT⟩ := hE.2.2 kf_zN (by simp [kf_zs])
    refine va_gets hx hb htNZ hS hown (hts _ q2_21) (fun _ h9 => h9) d_FR_isFollowed_5 ?_
    refine va_tlen hx hb htNT hS (v := 10) (by decide) d_FR_isFollowed_8 ?_
    refine lv_icmp_ge (tgt := 40) hx hb d_FR_isFollowed_9 (by decide) (fun c9 => ?_) (fun c9 => absurd (nI_le (a := 10) (b := 2 * k + 1) (by omega) (by omega)) c9)
    refine lv_iconst (v := 1) hx hb d_FR_isFollowed_40 (by decide) ?_
    exact kf_zr hx hb hr hlocks hP hD hS (kP_t (fun j hj => hno j (by omega))) (kP_nar) d_FR_isFollowed_41

set_option maxRecDepth 100000 in
set_option maxHeartbeats 4000000 in
theorem c_FR_isGroupOfRightRow (l : Launch) (D : va_G) (cB cI : ClassId) (hz : Nat) (x : Nat) (r0 : Nat) (b0 : Nat) (r1 : Nat) (b1 : Nat) (tr : Nat) (bt : Nat) (vo : Nat) (f0 : Nat → Int32) (f1 : Nat → Int32) (u : (Nat → Int32) × (Nat → Int64) × Int32) (p1 : Int32) : kf_Ct l y_FR_isGroupOfRightRow w_FR_isGroupOfRightRow 5 110 0 0 D (kT cB cI) [.ref x, .int p1] [(x, .inr (2, [.ref r0, .ref r1, .ref tr, .ref vo])), (r0, .inr (0, [.ref b0])), (b0, .inl (cB, 1024, .inl f0)), (r1, .inr (0, [.ref b1])), (b1, .inl (cB, 1024, .inl f1)), (tr, .inr (0, [.ref bt])), (bt, .inl (cB, 1024, .inl u.1)), (vo, .inr (1, [.long (u.2.1 0), .long (u.2.1 1), .long (u.2.1 2), .long (u.2.1 3), .long (u.2.1 4), .long (u.2.1 5), .long (u.2.1 6), .long (u.2.1 7), .int u.2.2, .long (u.2.1 9), .long (u.2.1 10), .long (u.2.1 11)]))] hz (some (.int (kP (kr_grP f0 p1)))) (kf_po D [(x, .inr (2, [.ref r0, .ref r1, .ref tr, .ref vo])), (r0, .inr (0, [.ref b0])), (b0, .inl (cB, 1024, .inl f0)), (r1, .inr (0, [.ref b1])), (b1, .inl (cB, 1024, .inl f1)), (tr, .inr (0, [.ref bt])), (bt, .inl (cB, 1024, .inl u.1)), (vo, .inr (1, [.long (lN (ky_le f0 0 4)), .long (lN (ky_le f0 4 4)), .long (lN (ky_le f0 20 4)), .long (lN (ky_le f0 24 4)), .long (kv_size f0), .long (lN (ky_le f0 32 4)), .long (lN (ky_le f0 40 4)), .long (lN (ky_le f0 88 2)), .int (kv_few f0), .long (kv_gc f0), .long (kv_cb f0), .long (kv_rk f0)]))]) := by
  refine kf_of (cc := b_FR_isGroupOfRightRow) (maxL := 2) (ret := (some .boolean)) (by decide) rfl (Nat.le_of_ble_eq_true rfl) ?_
  intro p e s m below meth c A H locs hx hb hr hml hown hts hlocks hin hP hD hS hA hE ls hl
  have hl : lv_has ls 2 [(0, .ref x), (1, .int p1)] := hl
  refine lv_aload_n hx hb d_FR_isGroupOfRightRow_0 rfl (lv_at hl 0 rfl) ?_
  refine va_get (D := D) (ci := 2) (v := .ref vo) (C := "FieldRows") (T := F_FR) (N := 4) hx hb hts ku_FR hown hE.1 hP 0 rfl rfl 3 (by decide) (hts _ q1_211) (fun _ h9 => h9) rfl d_FR_isGroupOfRightRow_1 ?_
  refine lv_aload_n hx hb d_FR_isGroupOfRightRow_4 rfl (lv_at hl 0 rfl) ?_
  refine va_get (D := D) (ci := 2) (v := .ref r0) (C := "FieldRows") (T := F_FR) (N := 4) hx hb hts ku_FR hown hE.1 hP 0 rfl rfl 0 (by decide) (hts _ q1_208) (fun _ h9 => h9) rfl d_FR_isGroupOfRightRow_5 ?_
  refine kf_kc (wr := [(x, .inr (2, [.ref r0, .ref r1, .ref tr, .ref vo])), (r1, .inr (0, [.ref b1])), (b1, .inl (cB, 1024, .inl f1)), (tr, .inr (0, [.ref bt])), (bt, .inl (cB, 1024, .inl u.1))]) (w1 := [(vo, .inr (1, [.long (lN (ky_le f0 0 4)), .long (lN (ky_le f0 4 4)), .long (lN (ky_le f0 20 4)), .long (lN (ky_le f0 24 4)), .long (kv_size f0), .long (lN (ky_le f0 32 4)), .long (lN (ky_le f0 40 4)), .long (lN (ky_le f0 88 2)), .int (kv_few f0), .long (kv_gc f0), .long (kv_cb f0), .long (kv_rk f0)])), (r0, .inr (0, [.ref b0])), (b0, .inl (cB, 1024, .inl f0))]) (ws2 := [(x, .inr (2, [.ref r0, .ref r1, .ref tr, .ref vo])), (r0, .inr (0, [.ref b0])), (b0, .inl (cB, 1024, .inl f0)), (r1, .inr (0, [.ref b1])), (b1, .inl (cB, 1024, .inl f1)), (tr, .inr (0, [.ref bt])), (bt, .inl (cB, 1024, .inl u.1)), (vo, .inr (1, [.long (lN (ky_le f0 0 4)), .long (lN (ky_le f0 4 4)), .long (lN (ky_le f0 20 4)), .long (lN (ky_le f0 24 4)), .long (kv_size f0), .long (lN (ky_le f0 32 4)), .long (lN (ky_le f0 40 4)), .long (lN (ky_le f0 88 2)), .int (kv_few f0), .long (kv_gc f0), .long (kv_cb f0), .long (kv_rk f0)]))]) hP hD hS hA [7, 1, 2] [0, 3, 4, 5, 6] [0, 6, 7, 1, 2, 3, 4, 5] rfl rfl rfl (by decide) rfl rfl (va_runV (As := [.ref r0]) (rest := []) ⟨hx, hb, hml, hown, hts⟩ (c_Vol_firstFaultOf l D cB cI _ vo (u.2.1 0) (u.2.1 1) (u.2.1 2) (u.2.1 3) (u.2.1 4) (u.2.1 5) (u.2.1 6) (u.2.1 7) u.2.2 (u.2.1 9) (u.2.1 10) (u.2.1 11) r0 b0 f0) ⟨callB_of 1 hts g_Vol_firstFaultOf rfl rfl rfl (hts _ q1_3) (hts _ q1_122) h_Vol_firstFaultOf ⟨Nat.le_of_ble_eq_true rfl, Nat.le_of_ble_eq_true rfl⟩, (hts _ q1_123), (hts _ q1_124)⟩ ⟨kf_bl, va_recv hE.1 hP (ci := 1) (q0 := 7) rfl rfl, kf_to hP hD hS hA hE [7, 1, 2] rfl rfl⟩ rfl rfl hl.1 rfl (lv_room (Nat.le_of_ble_eq_true rfl)) d_FR_isGroupOfRightRow_8 ⟨Nat.zero_le _, Nat.zero_le _⟩) (fun H locs hP hD hS => ?_)
  refine W.eq (g2 := F0 m 11 ls [.int (kv_fault f0)]) rfl ?_
  refine lv_bipush (v := -2) hx hb d_FR_isGroupOfRightRow_11 (by decide) ?_
  refine lv_icmp_ne (tgt := 37) hx hb d_FR_isGroupOfRightRow_13 (by decide) (fun c13 => ?_) (fun c13 => ?_)
  · refine lv_iconst (v := 0) hx hb d_FR_isGroupOfRightRow_37 (by decide) ?_
    exact kf_zr hx hb hr hlocks hP hD hS (kP_f (by clear hP hD hS hA hE hts hl; grind)) (kP_nar) d_FR_isGroupOfRightRow_38
  · refine lv_iload_n hx hb d_FR_isGroupOfRightRow_16 rfl (lv_at hl 1 rfl) ?_
    refine lv_if_lt (tgt := 37) hx hb d_FR_isGroupOfRightRow_17 (by decide) (fun c17 => ?_) (fun c17 => ?_)
    · refine lv_iconst (v := 0) hx hb d_FR_isGroupOfRightRow_37 (by decide) ?_
      exact kf_zr hx hb hr hlocks hP hD hS (kP_f (by clear hP hD hS hA hE hts hl; grind)) (kP_nar) d_FR_isGroupOfRightRow_38
    · refine lv_iload_n hx hb d_FR_isGroupOfRightRow_20 rfl (lv_at hl 1 rfl) ?_
      refine lv_i2l hx hb d_FR_isGroupOfRightRow_21 rfl ?_
      refine lv_aload_n hx hb d_FR_isGroupOfRightRow_22 rfl (lv_at hl 0 rfl) ?_
      refine va_get (D := D) (ci := 2) (v := .ref vo) (C := "FieldRows") (T := F_FR) (N := 4) hx hb hts ku_FR hown hE.1 hP 0 rfl rfl 3 (by decide) (hts _ q1_211) (fun _ h9 => h9) rfl d_FR_isGroupOfRightRow_23 ?_
      refine va_getN (D := D) (ci := 1) (v := .long (kv_gc f0)) (C := "FieldRows$Volume") (T := F_Vol) (N := 12) hx hb hts ku_Vol hown hE.1 hP 7 rfl rfl 9 (by decide) (va_Nw.use rfl (hE.2.1 _ q1_45)) (fun _ h9 => h9) rfl d_FR_isGroupOfRightRow_26 ?_
      refine kf_lc_ge (tgt := 37) hx hb d_FR_isGroupOfRightRow_29 d_FR_isGroupOfRightRow_30 (by decide) (fun c29 => ?_) (fun c29 => ?_)
      · refine lv_iconst (v := 0) hx hb d_FR_isGroupOfRightRow_37 (by decide) ?_
        exact kf_zr hx hb hr hlocks hP hD hS (kP_f (by clear hP hD hS hA hE hts hl; grind)) (kP_nar) d_FR_isGroupOfRightRow_38
      · refine lv_iconst (v := 1) hx hb d_FR_isGroupOfRightRow_33 (by decide) ?_
        refine lv_goto (tgt := 38) hx hb d_FR_isGroupOfRightRow_34 (by decide) ?_
        exact kf_zr hx hb hr hlocks hP hD hS (kP_t (by clear hP hD hS hA hE hts hl; grind)) (kP_nar) d_FR_isGroupOfRightRow_38

set_option maxRecDepth 100000 in
set_option maxHeartbeats 4000000 in
theorem c_FR_get (l : Launch) (D : va_G) (cB cI : ClassId) (hz : Nat) (x : Nat) (r0 : Nat) (b0 : Nat) (r1 : Nat) (b1 : Nat) (tr : Nat) (bt : Nat) (vo : Nat) (f0 : Nat → Int32) (f1 : Nat → Int32) (u : (Nat → Int32) × (Nat → Int64) × Int32) (p1 : Int32) (p2 : Int32) (p3 : Int32) : kf_Ct l y_FR_get w_FR_get 2 46 0 0 D (kT cB cI) [.ref x, .int p1, .int p2, .int p3] [(x, .inr (2, [.ref r0, .ref r1, .ref tr, .ref vo])), (r0, .inr (0, [.ref b0])), (b0, .inl (cB, 1024, .inl f0)), (r1, .inr (0, [.ref b1])), (b1, .inl (cB, 1024, .inl f1)), (tr, .inr (0, [.ref bt])), (bt, .inl (cB, 1024, .inl u.1)), (vo, .inr (1, [.long (u.2.1 0), .long (u.2.1 1), .long (u.2.1 2), .long (u.2.1 3), .long (u.2.1 4), .long (u.2.1 5), .long (u.2.1 6), .long (u.2.1 7), .int u.2.2, .long (u.2.1 9), .long (u.2.1 10), .long (u.2.1 11)]))] hz (some (.long (if p1 = 0 then ky_fl f0 p2 p3 else if p1 = 1 then ky_fl f1 p2 p3 else -1))) (kx_FR D cB x r0 b0 r1 b1 tr bt vo f0 f1) := by
  refine kf_of (cc := b_FR_get) (maxL := 5) (ret := (some .long)) (by decide) rfl (Nat.le_of_ble_eq_true rfl) ?_
  intro p e s m below meth c A H locs hx hb hr hml hown hts hlocks hin hP hD hS hA hE ls hl
  have hl : lv_has ls 5 [(0, .ref x), (1, .int p1), (2, .int p2), (3, .int p3)] := hl
  rcases ky_row p1 with rfl | rfl | ⟨hn0, hn1⟩
  · refine lv_aload_n hx hb d_FR_get_0 rfl (lv_at hl 0 rfl) ?_
    refine lv_iload_n hx hb d_FR_get_1 rfl (lv_at hl 1 rfl) ?_
    refine kf_ro hP hD hS hA [0] rfl (va_runV (As := [.int 0]) (rest := []) ⟨hx, hb, hml, hown, hts⟩ (c_FR_rowOf_0 l D cB cI _ x r0 r1 tr vo) ⟨callB_of 1 hts g_FR_rowOf rfl rfl rfl (hts _ q1_1) (hts _ q1_226) h_FR_rowOf ⟨Nat.le_of_ble_eq_true rfl, Nat.le_of_ble_eq_true rfl⟩, (hts _ q1_228), (hts _ q0_6)⟩ ⟨kf_bl, va_recv hE.1 hP (ci := 2) (q0 := 0) rfl rfl, kf_to hP hD hS hA hE [0] rfl rfl⟩ rfl rfl hl.1 rfl (lv_room (Nat.le_of_ble_eq_true rfl)) d_FR_get_2 ⟨Nat.zero_le _, Nat.zero_le _⟩) (fun H locs hP hS => ?_)
    refine W.eq (g2 := F0 m 5 ls [.ref r0]) rfl ?_
    refine lv_astore (lv' := [(4, .ref r0), (0, .ref x), (1, .int 0), (2, .int p2), (3, .int p3)]) hx hb d_FR_get_5 hl (by decide) rfl (fun ls hl => ?_)
    refine lv_aload hx hb d_FR_get_7 (lv_at hl 0 rfl) ?_
    refine lv_ifnonnull (tgt := 18) hx hb d_FR_get_9 (by decide) ?_
    refine lv_aload hx hb d_FR_get_18 (lv_at hl 0 rfl) ?_
    refine lv_iload_n hx hb d_FR_get_20 rfl (lv_at hl 3 rfl) ?_
    refine lv_iload_n hx hb d_FR_get_21 rfl (lv_at hl 4 rfl) ?_
    refine kf_ro hP hD hS hA [1, 2] rfl (va_runV (As := [.int p2, .int p3]) (rest := []) ⟨hx, hb, hml, hown, hts⟩ (c_Row_field l D cB cI _ r0 b0 f0 p2 p3) ⟨callB_of 2 hts g_Row_field rfl rfl rfl (hts _ q1_2) (hts _ q1_231) h_Row_field ⟨Nat.le_of_ble_eq_true rfl, Nat.le_of_ble_eq_true rfl⟩, (hts _ q1_110), (hts _ q1_111)⟩ ⟨kf_bl, va_recv hE.1 hP (ci := 0) (q0 := 1) rfl rfl, kf_to hP hD hS hA hE [1, 2] rfl rfl⟩ rfl rfl hl.1 rfl (lv_room (Nat.le_of_ble_eq_true rfl)) d_FR_get_22 ⟨Nat.zero_le _, Nat.zero_le _⟩) (fun H locs hP hS => ?_)
    refine W.eq (g2 := F0 m 25 ls [.long (ky_fl f0 p2 p3)]) rfl ?_
    exact kf_lrB hx hb hr hlocks (kx_at hP hD) hS (by rw [if_pos rfl]) d_FR_get_25
  · refine lv_aload_n hx hb d_FR_get_0 rfl (lv_at hl 0 rfl) ?_
    refine lv_iload_n hx hb d_FR_get_1 rfl (lv_at hl 1 rfl) ?_
    refine kf_ro hP hD hS hA [0] rfl (va_runV (As := [.int 1]) (rest := []) ⟨hx, hb, hml, hown, hts⟩ (c_FR_rowOf_1 l D cB cI _ x r0 r1 tr vo) ⟨callB_of 1 hts g_FR_rowOf rfl rfl rfl (hts _ q1_1) (hts _ q1_226) h_FR_rowOf ⟨Nat.le_of_ble_eq_true rfl, Nat.le_of_ble_eq_true rfl⟩, (hts _ q1_228), (hts _ q0_6)⟩ ⟨kf_bl, va_recv hE.1 hP (ci := 2) (q0 := 0) rfl rfl, kf_to hP hD hS hA hE [0] rfl rfl⟩ rfl rfl hl.1 rfl (lv_room (Nat.le_of_ble_eq_true rfl)) d_FR_get_2 ⟨Nat.zero_le _, Nat.zero_le _⟩) (fun H locs hP hS => ?_)
    refine W.eq (g2 := F0 m 5 ls [.ref r1]) rfl ?_
    refine lv_astore (lv' := [(4, .ref r1), (0, .ref x), (1, .int 1), (2, .int p2), (3, .int p3)]) hx hb d_FR_get_5 hl (by decide) rfl (fun ls hl => ?_)
    refine lv_aload hx hb d_FR_get_7 (lv_at hl 0 rfl) ?_
    refine lv_ifnonnull (tgt := 18) hx hb d_FR_get_9 (by decide) ?_
    refine lv_aload hx hb d_FR_get_18 (lv_at hl 0 rfl) ?_
    refine lv_iload_n hx hb d_FR_get_20 rfl (lv_at hl 3 rfl) ?_
    refine lv_iload_n hx hb d_FR_get_21 rfl (lv_at hl 4 rfl) ?_
    refine kf_ro hP hD hS hA [3, 4] rfl (va_runV (As := [.int p2, .int p3]) (rest := []) ⟨hx, hb, hml, hown, hts⟩ (c_Row_field l D cB cI _ r1 b1 f1 p2 p3) ⟨callB_of 2 hts g_Row_field rfl rfl rfl (hts _ q1_2) (hts _ q1_231) h_Row_field ⟨Nat.le_of_ble_eq_true rfl, Nat.le_of_ble_eq_true rfl⟩, (hts _ q1_110), (hts _ q1_111)⟩ ⟨kf_bl, va_recv hE.1 hP (ci := 0) (q0 := 3) rfl rfl, kf_to hP hD hS hA hE [3, 4] rfl rfl⟩ rfl rfl hl.1 rfl (lv_room (Nat.le_of_ble_eq_true rfl)) d_FR_get_22 ⟨Nat.zero_le _, Nat.zero_le _⟩) (fun H locs hP hS => ?_)
    refine W.eq (g2 := F0 m 25 ls [.long (ky_fl f1 p2 p3)]) rfl ?_
    exact kf_lrB hx hb hr hlocks (kx_at hP hD) hS (by rw [if_neg (by decide), if_pos rfl]) d_FR_get_25
  · refine lv_aload_n hx hb d_FR_get_0 rfl (lv_at hl 0 rfl) ?_
    refine lv_iload_n hx hb d_FR_get_1 rfl (lv_at hl 1 rfl) ?_
    refine kf_ro hP hD hS hA [0] rfl (va_runV (As := [.int p1]) (rest := []) ⟨hx, hb, hml, hown, hts⟩ (c_FR_rowOf_n l D cB cI _ x r0 r1 tr vo p1 hn0 hn1) ⟨callB_of 1 hts g_FR_rowOf rfl rfl rfl (hts _ q1_1) (hts _ q1_226) h_FR_rowOf ⟨Nat.le_of_ble_eq_true rfl, Nat.le_of_ble_eq_true rfl⟩, (hts _ q1_228), (hts _ q0_6)⟩ ⟨kf_bl, va_recv hE.1 hP (ci := 2) (q0 := 0) rfl rfl, kf_to hP hD hS hA hE [0] rfl rfl⟩ rfl rfl hl.1 rfl (lv_room (Nat.le_of_ble_eq_true rfl)) d_FR_get_2 ⟨Nat.zero_le _, Nat.zero_le _⟩) (fun H locs hP hS => ?_)
    refine W.eq (g2 := F0 m 5 ls [.null]) rfl ?_
    refine lv_astoreN (lv' := [(4, .null), (0, .ref x), (1, .int p1), (2, .int p2), (3, .int p3)]) hx hb d_FR_get_5 hl (by decide) rfl (fun ls hl => ?_)
    refine lv_aloadN hx hb d_FR_get_7 (lv_at hl 0 rfl) ?_
    refine lv_ifnonnullN hx hb d_FR_get_9 ?_
    refine lv_ldc2 (v := -1) hx hb hown (hts _ q2_0) d_FR_get_12 ?_
    refine lv_goto (tgt := 25) hx hb d_FR_get_15 (by decide) ?_
    exact kf_lrB hx hb hr hlocks (kx_at hP hD) hS (by rw [if_neg hn0, if_neg hn1]) d_FR_get_25

theorem ky_ww_no (f : Nat → Int32) (a n : Int32) (v : Int64) (h : ¬ ky_isFP a n) : ky_ww f a n v = f := if_neg h
set_option maxRecDepth 100000 in
set_option maxHeartbeats 4000000 in
theorem c_FR_put (l : Launch) (D : va_G) (cB cI : ClassId) (hz : Nat) (x : Nat) (r0 : Nat) (b0 : Nat) (r1 : Nat) (b1 : Nat) (tr : Nat) (bt : Nat) (vo : Nat) (f0 : Nat → Int32) (f1 : Nat → Int32) (u : (Nat → Int32) × (Nat → Int64) × Int32) (p1 : Int32) (p2 : Int32) (p3 : Int32) (p4 : Int32) : kf_Ct l y_FR_put w_FR_put 2 46 0 0 D (kT cB cI) [.ref x, .int p1, .int p2, .int p3, .int p4] [(x, .inr (2, [.ref r0, .ref r1, .ref tr, .ref vo])), (r0, .inr (0, [.ref b0])), (b0, .inl (cB, 1024, .inl f0)), (r1, .inr (0, [.ref b1])), (b1, .inl (cB, 1024, .inl f1)), (tr, .inr (0, [.ref bt])), (bt, .inl (cB, 1024, .inl u.1)), (vo, .inr (1, [.long (u.2.1 0), .long (u.2.1 1), .long (u.2.1 2), .long (u.2.1 3), .long (u.2.1 4), .long (u.2.1 5), .long (u.2.1 6), .long (u.2.1 7), .int u.2.2, .long (u.2.1 9), .long (u.2.1 10), .long (u.2.1 11)]))] hz (some (.int (if (p1 = 0 ∨ p1 = 1) ∧ ky_isFP p2 p3 then 0 else -1))) (kx_FR D cB x r0 b0 r1 b1 tr bt vo (if p1 = 0 then ky_ww f0 p2 p3 p4.toInt64 else f0) (if p1 = 1 then ky_ww f1 p2 p3 p4.toInt64 else f1)) := by
  refine kf_of (cc := b_FR_put) (maxL := 6) (ret := (some .int)) (by decide) rfl (Nat.le_of_ble_eq_true rfl) ?_
  intro p e s m below meth c A H locs hx hb hr hml hown hts hlocks hin hP hD hS hA hE ls hl
  have hl : lv_has ls 6 [(0, .ref x), (1, .int p1), (2, .int p2), (3, .int p3), (4, .int p4)] := hl
  rcases ky_row p1 with rfl | rfl | ⟨hn0, hn1⟩
  · refine lv_aload_n hx hb d_FR_put_0 rfl (lv_at hl 0 rfl) ?_
    refine lv_iload_n hx hb d_FR_put_1 rfl (lv_at hl 1 rfl) ?_
    refine kf_ro hP hD hS hA [0] rfl (va_runV (As := [.int 0]) (rest := []) ⟨hx, hb, hml, hown, hts⟩ (c_FR_rowOf_0 l D cB cI _ x r0 r1 tr vo) ⟨callB_of 1 hts g_FR_rowOf rfl rfl rfl (hts _ q1_1) (hts _ q1_226) h_FR_rowOf ⟨Nat.le_of_ble_eq_true rfl, Nat.le_of_ble_eq_true rfl⟩, (hts _ q1_228), (hts _ q0_6)⟩ ⟨kf_bl, va_recv hE.1 hP (ci := 2) (q0 := 0) rfl rfl, kf_to hP hD hS hA hE [0] rfl rfl⟩ rfl rfl hl.1 rfl (lv_room (Nat.le_of_ble_eq_true rfl)) d_FR_put_2 ⟨Nat.zero_le _, Nat.zero_le _⟩) (fun H locs hP hS => ?_)
    refine W.eq (g2 := F0 m 5 ls [.ref r0]) rfl ?_
    refine lv_astore (lv' := [(5, .ref r0), (0, .ref x), (1, .int 0), (2, .int p2), (3, .int p3), (4, .int p4)]) hx hb d_FR_put_5 hl (by decide) rfl (fun ls hl => ?_)
    refine lv_aload hx hb d_FR_put_7 (lv_at hl 0 rfl) ?_
    refine lv_ifnull hx hb d_FR_put_9 ?_
    refine lv_iload_n hx hb d_FR_put_12 rfl (lv_at hl 3 rfl) ?_
    refine lv_iload_n hx hb d_FR_put_13 rfl (lv_at hl 4 rfl) ?_
    refine kf_ro hP hD hS hA [] rfl (va_runS (As := [.int p2, .int p3]) (rest := []) ⟨hx, hb, hml, hown, hts⟩ (c_FR_isField l D cB cI _ p2 p3) ⟨callB_of 2 hts g_FR_isField rfl rfl rfl (hts _ q1_1) (hts _ q1_230) h_FR_isField ⟨Nat.le_of_ble_eq_true rfl, Nat.le_of_ble_eq_true rfl⟩, (hts _ q1_93)⟩ ⟨kf_bl, kf_to hP hD hS hA hE [] rfl rfl⟩ rfl rfl hl.1 rfl (lv_room (Nat.le_of_ble_eq_true rfl)) d_FR_put_14 ⟨Nat.zero_le _, Nat.zero_le _⟩) (fun H locs hP hS => ?_)
    refine W.eq (g2 := F0 m 17 ls [.int (kP (ky_isFP p2 p3))]) rfl ?_
    refine lv_if_ne (tgt := 22) hx hb d_FR_put_17 (by decide) (fun c17 => ?_) (fun c17 => ?_)
    · refine lv_aload hx hb d_FR_put_22 (lv_at hl 0 rfl) ?_
      refine lv_iload_n hx hb d_FR_put_24 rfl (lv_at hl 3 rfl) ?_
      refine lv_iload_n hx hb d_FR_put_25 rfl (lv_at hl 4 rfl) ?_
      refine lv_iload hx hb d_FR_put_26 (lv_at hl 5 rfl) ?_
      refine lv_i2l hx hb d_FR_put_28 rfl ?_
      refine kf_kc (wr := [(x, .inr (2, [.ref r0, .ref r1, .ref tr, .ref vo])), (r1, .inr (0, [.ref b1])), (b1, .inl (cB, 1024, .inl f1)), (tr, .inr (0, [.ref bt])), (bt, .inl (cB, 1024, .inl u.1)), (vo, .inr (1, [.long (u.2.1 0), .long (u.2.1 1), .long (u.2.1 2), .long (u.2.1 3), .long (u.2.1 4), .long (u.2.1 5), .long (u.2.1 6), .long (u.2.1 7), .int u.2.2, .long (u.2.1 9), .long (u.2.1 10), .long (u.2.1 11)]))]) (w1 := [(r0, .inr (0, [.ref b0])), (b0, .inl (cB, 1024, .inl (ky_ww f0 p2 p3 p4.toInt64)))]) (ws2 := [(x, .inr (2, [.ref r0, .ref r1, .ref tr, .ref vo])), (r0, .inr (0, [.ref b0])), (b0, .inl (cB, 1024, .inl (ky_ww f0 p2 p3 p4.toInt64))), (r1, .inr (0, [.ref b1])), (b1, .inl (cB, 1024, .inl f1)), (tr, .inr (0, [.ref bt])), (bt, .inl (cB, 1024, .inl u.1)), (vo, .inr (1, [.long (u.2.1 0), .long (u.2.1 1), .long (u.2.1 2), .long (u.2.1 3), .long (u.2.1 4), .long (u.2.1 5), .long (u.2.1 6), .long (u.2.1 7), .int u.2.2, .long (u.2.1 9), .long (u.2.1 10), .long (u.2.1 11)]))]) hP hD hS hA [1, 2] [0, 3, 4, 5, 6, 7] [0, 6, 7, 1, 2, 3, 4, 5] rfl rfl rfl (by decide) rfl rfl (va_runV (As := [.int p2, .int p3, .long p4.toInt64]) (rest := []) ⟨hx, hb, hml, hown, hts⟩ (c_Row_write l D cB cI _ r0 b0 f0 p2 p3 p4.toInt64) ⟨callB_of 3 hts g_Row_write rfl rfl rfl (hts _ q1_2) (hts _ q1_101) h_Row_write ⟨Nat.le_of_ble_eq_true rfl, Nat.le_of_ble_eq_true rfl⟩, (hts _ q1_89), (hts _ q1_90)⟩ ⟨kf_bl, va_recv hE.1 hP (ci := 0) (q0 := 1) rfl rfl, kf_to hP hD hS hA hE [1, 2] rfl rfl⟩ rfl rfl hl.1 rfl (lv_room (Nat.le_of_ble_eq_true rfl)) d_FR_put_29 ⟨Nat.zero_le _, Nat.zero_le _⟩) (fun H locs hP hD hS => ?_)
      refine W.eq (g2 := F0 m 32 ls []) rfl ?_
      refine lv_iconst (v := 0) hx hb d_FR_put_32 (by decide) ?_
      have hf := kP_ne c17
      simp only [if_pos (rfl : (0 : Int32) = 0), if_neg (show ¬ (0 : Int32) = 1 by decide)]
      exact kf_irB hx hb hr hlocks (kx_at hP hD) hS (by simp [hf]) d_FR_put_33
    · refine lv_iconst (v := -1) hx hb d_FR_put_20 (by decide) ?_
      have hf := kP_eq c17
      have hw := ky_ww_no f0 p2 p3 p4.toInt64 hf
      simp only [if_pos (rfl : (0 : Int32) = 0), if_neg (show ¬ (0 : Int32) = 1 by decide), hw]
      exact kf_irB hx hb hr hlocks (kx_at hP hD) hS (by rw [if_neg (fun q => hf q.2)]) d_FR_put_21
  · refine lv_aload_n hx hb d_FR_put_0 rfl (lv_at hl 0 rfl) ?_
    refine lv_iload_n hx hb d_FR_put_1 rfl (lv_at hl 1 rfl) ?_
    refine kf_ro hP hD hS hA [0] rfl (va_runV (As := [.int 1]) (rest := []) ⟨hx, hb, hml, hown, hts⟩ (c_FR_rowOf_1 l D cB cI _ x r0 r1 tr vo) ⟨callB_of 1 hts g_FR_rowOf rfl rfl rfl (hts _ q1_1) (hts _ q1_226) h_FR_rowOf ⟨Nat.le_of_ble_eq_true rfl, Nat.le_of_ble_eq_true rfl⟩, (hts _ q1_228), (hts _ q0_6)⟩ ⟨kf_bl, va_recv hE.1 hP (ci := 2) (q0 := 0) rfl rfl, kf_to hP hD hS hA hE [0] rfl rfl⟩ rfl rfl hl.1 rfl (lv_room (Nat.le_of_ble_eq_true rfl)) d_FR_put_2 ⟨Nat.zero_le _, Nat.zero_le _⟩) (fun H locs hP hS => ?_)
    refine W.eq (g2 := F0 m 5 ls [.ref r1]) rfl ?_
    refine lv_astore (lv' := [(5, .ref r1), (0, .ref x), (1, .int 1), (2, .int p2), (3, .int p3), (4, .int p4)]) hx hb d_FR_put_5 hl (by decide) rfl (fun ls hl => ?_)
    refine lv_aload hx hb d_FR_put_7 (lv_at hl 0 rfl) ?_
    refine lv_ifnull hx hb d_FR_put_9 ?_
    refine lv_iload_n hx hb d_FR_put_12 rfl (lv_at hl 3 rfl) ?_
    refine lv_iload_n hx hb d_FR_put_13 rfl (lv_at hl 4 rfl) ?_
    refine kf_ro hP hD hS hA [] rfl (va_runS (As := [.int p2, .int p3]) (rest := []) ⟨hx, hb, hml, hown, hts⟩ (c_FR_isField l D cB cI _ p2 p3) ⟨callB_of 2 hts g_FR_isField rfl rfl rfl (hts _ q1_1) (hts _ q1_230) h_FR_isField ⟨Nat.le_of_ble_eq_true rfl, Nat.le_of_ble_eq_true rfl⟩, (hts _ q1_93)⟩ ⟨kf_bl, kf_to hP hD hS hA hE [] rfl rfl⟩ rfl rfl hl.1 rfl (lv_room (Nat.le_of_ble_eq_true rfl)) d_FR_put_14 ⟨Nat.zero_le _, Nat.zero_le _⟩) (fun H locs hP hS => ?_)
    refine W.eq (g2 := F0 m 17 ls [.int (kP (ky_isFP p2 p3))]) rfl ?_
    refine lv_if_ne (tgt := 22) hx hb d_FR_put_17 (by decide) (fun c17 => ?_) (fun c17 => ?_)
    · refine lv_aload hx hb d_FR_put_22 (lv_at hl 0 rfl) ?_
      refine lv_iload_n hx hb d_FR_put_24 rfl (lv_at hl 3 rfl) ?_
      refine lv_iload_n hx hb d_FR_put_25 rfl (lv_at hl 4 rfl) ?_
      refine lv_iload hx hb d_FR_put_26 (lv_at hl 5 rfl) ?_
      refine lv_i2l hx hb d_FR_put_28 rfl ?_
      refine kf_kc (wr := [(x, .inr (2, [.ref r0, .ref r1, .ref tr, .ref vo])), (r0, .inr (0, [.ref b0])), (b0, .inl (cB, 1024, .inl f0)), (tr, .inr (0, [.ref bt])), (bt, .inl (cB, 1024, .inl u.1)), (vo, .inr (1, [.long (u.2.1 0), .long (u.2.1 1), .long (u.2.1 2), .long (u.2.1 3), .long (u.2.1 4), .long (u.2.1 5), .long (u.2.1 6), .long (u.2.1 7), .int u.2.2, .long (u.2.1 9), .long (u.2.1 10), .long (u.2.1 11)]))]) (w1 := [(r1, .inr (0, [.ref b1])), (b1, .inl (cB, 1024, .inl (ky_ww f1 p2 p3 p4.toInt64)))]) (ws2 := [(x, .inr (2, [.ref r0, .ref r1, .ref tr, .ref vo])), (r0, .inr (0, [.ref b0])), (b0, .inl (cB, 1024, .inl f0)), (r1, .inr (0, [.ref b1])), (b1, .inl (cB, 1024, .inl (ky_ww f1 p2 p3 p4.toInt64))), (tr, .inr (0, [.ref bt])), (bt, .inl (cB, 1024, .inl u.1)), (vo, .inr (1, [.long (u.2.1 0), .long (u.2.1 1), .long (u.2.1 2), .long (u.2.1 3), .long (u.2.1 4), .long (u.2.1 5), .long (u.2.1 6), .long (u.2.1 7), .int u.2.2, .long (u.2.1 9), .long (u.2.1 10), .long (u.2.1 11)]))]) hP hD hS hA [3, 4] [0, 1, 2, 5, 6, 7] [0, 1, 2, 6, 7, 3, 4, 5] rfl rfl rfl (by decide) rfl rfl (va_runV (As := [.int p2, .int p3, .long p4.toInt64]) (rest := []) ⟨hx, hb, hml, hown, hts⟩ (c_Row_write l D cB cI _ r1 b1 f1 p2 p3 p4.toInt64) ⟨callB_of 3 hts g_Row_write rfl rfl rfl (hts _ q1_2) (hts _ q1_101) h_Row_write ⟨Nat.le_of_ble_eq_true rfl, Nat.le_of_ble_eq_true rfl⟩, (hts _ q1_89), (hts _ q1_90)⟩ ⟨kf_bl, va_recv hE.1 hP (ci := 0) (q0 := 3) rfl rfl, kf_to hP hD hS hA hE [3, 4] rfl rfl⟩ rfl rfl hl.1 rfl (lv_room (Nat.le_of_ble_eq_true rfl)) d_FR_put_29 ⟨Nat.zero_le _, Nat.zero_le _⟩) (fun H locs hP hD hS => ?_)
      refine W.eq (g2 := F0 m 32 ls []) rfl ?_
      refine lv_iconst (v := 0) hx hb d_FR_put_32 (by decide) ?_
      have hf := kP_ne c17
      simp only [if_pos (rfl : (1 : Int32) = 1), if_neg (show ¬ (1 : Int32) = 0 by decide)]
      exact kf_irB hx hb hr hlocks (kx_at hP hD) hS (by simp [hf]) d_FR_put_33
    · refine lv_iconst (v := -1) hx hb d_FR_put_20 (by decide) ?_
      have hf := kP_eq c17
      have hw := ky_ww_no f1 p2 p3 p4.toInt64 hf
      simp only [if_pos (rfl : (1 : Int32) = 1), if_neg (show ¬ (1 : Int32) = 0 by decide), hw]
      exact kf_irB hx hb hr hlocks (kx_at hP hD) hS (by rw [if_neg (fun q => hf q.2)]) d_FR_put_21
  · refine lv_aload_n hx hb d_FR_put_0 rfl (lv_at hl 0 rfl) ?_
    refine lv_iload_n hx hb d_FR_put_1 rfl (lv_at hl 1 rfl) ?_
    refine kf_ro hP hD hS hA [0] rfl (va_runV (As := [.int p1]) (rest := []) ⟨hx, hb, hml, hown, hts⟩ (c_FR_rowOf_n l D cB cI _ x r0 r1 tr vo p1 hn0 hn1) ⟨callB_of 1 hts g_FR_rowOf rfl rfl rfl (hts _ q1_1) (hts _ q1_226) h_FR_rowOf ⟨Nat.le_of_ble_eq_true rfl, Nat.le_of_ble_eq_true rfl⟩, (hts _ q1_228), (hts _ q0_6)⟩ ⟨kf_bl, va_recv hE.1 hP (ci := 2) (q0 := 0) rfl rfl, kf_to hP hD hS hA hE [0] rfl rfl⟩ rfl rfl hl.1 rfl (lv_room (Nat.le_of_ble_eq_true rfl)) d_FR_put_2 ⟨Nat.zero_le _, Nat.zero_le _⟩) (fun H locs hP hS => ?_)
    refine W.eq (g2 := F0 m 5 ls [.null]) rfl ?_
    refine lv_astoreN (lv' := [(5, .null), (0, .ref x), (1, .int p1), (2, .int p2), (3, .int p3), (4, .int p4)]) hx hb d_FR_put_5 hl (by decide) rfl (fun ls hl => ?_)
    refine lv_aloadN hx hb d_FR_put_7 (lv_at hl 0 rfl) ?_
    refine lv_ifnullN (tgt := 20) hx hb d_FR_put_9 (by decide) ?_
    refine lv_iconst (v := -1) hx hb d_FR_put_20 (by decide) ?_
    simp only [if_neg hn0, if_neg hn1]
    exact kf_irB hx hb hr hlocks (kx_at hP hD) hS (by rw [if_neg (fun q => q.1.elim hn0 hn1)]) d_FR_put_21

set_option maxRecDepth 100000 in
set_option maxHeartbeats 4000000 in
theorem c_FR_poke (l : Launch) (D : va_G) (cB cI : ClassId) (hz : Nat) (x : Nat) (r0 : Nat) (b0 : Nat) (r1 : Nat) (b1 : Nat) (tr : Nat) (bt : Nat) (vo : Nat) (f0 : Nat → Int32) (f1 : Nat → Int32) (u : (Nat → Int32) × (Nat → Int64) × Int32) (p1 : Int32) (p2 : Int32) (p3 : Int32) : kf_Ct l y_FR_poke w_FR_poke 2 46 0 0 D (kT cB cI) [.ref x, .int p1, .int p2, .int p3] [(x, .inr (2, [.ref r0, .ref r1, .ref tr, .ref vo])), (r0, .inr (0, [.ref b0])), (b0, .inl (cB, 1024, .inl f0)), (r1, .inr (0, [.ref b1])), (b1, .inl (cB, 1024, .inl f1)), (tr, .inr (0, [.ref bt])), (bt, .inl (cB, 1024, .inl u.1)), (vo, .inr (1, [.long (u.2.1 0), .long (u.2.1 1), .long (u.2.1 2), .long (u.2.1 3), .long (u.2.1 4), .long (u.2.1 5), .long (u.2.1 6), .long (u.2.1 7), .int u.2.2, .long (u.2.1 9), .long (u.2.1 10), .long (u.2.1 11)]))] hz (some (.int (if p1 = 0 ∧ kr_pokeP p2 p3 then (ky_fl f0 p2 1).toInt32 else if p1 = 1 ∧ kr_pokeP p2 p3 then (ky_fl f1 p2 1).toInt32 else -1))) (kx_FR D cB x r0 b0 r1 b1 tr bt vo (if p1 = 0 ∧ kr_pokeP p2 p3 then ky_ww f0 p2 1 p3.toInt64 else f0) (if p1 = 1 ∧ kr_pokeP p2 p3 then ky_ww f1 p2 1 p3.toInt64 else f1)) := by
  refine kf_of (cc := b_FR_poke) (maxL := 6) (ret := (some .int)) (by decide) rfl (Nat.le_of_ble_eq_true rfl) ?_
  intro p e s m below meth c A H locs hx hb hr hml hown hts hlocks hin hP hD hS hA hE ls hl
  have hl : lv_has ls 6 [(0, .ref x), (1, .int p1), (2, .int p2), (3, .int p3)] := hl
  rcases ky_row p1 with rfl | rfl | ⟨hn0, hn1⟩
  · refine lv_aload_n hx hb d_FR_poke_0 rfl (lv_at hl 0 rfl) ?_
    refine lv_iload_n hx hb d_FR_poke_1 rfl (lv_at hl 1 rfl) ?_
    refine kf_ro hP hD hS hA [0] rfl (va_runV (As := [.int 0]) (rest := []) ⟨hx, hb, hml, hown, hts⟩ (c_FR_rowOf_0 l D cB cI _ x r0 r1 tr vo) ⟨callB_of 1 hts g_FR_rowOf rfl rfl rfl (hts _ q1_1) (hts _ q1_226) h_FR_rowOf ⟨Nat.le_of_ble_eq_true rfl, Nat.le_of_ble_eq_true rfl⟩, (hts _ q1_228), (hts _ q0_6)⟩ ⟨kf_bl, va_recv hE.1 hP (ci := 2) (q0 := 0) rfl rfl, kf_to hP hD hS hA hE [0] rfl rfl⟩ rfl rfl hl.1 rfl (lv_room (Nat.le_of_ble_eq_true rfl)) d_FR_poke_2 ⟨Nat.zero_le _, Nat.zero_le _⟩) (fun H locs hP hS => ?_)
    refine W.eq (g2 := F0 m 5 ls [.ref r0]) rfl ?_
    refine lv_astore (lv' := [(4, .ref r0), (0, .ref x), (1, .int 0), (2, .int p2), (3, .int p3)]) hx hb d_FR_poke_5 hl (by decide) rfl (fun ls hl => ?_)
    refine lv_aload hx hb d_FR_poke_7 (lv_at hl 0 rfl) ?_
    refine lv_ifnull hx hb d_FR_poke_9 ?_
    refine lv_iload_n hx hb d_FR_poke_12 rfl (lv_at hl 3 rfl) ?_
    refine lv_iconst (v := 1) hx hb d_FR_poke_13 (by decide) ?_
    refine kf_ro hP hD hS hA [] rfl (va_runS (As := [.int p2, .int 1]) (rest := []) ⟨hx, hb, hml, hown, hts⟩ (c_FR_isField l D cB cI _ p2 1) ⟨callB_of 2 hts g_FR_isField rfl rfl rfl (hts _ q1_1) (hts _ q1_230) h_FR_isField ⟨Nat.le_of_ble_eq_true rfl, Nat.le_of_ble_eq_true rfl⟩, (hts _ q1_93)⟩ ⟨kf_bl, kf_to hP hD hS hA hE [] rfl rfl⟩ rfl rfl hl.1 rfl (lv_room (Nat.le_of_ble_eq_true rfl)) d_FR_poke_14 ⟨Nat.zero_le _, Nat.zero_le _⟩) (fun H locs hP hS => ?_)
    refine W.eq (g2 := F0 m 17 ls [.int (kP (ky_isFP p2 1))]) rfl ?_
    refine lv_if_eq (tgt := 31) hx hb d_FR_poke_17 (by decide) (fun c17 => ?_) (fun c17 => ?_)
    · refine lv_iconst (v := -1) hx hb d_FR_poke_31 (by decide) ?_
      have hq : ¬ kr_pokeP p2 p3 := fun q => kP_eq c17 q.1
      have hm : ¬ ((0 : Int32) = 0 ∧ kr_pokeP p2 p3) := fun q => hq q.2
      have hp : ¬ ((0 : Int32) = 1 ∧ kr_pokeP p2 p3) := fun q => hq q.2
      repeat rw [if_neg hm]
      repeat rw [if_neg hp]
      exact kf_irB hx hb hr hlocks (kx_at hP hD) hS (rfl) d_FR_poke_32
    · refine lv_iload_n hx hb d_FR_poke_20 rfl (lv_at hl 4 rfl) ?_
      refine lv_if_lt (tgt := 31) hx hb d_FR_poke_21 (by decide) (fun c21 => ?_) (fun c21 => ?_)
      · refine lv_iconst (v := -1) hx hb d_FR_poke_31 (by decide) ?_
        have hq : ¬ kr_pokeP p2 p3 := fun q => q.2.1 c21
        have hm : ¬ ((0 : Int32) = 0 ∧ kr_pokeP p2 p3) := fun q => hq q.2
        have hp : ¬ ((0 : Int32) = 1 ∧ kr_pokeP p2 p3) := fun q => hq q.2
        repeat rw [if_neg hm]
        repeat rw [if_neg hp]
        exact kf_irB hx hb hr hlocks (kx_at hP hD) hS (rfl) d_FR_poke_32
      · refine lv_iload_n hx hb d_FR_poke_24 rfl (lv_at hl 4 rfl) ?_
        refine lv_sipush (v := 255) hx hb d_FR_poke_25 (by decide) ?_
        refine lv_icmp_le (tgt := 33) hx hb d_FR_poke_28 (by decide) (fun c28 => ?_) (fun c28 => ?_)
        · refine lv_aload hx hb d_FR_poke_33 (lv_at hl 0 rfl) ?_
          refine lv_iload_n hx hb d_FR_poke_35 rfl (lv_at hl 3 rfl) ?_
          refine lv_iconst (v := 1) hx hb d_FR_poke_36 (by decide) ?_
          refine kf_ro hP hD hS hA [1, 2] rfl (va_runV (As := [.int p2, .int 1]) (rest := []) ⟨hx, hb, hml, hown, hts⟩ (c_Row_field l D cB cI _ r0 b0 f0 p2 1) ⟨callB_of 2 hts g_Row_field rfl rfl rfl (hts _ q1_2) (hts _ q1_231) h_Row_field ⟨Nat.le_of_ble_eq_true rfl, Nat.le_of_ble_eq_true rfl⟩, (hts _ q1_110), (hts _ q1_111)⟩ ⟨kf_bl, va_recv hE.1 hP (ci := 0) (q0 := 1) rfl rfl, kf_to hP hD hS hA hE [1, 2] rfl rfl⟩ rfl rfl hl.1 rfl (lv_room (Nat.le_of_ble_eq_true rfl)) d_FR_poke_37 ⟨Nat.zero_le _, Nat.zero_le _⟩) (fun H locs hP hS => ?_)
          refine W.eq (g2 := F0 m 40 ls [.long (ky_fl f0 p2 1)]) rfl ?_
          refine lv_l2i hx hb d_FR_poke_40 rfl ?_
          refine lv_istore (lv' := [(5, .int ((ky_fl f0 p2 1).toInt32)), (4, .ref r0), (0, .ref x), (1, .int 0), (2, .int p2), (3, .int p3)]) hx hb d_FR_poke_41 hl (by decide) rfl (fun ls hl => ?_)
          refine lv_aload hx hb d_FR_poke_43 (lv_at hl 1 rfl) ?_
          refine lv_iload_n hx hb d_FR_poke_45 rfl (lv_at hl 4 rfl) ?_
          refine lv_iconst (v := 1) hx hb d_FR_poke_46 (by decide) ?_
          refine lv_iload_n hx hb d_FR_poke_47 rfl (lv_at hl 5 rfl) ?_
          refine lv_i2l hx hb d_FR_poke_48 rfl ?_
          refine kf_kc (wr := [(x, .inr (2, [.ref r0, .ref r1, .ref tr, .ref vo])), (r1, .inr (0, [.ref b1])), (b1, .inl (cB, 1024, .inl f1)), (tr, .inr (0, [.ref bt])), (bt, .inl (cB, 1024, .inl u.1)), (vo, .inr (1, [.long (u.2.1 0), .long (u.2.1 1), .long (u.2.1 2), .long (u.2.1 3), .long (u.2.1 4), .long (u.2.1 5), .long (u.2.1 6), .long (u.2.1 7), .int u.2.2, .long (u.2.1 9), .long (u.2.1 10), .long (u.2.1 11)]))]) (w1 := [(r0, .inr (0, [.ref b0])), (b0, .inl (cB, 1024, .inl (ky_ww f0 p2 1 p3.toInt64)))]) (ws2 := [(x, .inr (2, [.ref r0, .ref r1, .ref tr, .ref vo])), (r0, .inr (0, [.ref b0])), (b0, .inl (cB, 1024, .inl (ky_ww f0 p2 1 p3.toInt64))), (r1, .inr (0, [.ref b1])), (b1, .inl (cB, 1024, .inl f1)), (tr, .inr (0, [.ref bt])), (bt, .inl (cB, 1024, .inl u.1)), (vo, .inr (1, [.long (u.2.1 0), .long (u.2.1 1), .long (u.2.1 2), .long (u.2.1 3), .long (u.2.1 4), .long (u.2.1 5), .long (u.2.1 6), .long (u.2.1 7), .int u.2.2, .long (u.2.1 9), .long (u.2.1 10), .long (u.2.1 11)]))]) hP hD hS hA [1, 2] [0, 3, 4, 5, 6, 7] [0, 6, 7, 1, 2, 3, 4, 5] rfl rfl rfl (by decide) rfl rfl (va_runV (As := [.int p2, .int 1, .long p3.toInt64]) (rest := []) ⟨hx, hb, hml, hown, hts⟩ (c_Row_write l D cB cI _ r0 b0 f0 p2 1 p3.toInt64) ⟨callB_of 3 hts g_Row_write rfl rfl rfl (hts _ q1_2) (hts _ q1_101) h_Row_write ⟨Nat.le_of_ble_eq_true rfl, Nat.le_of_ble_eq_true rfl⟩, (hts _ q1_89), (hts _ q1_90)⟩ ⟨kf_bl, va_recv hE.1 hP (ci := 0) (q0 := 1) rfl rfl, kf_to hP hD hS hA hE [1, 2] rfl rfl⟩ rfl rfl hl.1 rfl (lv_room (Nat.le_of_ble_eq_true rfl)) d_FR_poke_49 ⟨Nat.zero_le _, Nat.zero_le _⟩) (fun H locs hP hD hS => ?_)
          refine W.eq (g2 := F0 m 52 ls []) rfl ?_
          refine lv_iload hx hb d_FR_poke_52 (lv_at hl 0 rfl) ?_
          have hq : kr_pokeP p2 p3 := ⟨kP_ne c17, c21, c28⟩
          have hp : (0 : Int32) = 0 ∧ kr_pokeP p2 p3 := ⟨rfl, hq⟩
          have hm : ¬ ((0 : Int32) = 1 ∧ kr_pokeP p2 p3) := fun q => absurd q.1 (by decide)
          repeat rw [if_pos hp]
          repeat rw [if_neg hm]
          exact kf_irB hx hb hr hlocks (kx_at hP hD) hS (by first | rfl | (rw [if_neg hm, if_pos hp])) d_FR_poke_54
        · refine lv_iconst (v := -1) hx hb d_FR_poke_31 (by decide) ?_
          have hq : ¬ kr_pokeP p2 p3 := fun q => c28 q.2.2
          have hm : ¬ ((0 : Int32) = 0 ∧ kr_pokeP p2 p3) := fun q => hq q.2
          have hp : ¬ ((0 : Int32) = 1 ∧ kr_pokeP p2 p3) := fun q => hq q.2
          repeat rw [if_neg hm]
          repeat rw [if_neg hp]
          exact kf_irB hx hb hr hlocks (kx_at hP hD) hS (rfl) d_FR_poke_32
  · refine lv_aload_n hx hb d_FR_poke_0 rfl (lv_at hl 0 rfl) ?_
    refine lv_iload_n hx hb d_FR_poke_1 rfl (lv_at hl 1 rfl) ?_
    refine kf_ro hP hD hS hA [0] rfl (va_runV (As := [.int 1]) (rest := []) ⟨hx, hb, hml, hown, hts⟩ (c_FR_rowOf_1 l D cB cI _ x r0 r1 tr vo) ⟨callB_of 1 hts g_FR_rowOf rfl rfl rfl (hts _ q1_1) (hts _ q1_226) h_FR_rowOf ⟨Nat.le_of_ble_eq_true rfl, Nat.le_of_ble_eq_true rfl⟩, (hts _ q1_228), (hts _ q0_6)⟩ ⟨kf_bl, va_recv hE.1 hP (ci := 2) (q0 := 0) rfl rfl, kf_to hP hD hS hA hE [0] rfl rfl⟩ rfl rfl hl.1 rfl (lv_room (Nat.le_of_ble_eq_true rfl)) d_FR_poke_2 ⟨Nat.zero_le _, Nat.zero_le _⟩) (fun H locs hP hS => ?_)
    refine W.eq (g2 := F0 m 5 ls [.ref r1]) rfl ?_
    refine lv_astore (lv' := [(4, .ref r1), (0, .ref x), (1, .int 1), (2, .int p2), (3, .int p3)]) hx hb d_FR_poke_5 hl (by decide) rfl (fun ls hl => ?_)
    refine lv_aload hx hb d_FR_poke_7 (lv_at hl 0 rfl) ?_
    refine lv_ifnull hx hb d_FR_poke_9 ?_
    refine lv_iload_n hx hb d_FR_poke_12 rfl (lv_at hl 3 rfl) ?_
    refine lv_iconst (v := 1) hx hb d_FR_poke_13 (by decide) ?_
    refine kf_ro hP hD hS hA [] rfl (va_runS (As := [.int p2, .int 1]) (rest := []) ⟨hx, hb, hml, hown, hts⟩ (c_FR_isField l D cB cI _ p2 1) ⟨callB_of 2 hts g_FR_isField rfl rfl rfl (hts _ q1_1) (hts _ q1_230) h_FR_isField ⟨Nat.le_of_ble_eq_true rfl, Nat.le_of_ble_eq_true rfl⟩, (hts _ q1_93)⟩ ⟨kf_bl, kf_to hP hD hS hA hE [] rfl rfl⟩ rfl rfl hl.1 rfl (lv_room (Nat.le_of_ble_eq_true rfl)) d_FR_poke_14 ⟨Nat.zero_le _, Nat.zero_le _⟩) (fun H locs hP hS => ?_)
    refine W.eq (g2 := F0 m 17 ls [.int (kP (ky_isFP p2 1))]) rfl ?_
    refine lv_if_eq (tgt := 31) hx hb d_FR_poke_17 (by decide) (fun c17 => ?_) (fun c17 => ?_)
    · refine lv_iconst (v := -1) hx hb d_FR_poke_31 (by decide) ?_
      have hq : ¬ kr_pokeP p2 p3 := fun q => kP_eq c17 q.1
      have hm : ¬ ((1 : Int32) = 0 ∧ kr_pokeP p2 p3) := fun q => hq q.2
      have hp : ¬ ((1 : Int32) = 1 ∧ kr_pokeP p2 p3) := fun q => hq q.2
      repeat rw [if_neg hm]
      repeat rw [if_neg hp]
      exact kf_irB hx hb hr hlocks (kx_at hP hD) hS (rfl) d_FR_poke_32
    · refine lv_iload_n hx hb d_FR_poke_20 rfl (lv_at hl 4 rfl) ?_
      refine lv_if_lt (tgt := 31) hx hb d_FR_poke_21 (by decide) (fun c21 => ?_) (fun c21 => ?_)
      · refine lv_iconst (v := -1) hx hb d_FR_poke_31 (by decide) ?_
        have hq : ¬ kr_pokeP p2 p3 := fun q => q.2.1 c21
        have hm : ¬ ((1 : Int32) = 0 ∧ kr_pokeP p2 p3) := fun q => hq q.2
        have hp : ¬ ((1 : Int32) = 1 ∧ kr_pokeP p2 p3) := fun q => hq q.2
        repeat rw [if_neg hm]
        repeat rw [if_neg hp]
        exact kf_irB hx hb hr hlocks (kx_at hP hD) hS (rfl) d_FR_poke_32
      · refine lv_iload_n hx hb d_FR_poke_24 rfl (lv_at hl 4 rfl) ?_
        refine lv_sipush (v := 255) hx hb d_FR_poke_25 (by decide) ?_
        refine lv_icmp_le (tgt := 33) hx hb d_FR_poke_28 (by decide) (fun c28 => ?_) (fun c28 => ?_)
        · refine lv_aload hx hb d_FR_poke_33 (lv_at hl 0 rfl) ?_
          refine lv_iload_n hx hb d_FR_poke_35 rfl (lv_at hl 3 rfl) ?_
          refine lv_iconst (v := 1) hx hb d_FR_poke_36 (by decide) ?_
          refine kf_ro hP hD hS hA [3, 4] rfl (va_runV (As := [.int p2, .int 1]) (rest := []) ⟨hx, hb, hml, hown, hts⟩ (c_Row_field l D cB cI _ r1 b1 f1 p2 1) ⟨callB_of 2 hts g_Row_field rfl rfl rfl (hts _ q1_2) (hts _ q1_231) h_Row_field ⟨Nat.le_of_ble_eq_true rfl, Nat.le_of_ble_eq_true rfl⟩, (hts _ q1_110), (hts _ q1_111)⟩ ⟨kf_bl, va_recv hE.1 hP (ci := 0) (q0 := 3) rfl rfl, kf_to hP hD hS hA hE [3, 4] rfl rfl⟩ rfl rfl hl.1 rfl (lv_room (Nat.le_of_ble_eq_true rfl)) d_FR_poke_37 ⟨Nat.zero_le _, Nat.zero_le _⟩) (fun H locs hP hS => ?_)
          refine W.eq (g2 := F0 m 40 ls [.long (ky_fl f1 p2 1)]) rfl ?_
          refine lv_l2i hx hb d_FR_poke_40 rfl ?_
          refine lv_istore (lv' := [(5, .int ((ky_fl f1 p2 1).toInt32)), (4, .ref r1), (0, .ref x), (1, .int 1), (2, .int p2), (3, .int p3)]) hx hb d_FR_poke_41 hl (by decide) rfl (fun ls hl => ?_)
          refine lv_aload hx hb d_FR_poke_43 (lv_at hl 1 rfl) ?_
          refine lv_iload_n hx hb d_FR_poke_45 rfl (lv_at hl 4 rfl) ?_
          refine lv_iconst (v := 1) hx hb d_FR_poke_46 (by decide) ?_
          refine lv_iload_n hx hb d_FR_poke_47 rfl (lv_at hl 5 rfl) ?_
          refine lv_i2l hx hb d_FR_poke_48 rfl ?_
          refine kf_kc (wr := [(x, .inr (2, [.ref r0, .ref r1, .ref tr, .ref vo])), (r0, .inr (0, [.ref b0])), (b0, .inl (cB, 1024, .inl f0)), (tr, .inr (0, [.ref bt])), (bt, .inl (cB, 1024, .inl u.1)), (vo, .inr (1, [.long (u.2.1 0), .long (u.2.1 1), .long (u.2.1 2), .long (u.2.1 3), .long (u.2.1 4), .long (u.2.1 5), .long (u.2.1 6), .long (u.2.1 7), .int u.2.2, .long (u.2.1 9), .long (u.2.1 10), .long (u.2.1 11)]))]) (w1 := [(r1, .inr (0, [.ref b1])), (b1, .inl (cB, 1024, .inl (ky_ww f1 p2 1 p3.toInt64)))]) (ws2 := [(x, .inr (2, [.ref r0, .ref r1, .ref tr, .ref vo])), (r0, .inr (0, [.ref b0])), (b0, .inl (cB, 1024, .inl f0)), (r1, .inr (0, [.ref b1])), (b1, .inl (cB, 1024, .inl (ky_ww f1 p2 1 p3.toInt64))), (tr, .inr (0, [.ref bt])), (bt, .inl (cB, 1024, .inl u.1)), (vo, .inr (1, [.long (u.2.1 0), .long (u.2.1 1), .long (u.2.1 2), .long (u.2.1 3), .long (u.2.1 4), .long (u.2.1 5), .long (u.2.1 6), .long (u.2.1 7), .int u.2.2, .long (u.2.1 9), .long (u.2.1 10), .long (u.2.1 11)]))]) hP hD hS hA [3, 4] [0, 1, 2, 5, 6, 7] [0, 1, 2, 6, 7, 3, 4, 5] rfl rfl rfl (by decide) rfl rfl (va_runV (As := [.int p2, .int 1, .long p3.toInt64]) (rest := []) ⟨hx, hb, hml, hown, hts⟩ (c_Row_write l D cB cI _ r1 b1 f1 p2 1 p3.toInt64) ⟨callB_of 3 hts g_Row_write rfl rfl rfl (hts _ q1_2) (hts _ q1_101) h_Row_write ⟨Nat.le_of_ble_eq_true rfl, Nat.le_of_ble_eq_true rfl⟩, (hts _ q1_89), (hts _ q1_90)⟩ ⟨kf_bl, va_recv hE.1 hP (ci := 0) (q0 := 3) rfl rfl, kf_to hP hD hS hA hE [3, 4] rfl rfl⟩ rfl rfl hl.1 rfl (lv_room (Nat.le_of_ble_eq_true rfl)) d_FR_poke_49 ⟨Nat.zero_le _, Nat.zero_le _⟩) (fun H locs hP hD hS => ?_)
          refine W.eq (g2 := F0 m 52 ls []) rfl ?_
          refine lv_iload hx hb d_FR_poke_52 (lv_at hl 0 rfl) ?_
          have hq : kr_pokeP p2 p3 := ⟨kP_ne c17, c21, c28⟩
          have hp : (1 : Int32) = 1 ∧ kr_pokeP p2 p3 := ⟨rfl, hq⟩
          have hm : ¬ ((1 : Int32) = 0 ∧ kr_pokeP p2 p3) := fun q => absurd q.1 (by decide)
          repeat rw [if_pos hp]
          repeat rw [if_neg hm]
          exact kf_irB hx hb hr hlocks (kx_at hP hD) hS (by first | rfl | (rw [if_neg hm, if_pos hp])) d_FR_poke_54
        · refine lv_iconst (v := -1) hx hb d_FR_poke_31 (by decide) ?_
          have hq : ¬ kr_pokeP p2 p3 := fun q => c28 q.2.2
          have hm : ¬ ((1 : Int32) = 0 ∧ kr_pokeP p2 p3) := fun q => hq q.2
          have hp : ¬ ((1 : Int32) = 1 ∧ kr_pokeP p2 p3) := fun q => hq q.2
          repeat rw [if_neg hm]
          repeat rw [if_neg hp]
          exact kf_irB hx hb hr hlocks (kx_at hP hD) hS (rfl) d_FR_poke_32
  · refine lv_aload_n hx hb d_FR_poke_0 rfl (lv_at hl 0 rfl) ?_
    refine lv_iload_n hx hb d_FR_poke_1 rfl (lv_at hl 1 rfl) ?_
    refine kf_ro hP hD hS hA [0] rfl (va_runV (As := [.int p1]) (rest := []) ⟨hx, hb, hml, hown, hts⟩ (c_FR_rowOf_n l D cB cI _ x r0 r1 tr vo p1 hn0 hn1) ⟨callB_of 1 hts g_FR_rowOf rfl rfl rfl (hts _ q1_1) (hts _ q1_226) h_FR_rowOf ⟨Nat.le_of_ble_eq_true rfl, Nat.le_of_ble_eq_true rfl⟩, (hts _ q1_228), (hts _ q0_6)⟩ ⟨kf_bl, va_recv hE.1 hP (ci := 2) (q0 := 0) rfl rfl, kf_to hP hD hS hA hE [0] rfl rfl⟩ rfl rfl hl.1 rfl (lv_room (Nat.le_of_ble_eq_true rfl)) d_FR_poke_2 ⟨Nat.zero_le _, Nat.zero_le _⟩) (fun H locs hP hS => ?_)
    refine W.eq (g2 := F0 m 5 ls [.null]) rfl ?_
    refine lv_astoreN (lv' := [(4, .null), (0, .ref x), (1, .int p1), (2, .int p2), (3, .int p3)]) hx hb d_FR_poke_5 hl (by decide) rfl (fun ls hl => ?_)
    refine lv_aloadN hx hb d_FR_poke_7 (lv_at hl 0 rfl) ?_
    refine lv_ifnullN (tgt := 31) hx hb d_FR_poke_9 (by decide) ?_
    refine lv_iconst (v := -1) hx hb d_FR_poke_31 (by decide) ?_
    simp only [if_neg (show ¬ (p1 = 0 ∧ kr_pokeP p2 p3) from fun q => hn0 q.1), if_neg (show ¬ (p1 = 1 ∧ kr_pokeP p2 p3) from fun q => hn1 q.1)]
    exact kf_irB hx hb hr hlocks (kx_at hP hD) hS (rfl) d_FR_poke_32

set_option maxRecDepth 100000 in
set_option maxHeartbeats 4000000 in
theorem c_FR_fault (l : Launch) (D : va_G) (cB cI : ClassId) (hz : Nat) (x : Nat) (r0 : Nat) (b0 : Nat) (r1 : Nat) (b1 : Nat) (tr : Nat) (bt : Nat) (vo : Nat) (f0 : Nat → Int32) (f1 : Nat → Int32) (u : (Nat → Int32) × (Nat → Int64) × Int32) (p1 : Int32) : kf_Ct l y_FR_fault w_FR_fault 5 110 0 0 D (kT cB cI) [.ref x, .int p1] [(x, .inr (2, [.ref r0, .ref r1, .ref tr, .ref vo])), (r0, .inr (0, [.ref b0])), (b0, .inl (cB, 1024, .inl f0)), (r1, .inr (0, [.ref b1])), (b1, .inl (cB, 1024, .inl f1)), (tr, .inr (0, [.ref bt])), (bt, .inl (cB, 1024, .inl u.1)), (vo, .inr (1, [.long (u.2.1 0), .long (u.2.1 1), .long (u.2.1 2), .long (u.2.1 3), .long (u.2.1 4), .long (u.2.1 5), .long (u.2.1 6), .long (u.2.1 7), .int u.2.2, .long (u.2.1 9), .long (u.2.1 10), .long (u.2.1 11)]))] hz (some (.int (if p1 = 0 then kv_fault f0 else if p1 = 1 then kv_fault f1 else -1))) (kx_FR D cB x r0 b0 r1 b1 tr bt vo f0 f1) := by
  refine kf_of (cc := b_FR_fault) (maxL := 3) (ret := (some .int)) (by decide) rfl (Nat.le_of_ble_eq_true rfl) ?_
  intro p e s m below meth c A H locs hx hb hr hml hown hts hlocks hin hP hD hS hA hE ls hl
  have hl : lv_has ls 3 [(0, .ref x), (1, .int p1)] := hl
  rcases ky_row p1 with rfl | rfl | ⟨hn0, hn1⟩
  · refine lv_aload_n hx hb d_FR_fault_0 rfl (lv_at hl 0 rfl) ?_
    refine lv_iload_n hx hb d_FR_fault_1 rfl (lv_at hl 1 rfl) ?_
    refine kf_ro hP hD hS hA [0] rfl (va_runV (As := [.int 0]) (rest := []) ⟨hx, hb, hml, hown, hts⟩ (c_FR_rowOf_0 l D cB cI _ x r0 r1 tr vo) ⟨callB_of 1 hts g_FR_rowOf rfl rfl rfl (hts _ q1_1) (hts _ q1_226) h_FR_rowOf ⟨Nat.le_of_ble_eq_true rfl, Nat.le_of_ble_eq_true rfl⟩, (hts _ q1_228), (hts _ q0_6)⟩ ⟨kf_bl, va_recv hE.1 hP (ci := 2) (q0 := 0) rfl rfl, kf_to hP hD hS hA hE [0] rfl rfl⟩ rfl rfl hl.1 rfl (lv_room (Nat.le_of_ble_eq_true rfl)) d_FR_fault_2 ⟨Nat.zero_le _, Nat.zero_le _⟩) (fun H locs hP hS => ?_)
    refine W.eq (g2 := F0 m 5 ls [.ref r0]) rfl ?_
    refine lv_astore_n (lv' := [(2, .ref r0), (0, .ref x), (1, .int 0)]) hx hb d_FR_fault_5 rfl hl (by decide) rfl (fun ls hl => ?_)
    refine lv_aload_n hx hb d_FR_fault_6 rfl (lv_at hl 0 rfl) ?_
    refine lv_ifnonnull (tgt := 14) hx hb d_FR_fault_7 (by decide) ?_
    refine lv_aload_n hx hb d_FR_fault_14 rfl (lv_at hl 1 rfl) ?_
    refine va_get (D := D) (ci := 2) (v := .ref vo) (C := "FieldRows") (T := F_FR) (N := 4) hx hb hts ku_FR hown hE.1 hP 0 rfl rfl 3 (by decide) (hts _ q1_211) (fun _ h9 => h9) rfl d_FR_fault_15 ?_
    refine lv_aload_n hx hb d_FR_fault_18 rfl (lv_at hl 0 rfl) ?_
    refine kf_kc (wr := [(x, .inr (2, [.ref r0, .ref r1, .ref tr, .ref vo])), (r1, .inr (0, [.ref b1])), (b1, .inl (cB, 1024, .inl f1)), (tr, .inr (0, [.ref bt])), (bt, .inl (cB, 1024, .inl u.1))]) (w1 := [(vo, .inr (1, [.long (lN (ky_le f0 0 4)), .long (lN (ky_le f0 4 4)), .long (lN (ky_le f0 20 4)), .long (lN (ky_le f0 24 4)), .long (kv_size f0), .long (lN (ky_le f0 32 4)), .long (lN (ky_le f0 40 4)), .long (lN (ky_le f0 88 2)), .int (kv_few f0), .long (kv_gc f0), .long (kv_cb f0), .long (kv_rk f0)])), (r0, .inr (0, [.ref b0])), (b0, .inl (cB, 1024, .inl f0))]) (ws2 := [(x, .inr (2, [.ref r0, .ref r1, .ref tr, .ref vo])), (r0, .inr (0, [.ref b0])), (b0, .inl (cB, 1024, .inl f0)), (r1, .inr (0, [.ref b1])), (b1, .inl (cB, 1024, .inl f1)), (tr, .inr (0, [.ref bt])), (bt, .inl (cB, 1024, .inl u.1)), (vo, .inr (1, [.long (lN (ky_le f0 0 4)), .long (lN (ky_le f0 4 4)), .long (lN (ky_le f0 20 4)), .long (lN (ky_le f0 24 4)), .long (kv_size f0), .long (lN (ky_le f0 32 4)), .long (lN (ky_le f0 40 4)), .long (lN (ky_le f0 88 2)), .int (kv_few f0), .long (kv_gc f0), .long (kv_cb f0), .long (kv_rk f0)]))]) hP hD hS hA [7, 1, 2] [0, 3, 4, 5, 6] [0, 6, 7, 1, 2, 3, 4, 5] rfl rfl rfl (by decide) rfl rfl (va_runV (As := [.ref r0]) (rest := []) ⟨hx, hb, hml, hown, hts⟩ (c_Vol_firstFaultOf l D cB cI _ vo (u.2.1 0) (u.2.1 1) (u.2.1 2) (u.2.1 3) (u.2.1 4) (u.2.1 5) (u.2.1 6) (u.2.1 7) u.2.2 (u.2.1 9) (u.2.1 10) (u.2.1 11) r0 b0 f0) ⟨callB_of 1 hts g_Vol_firstFaultOf rfl rfl rfl (hts _ q1_3) (hts _ q1_122) h_Vol_firstFaultOf ⟨Nat.le_of_ble_eq_true rfl, Nat.le_of_ble_eq_true rfl⟩, (hts _ q1_123), (hts _ q1_124)⟩ ⟨kf_bl, va_recv hE.1 hP (ci := 1) (q0 := 7) rfl rfl, kf_to hP hD hS hA hE [7, 1, 2] rfl rfl⟩ rfl rfl hl.1 rfl (lv_room (Nat.le_of_ble_eq_true rfl)) d_FR_fault_19 ⟨Nat.zero_le _, Nat.zero_le _⟩) (fun H locs hP hD hS => ?_)
    refine W.eq (g2 := F0 m 22 ls [.int (kv_fault f0)]) rfl ?_
    exact kf_irB hx hb hr hlocks (kx_at hP hD) hS (by rw [if_pos rfl]) d_FR_fault_22
  · refine lv_aload_n hx hb d_FR_fault_0 rfl (lv_at hl 0 rfl) ?_
    refine lv_iload_n hx hb d_FR_fault_1 rfl (lv_at hl 1 rfl) ?_
    refine kf_ro hP hD hS hA [0] rfl (va_runV (As := [.int 1]) (rest := []) ⟨hx, hb, hml, hown, hts⟩ (c_FR_rowOf_1 l D cB cI _ x r0 r1 tr vo) ⟨callB_of 1 hts g_FR_rowOf rfl rfl rfl (hts _ q1_1) (hts _ q1_226) h_FR_rowOf ⟨Nat.le_of_ble_eq_true rfl, Nat.le_of_ble_eq_true rfl⟩, (hts _ q1_228), (hts _ q0_6)⟩ ⟨kf_bl, va_recv hE.1 hP (ci := 2) (q0 := 0) rfl rfl, kf_to hP hD hS hA hE [0] rfl rfl⟩ rfl rfl hl.1 rfl (lv_room (Nat.le_of_ble_eq_true rfl)) d_FR_fault_2 ⟨Nat.zero_le _, Nat.zero_le _⟩) (fun H locs hP hS => ?_)
    refine W.eq (g2 := F0 m 5 ls [.ref r1]) rfl ?_
    refine lv_astore_n (lv' := [(2, .ref r1), (0, .ref x), (1, .int 1)]) hx hb d_FR_fault_5 rfl hl (by decide) rfl (fun ls hl => ?_)
    refine lv_aload_n hx hb d_FR_fault_6 rfl (lv_at hl 0 rfl) ?_
    refine lv_ifnonnull (tgt := 14) hx hb d_FR_fault_7 (by decide) ?_
    refine lv_aload_n hx hb d_FR_fault_14 rfl (lv_at hl 1 rfl) ?_
    refine va_get (D := D) (ci := 2) (v := .ref vo) (C := "FieldRows") (T := F_FR) (N := 4) hx hb hts ku_FR hown hE.1 hP 0 rfl rfl 3 (by decide) (hts _ q1_211) (fun _ h9 => h9) rfl d_FR_fault_15 ?_
    refine lv_aload_n hx hb d_FR_fault_18 rfl (lv_at hl 0 rfl) ?_
    refine kf_kc (wr := [(x, .inr (2, [.ref r0, .ref r1, .ref tr, .ref vo])), (r0, .inr (0, [.ref b0])), (b0, .inl (cB, 1024, .inl f0)), (tr, .inr (0, [.ref bt])), (bt, .inl (cB, 1024, .inl u.1))]) (w1 := [(vo, .inr (1, [.long (lN (ky_le f1 0 4)), .long (lN (ky_le f1 4 4)), .long (lN (ky_le f1 20 4)), .long (lN (ky_le f1 24 4)), .long (kv_size f1), .long (lN (ky_le f1 32 4)), .long (lN (ky_le f1 40 4)), .long (lN (ky_le f1 88 2)), .int (kv_few f1), .long (kv_gc f1), .long (kv_cb f1), .long (kv_rk f1)])), (r1, .inr (0, [.ref b1])), (b1, .inl (cB, 1024, .inl f1))]) (ws2 := [(x, .inr (2, [.ref r0, .ref r1, .ref tr, .ref vo])), (r0, .inr (0, [.ref b0])), (b0, .inl (cB, 1024, .inl f0)), (r1, .inr (0, [.ref b1])), (b1, .inl (cB, 1024, .inl f1)), (tr, .inr (0, [.ref bt])), (bt, .inl (cB, 1024, .inl u.1)), (vo, .inr (1, [.long (lN (ky_le f1 0 4)), .long (lN (ky_le f1 4 4)), .long (lN (ky_le f1 20 4)), .long (lN (ky_le f1 24 4)), .long (kv_size f1), .long (lN (ky_le f1 32 4)), .long (lN (ky_le f1 40 4)), .long (lN (ky_le f1 88 2)), .int (kv_few f1), .long (kv_gc f1), .long (kv_cb f1), .long (kv_rk f1)]))]) hP hD hS hA [7, 3, 4] [0, 1, 2, 5, 6] [0, 1, 2, 6, 7, 3, 4, 5] rfl rfl rfl (by decide) rfl rfl (va_runV (As := [.ref r1]) (rest := []) ⟨hx, hb, hml, hown, hts⟩ (c_Vol_firstFaultOf l D cB cI _ vo (u.2.1 0) (u.2.1 1) (u.2.1 2) (u.2.1 3) (u.2.1 4) (u.2.1 5) (u.2.1 6) (u.2.1 7) u.2.2 (u.2.1 9) (u.2.1 10) (u.2.1 11) r1 b1 f1) ⟨callB_of 1 hts g_Vol_firstFaultOf rfl rfl rfl (hts _ q1_3) (hts _ q1_122) h_Vol_firstFaultOf ⟨Nat.le_of_ble_eq_true rfl, Nat.le_of_ble_eq_true rfl⟩, (hts _ q1_123), (hts _ q1_124)⟩ ⟨kf_bl, va_recv hE.1 hP (ci := 1) (q0 := 7) rfl rfl, kf_to hP hD hS hA hE [7, 3, 4] rfl rfl⟩ rfl rfl hl.1 rfl (lv_room (Nat.le_of_ble_eq_true rfl)) d_FR_fault_19 ⟨Nat.zero_le _, Nat.zero_le _⟩) (fun H locs hP hD hS => ?_)
    refine W.eq (g2 := F0 m 22 ls [.int (kv_fault f1)]) rfl ?_
    exact kf_irB hx hb hr hlocks (kx_at hP hD) hS (by rw [if_neg (by decide), if_pos rfl]) d_FR_fault_22
  · refine lv_aload_n hx hb d_FR_fault_0 rfl (lv_at hl 0 rfl) ?_
    refine lv_iload_n hx hb d_FR_fault_1 rfl (lv_at hl 1 rfl) ?_
    refine kf_ro hP hD hS hA [0] rfl (va_runV (As := [.int p1]) (rest := []) ⟨hx, hb, hml, hown, hts⟩ (c_FR_rowOf_n l D cB cI _ x r0 r1 tr vo p1 hn0 hn1) ⟨callB_of 1 hts g_FR_rowOf rfl rfl rfl (hts _ q1_1) (hts _ q1_226) h_FR_rowOf ⟨Nat.le_of_ble_eq_true rfl, Nat.le_of_ble_eq_true rfl⟩, (hts _ q1_228), (hts _ q0_6)⟩ ⟨kf_bl, va_recv hE.1 hP (ci := 2) (q0 := 0) rfl rfl, kf_to hP hD hS hA hE [0] rfl rfl⟩ rfl rfl hl.1 rfl (lv_room (Nat.le_of_ble_eq_true rfl)) d_FR_fault_2 ⟨Nat.zero_le _, Nat.zero_le _⟩) (fun H locs hP hS => ?_)
    refine W.eq (g2 := F0 m 5 ls [.null]) rfl ?_
    refine lv_astore_nN (lv' := [(2, .null), (0, .ref x), (1, .int p1)]) hx hb d_FR_fault_5 rfl hl (by decide) rfl (fun ls hl => ?_)
    refine lv_aload_nN hx hb d_FR_fault_6 rfl (lv_at hl 0 rfl) ?_
    refine lv_ifnonnullN hx hb d_FR_fault_7 ?_
    refine lv_iconst (v := -1) hx hb d_FR_fault_10 (by decide) ?_
    refine lv_goto (tgt := 22) hx hb d_FR_fault_11 (by decide) ?_
    exact kf_irB hx hb hr hlocks (kx_at hP hD) hS (by rw [if_neg hn0, if_neg hn1]) d_FR_fault_22

set_option maxRecDepth 100000 in
set_option maxHeartbeats 4000000 in
theorem c_FR_copy (l : Launch) (D : va_G) (cB cI : ClassId) (hz : Nat) (x : Nat) (r0 : Nat) (b0 : Nat) (r1 : Nat) (b1 : Nat) (tr : Nat) (bt : Nat) (vo : Nat) (f0 : Nat → Int32) (f1 : Nat → Int32) (u : (Nat → Int32) × (Nat → Int64) × Int32) (p1 : Int32) : kf_Ct l y_FR_copy w_FR_copy 6 131 0 0 D (kT cB cI) [.ref x, .int p1] [(x, .inr (2, [.ref r0, .ref r1, .ref tr, .ref vo])), (r0, .inr (0, [.ref b0])), (b0, .inl (cB, 1024, .inl f0)), (r1, .inr (0, [.ref b1])), (b1, .inl (cB, 1024, .inl f1)), (tr, .inr (0, [.ref bt])), (bt, .inl (cB, 1024, .inl u.1)), (vo, .inr (1, [.long (u.2.1 0), .long (u.2.1 1), .long (u.2.1 2), .long (u.2.1 3), .long (u.2.1 4), .long (u.2.1 5), .long (u.2.1 6), .long (u.2.1 7), .int u.2.2, .long (u.2.1 9), .long (u.2.1 10), .long (u.2.1 11)]))] hz (some (.int (if kr_grP f0 p1 ∧ ky_hcP (kv_few f0) p1.toInt64 then 0 else -1))) (kx_FR D cB x r0 b0 r1 b1 tr bt vo f0 (if kr_grP f0 p1 ∧ ky_hcP (kv_few f0) p1.toInt64 then ky_wr (ky_cp f1 f0 1024) 90 p1.toInt64 2 else f1)) := by
  refine kf_of (cc := b_FR_copy) (maxL := 2) (ret := (some .int)) (by decide) rfl (Nat.le_of_ble_eq_true rfl) ?_
  intro p e s m below meth c A H locs hx hb hr hml hown hts hlocks hin hP hD hS hA hE ls hl
  have hl : lv_has ls 2 [(0, .ref x), (1, .int p1)] := hl
  refine lv_aload_n hx hb d_FR_copy_0 rfl (lv_at hl 0 rfl) ?_
  refine lv_iload_n hx hb d_FR_copy_1 rfl (lv_at hl 1 rfl) ?_
  refine kf_kc (wr := []) (w1 := [(x, .inr (2, [.ref r0, .ref r1, .ref tr, .ref vo])), (r0, .inr (0, [.ref b0])), (b0, .inl (cB, 1024, .inl f0)), (r1, .inr (0, [.ref b1])), (b1, .inl (cB, 1024, .inl f1)), (tr, .inr (0, [.ref bt])), (bt, .inl (cB, 1024, .inl u.1)), (vo, .inr (1, [.long (lN (ky_le f0 0 4)), .long (lN (ky_le f0 4 4)), .long (lN (ky_le f0 20 4)), .long (lN (ky_le f0 24 4)), .long (kv_size f0), .long (lN (ky_le f0 32 4)), .long (lN (ky_le f0 40 4)), .long (lN (ky_le f0 88 2)), .int (kv_few f0), .long (kv_gc f0), .long (kv_cb f0), .long (kv_rk f0)]))]) (ws2 := [(x, .inr (2, [.ref r0, .ref r1, .ref tr, .ref vo])), (r0, .inr (0, [.ref b0])), (b0, .inl (cB, 1024, .inl f0)), (r1, .inr (0, [.ref b1])), (b1, .inl (cB, 1024, .inl f1)), (tr, .inr (0, [.ref bt])), (bt, .inl (cB, 1024, .inl u.1)), (vo, .inr (1, [.long (lN (ky_le f0 0 4)), .long (lN (ky_le f0 4 4)), .long (lN (ky_le f0 20 4)), .long (lN (ky_le f0 24 4)), .long (kv_size f0), .long (lN (ky_le f0 32 4)), .long (lN (ky_le f0 40 4)), .long (lN (ky_le f0 88 2)), .int (kv_few f0), .long (kv_gc f0), .long (kv_cb f0), .long (kv_rk f0)]))]) hP hD hS hA [0, 1, 2, 3, 4, 5, 6, 7] [] [0, 1, 2, 3, 4, 5, 6, 7] rfl rfl rfl (by decide) rfl rfl (va_runV (As := [.int p1]) (rest := []) ⟨hx, hb, hml, hown, hts⟩ (c_FR_isGroupOfRightRow l D cB cI _ x r0 b0 r1 b1 tr bt vo f0 f1 u p1) ⟨callB_of 1 hts g_FR_isGroupOfRightRow rfl rfl rfl (hts _ q1_1) (hts _ q2_9) h_FR_isGroupOfRightRow ⟨Nat.le_of_ble_eq_true rfl, Nat.le_of_ble_eq_true rfl⟩, (hts _ q2_11), (hts _ q0_7)⟩ ⟨kf_bl, va_recv hE.1 hP (ci := 2) (q0 := 0) rfl rfl, kf_to hP hD hS hA hE [0, 1, 2, 3, 4, 5, 6, 7] rfl rfl⟩ rfl rfl hl.1 rfl (lv_room (Nat.le_of_ble_eq_true rfl)) d_FR_copy_2 ⟨Nat.zero_le _, Nat.zero_le _⟩) (fun H locs hP hD hS => ?_)
  refine W.eq (g2 := F0 m 5 ls [.int (kP (kr_grP f0 p1))]) rfl ?_
  refine lv_if_eq (tgt := 20) hx hb d_FR_copy_5 (by decide) (fun c5 => ?_) (fun c5 => ?_)
  · refine lv_iconst (v := -1) hx hb d_FR_copy_20 (by decide) ?_
    have hq : ¬ (kr_grP f0 p1 ∧ ky_hcP (kv_few f0) p1.toInt64) := fun q => kP_eq c5 q.1
    simp only [if_neg hq]
    exact kf_irB hx hb hr hlocks (kx_at hP hD) hS (rfl) d_FR_copy_21
  · refine lv_aload_n hx hb d_FR_copy_8 rfl (lv_at hl 0 rfl) ?_
    refine va_get (D := D) (ci := 2) (v := .ref vo) (C := "FieldRows") (T := F_FR) (N := 4) hx hb hts ku_FR hown hE.1 hP 0 rfl rfl 3 (by decide) (hts _ q1_211) (fun _ h9 => h9) rfl d_FR_copy_9 ?_
    refine lv_iload_n hx hb d_FR_copy_12 rfl (lv_at hl 1 rfl) ?_
    refine lv_i2l hx hb d_FR_copy_13 rfl ?_
    refine kf_ro hP hD hS hA [7] rfl (va_runV (As := [.long p1.toInt64]) (rest := []) ⟨hx, hb, hml, hown, hts⟩ (c_Vol_hasCopy l D cB cI _ vo (lN (ky_le f0 0 4)) (lN (ky_le f0 4 4)) (lN (ky_le f0 20 4)) (lN (ky_le f0 24 4)) (kv_size f0) (lN (ky_le f0 32 4)) (lN (ky_le f0 40 4)) (lN (ky_le f0 88 2)) (kv_few f0) (kv_gc f0) (kv_cb f0) (kv_rk f0) p1.toInt64) ⟨callB_of 1 hts g_Vol_hasCopy rfl rfl rfl (hts _ q1_3) (hts _ q2_13) h_Vol_hasCopy ⟨Nat.le_of_ble_eq_true rfl, Nat.le_of_ble_eq_true rfl⟩, (hts _ q1_177), (hts _ q1_178)⟩ ⟨kf_bl, va_recv hE.1 hP (ci := 1) (q0 := 7) rfl rfl, kf_to hP hD hS hA hE [7] rfl rfl⟩ rfl rfl hl.1 rfl (lv_room (Nat.le_of_ble_eq_true rfl)) d_FR_copy_14 ⟨Nat.zero_le _, Nat.zero_le _⟩) (fun H locs hP hS => ?_)
    refine W.eq (g2 := F0 m 17 ls [.int (kP (ky_hcP (kv_few f0) p1.toInt64))]) rfl ?_
    refine lv_if_ne (tgt := 22) hx hb d_FR_copy_17 (by decide) (fun c17 => ?_) (fun c17 => ?_)
    · refine lv_aload_n hx hb d_FR_copy_22 rfl (lv_at hl 0 rfl) ?_
      refine va_get (D := D) (ci := 2) (v := .ref r1) (C := "FieldRows") (T := F_FR) (N := 4) hx hb hts ku_FR hown hE.1 hP 0 rfl rfl 1 (by decide) (hts _ q1_209) (fun _ h9 => h9) rfl d_FR_copy_23 ?_
      refine lv_aload_n hx hb d_FR_copy_26 rfl (lv_at hl 0 rfl) ?_
      refine va_get (D := D) (ci := 2) (v := .ref r0) (C := "FieldRows") (T := F_FR) (N := 4) hx hb hts ku_FR hown hE.1 hP 0 rfl rfl 0 (by decide) (hts _ q1_208) (fun _ h9 => h9) rfl d_FR_copy_27 ?_
      refine kf_kc (wr := [(x, .inr (2, [.ref r0, .ref r1, .ref tr, .ref vo])), (tr, .inr (0, [.ref bt])), (bt, .inl (cB, 1024, .inl u.1)), (vo, .inr (1, [.long (lN (ky_le f0 0 4)), .long (lN (ky_le f0 4 4)), .long (lN (ky_le f0 20 4)), .long (lN (ky_le f0 24 4)), .long (kv_size f0), .long (lN (ky_le f0 32 4)), .long (lN (ky_le f0 40 4)), .long (lN (ky_le f0 88 2)), .int (kv_few f0), .long (kv_gc f0), .long (kv_cb f0), .long (kv_rk f0)]))]) (w1 := [(r1, .inr (0, [.ref b1])), (b1, .inl (cB, 1024, .inl (ky_cp f1 f0 1024))), (r0, .inr (0, [.ref b0])), (b0, .inl (cB, 1024, .inl f0))]) (ws2 := [(x, .inr (2, [.ref r0, .ref r1, .ref tr, .ref vo])), (r0, .inr (0, [.ref b0])), (b0, .inl (cB, 1024, .inl f0)), (r1, .inr (0, [.ref b1])), (b1, .inl (cB, 1024, .inl (ky_cp f1 f0 1024))), (tr, .inr (0, [.ref bt])), (bt, .inl (cB, 1024, .inl u.1)), (vo, .inr (1, [.long (lN (ky_le f0 0 4)), .long (lN (ky_le f0 4 4)), .long (lN (ky_le f0 20 4)), .long (lN (ky_le f0 24 4)), .long (kv_size f0), .long (lN (ky_le f0 32 4)), .long (lN (ky_le f0 40 4)), .long (lN (ky_le f0 88 2)), .int (kv_few f0), .long (kv_gc f0), .long (kv_cb f0), .long (kv_rk f0)]))]) hP hD hS hA [3, 4, 1, 2] [0, 5, 6, 7] [0, 6, 7, 4, 5, 1, 2, 3] rfl rfl rfl (by decide) rfl rfl (va_runV (As := [.ref r0]) (rest := []) ⟨hx, hb, hml, hown, hts⟩ (c_Row_takeAll l D cB cI _ r1 b1 f1 r0 b0 f0) ⟨callB_of 1 hts g_Row_takeAll rfl rfl rfl (hts _ q1_2) (hts _ q1_204) h_Row_takeAll ⟨Nat.le_of_ble_eq_true rfl, Nat.le_of_ble_eq_true rfl⟩, (hts _ q1_205), (hts _ q1_206)⟩ ⟨kf_bl, va_recv hE.1 hP (ci := 0) (q0 := 3) rfl rfl, kf_to hP hD hS hA hE [3, 4, 1, 2] rfl rfl⟩ rfl rfl hl.1 rfl (lv_room (Nat.le_of_ble_eq_true rfl)) d_FR_copy_30 ⟨Nat.zero_le _, Nat.zero_le _⟩) (fun H locs hP hD hS => ?_)
      refine W.eq (g2 := F0 m 33 ls []) rfl ?_
      refine lv_aload_n hx hb d_FR_copy_33 rfl (lv_at hl 0 rfl) ?_
      refine va_get (D := D) (ci := 2) (v := .ref r1) (C := "FieldRows") (T := F_FR) (N := 4) hx hb hts ku_FR hown hE.1 hP 0 rfl rfl 1 (by decide) (hts _ q1_209) (fun _ h9 => h9) rfl d_FR_copy_34 ?_
      refine lv_bipush (v := 90) hx hb d_FR_copy_37 (by decide) ?_
      refine lv_iconst (v := 2) hx hb d_FR_copy_39 (by decide) ?_
      refine lv_iload_n hx hb d_FR_copy_40 rfl (lv_at hl 1 rfl) ?_
      refine lv_i2l hx hb d_FR_copy_41 rfl ?_
      refine kf_kc (wr := [(x, .inr (2, [.ref r0, .ref r1, .ref tr, .ref vo])), (r0, .inr (0, [.ref b0])), (b0, .inl (cB, 1024, .inl f0)), (tr, .inr (0, [.ref bt])), (bt, .inl (cB, 1024, .inl u.1)), (vo, .inr (1, [.long (lN (ky_le f0 0 4)), .long (lN (ky_le f0 4 4)), .long (lN (ky_le f0 20 4)), .long (lN (ky_le f0 24 4)), .long (kv_size f0), .long (lN (ky_le f0 32 4)), .long (lN (ky_le f0 40 4)), .long (lN (ky_le f0 88 2)), .int (kv_few f0), .long (kv_gc f0), .long (kv_cb f0), .long (kv_rk f0)]))]) (w1 := [(r1, .inr (0, [.ref b1])), (b1, .inl (cB, 1024, .inl (ky_wr (ky_cp f1 f0 1024) 90 p1.toInt64 2)))]) (ws2 := [(x, .inr (2, [.ref r0, .ref r1, .ref tr, .ref vo])), (r0, .inr (0, [.ref b0])), (b0, .inl (cB, 1024, .inl f0)), (r1, .inr (0, [.ref b1])), (b1, .inl (cB, 1024, .inl (ky_wr (ky_cp f1 f0 1024) 90 p1.toInt64 2))), (tr, .inr (0, [.ref bt])), (bt, .inl (cB, 1024, .inl u.1)), (vo, .inr (1, [.long (lN (ky_le f0 0 4)), .long (lN (ky_le f0 4 4)), .long (lN (ky_le f0 20 4)), .long (lN (ky_le f0 24 4)), .long (kv_size f0), .long (lN (ky_le f0 32 4)), .long (lN (ky_le f0 40 4)), .long (lN (ky_le f0 88 2)), .int (kv_few f0), .long (kv_gc f0), .long (kv_cb f0), .long (kv_rk f0)]))]) hP hD hS hA [3, 4] [0, 1, 2, 5, 6, 7] [0, 1, 2, 6, 7, 3, 4, 5] rfl rfl rfl (by decide) rfl rfl (va_runV (As := [.int 90, .int 2, .long p1.toInt64]) (rest := []) ⟨hx, hb, hml, hown, hts⟩ (c_Row_writeL l D cB cI _ r1 b1 (ky_cp f1 f0 1024) 90 2 p1.toInt64 (by decide) (by decide)) ⟨callB_of 3 hts g_Row_write rfl rfl rfl (hts _ q1_2) (hts _ q1_101) h_Row_write ⟨Nat.le_of_ble_eq_true rfl, Nat.le_of_ble_eq_true rfl⟩, (hts _ q1_89), (hts _ q1_90)⟩ ⟨kf_bl, va_recv hE.1 hP (ci := 0) (q0 := 3) rfl rfl, kf_to hP hD hS hA hE [3, 4] rfl rfl⟩ rfl rfl hl.1 rfl (lv_room (Nat.le_of_ble_eq_true rfl)) d_FR_copy_42 ⟨Nat.zero_le _, Nat.zero_le _⟩) (fun H locs hP hD hS => ?_)
      refine W.eq (g2 := F0 m 45 ls []) rfl ?_
      refine lv_iconst (v := 0) hx hb d_FR_copy_45 (by decide) ?_
      have hq : kr_grP f0 p1 ∧ ky_hcP (kv_few f0) p1.toInt64 := ⟨kP_ne c5, kP_ne c17⟩
      simp only [if_pos hq]
      exact kf_irB hx hb hr hlocks (kx_at hP hD) hS (rfl) d_FR_copy_46
    · refine lv_iconst (v := -1) hx hb d_FR_copy_20 (by decide) ?_
      have hq : ¬ (kr_grP f0 p1 ∧ ky_hcP (kv_few f0) p1.toInt64) := fun q => kP_eq c17 q.2
      simp only [if_neg hq]
      exact kf_irB hx hb hr hlocks (kx_at hP hD) hS (rfl) d_FR_copy_21

set_option maxRecDepth 100000 in
set_option maxHeartbeats 4000000 in
theorem c_FR_groups (l : Launch) (D : va_G) (cB cI : ClassId) (hz : Nat) (x : Nat) (r0 : Nat) (b0 : Nat) (r1 : Nat) (b1 : Nat) (tr : Nat) (bt : Nat) (vo : Nat) (f0 : Nat → Int32) (f1 : Nat → Int32) (u : (Nat → Int32) × (Nat → Int64) × Int32) : kf_Ct l y_FR_groups w_FR_groups 5 110 0 0 D (kT cB cI) [.ref x] [(x, .inr (2, [.ref r0, .ref r1, .ref tr, .ref vo])), (r0, .inr (0, [.ref b0])), (b0, .inl (cB, 1024, .inl f0)), (r1, .inr (0, [.ref b1])), (b1, .inl (cB, 1024, .inl f1)), (tr, .inr (0, [.ref bt])), (bt, .inl (cB, 1024, .inl u.1)), (vo, .inr (1, [.long (u.2.1 0), .long (u.2.1 1), .long (u.2.1 2), .long (u.2.1 3), .long (u.2.1 4), .long (u.2.1 5), .long (u.2.1 6), .long (u.2.1 7), .int u.2.2, .long (u.2.1 9), .long (u.2.1 10), .long (u.2.1 11)]))] hz (some (.int (if kv_fault f0 = -2 then (kv_gc f0).toInt32 else -1))) (kx_FR D cB x r0 b0 r1 b1 tr bt vo f0 f1) := by
  refine kf_of (cc := b_FR_groups) (maxL := 1) (ret := (some .int)) (by decide) rfl (Nat.le_of_ble_eq_true rfl) ?_
  intro p e s m below meth c A H locs hx hb hr hml hown hts hlocks hin hP hD hS hA hE ls hl
  have hl : lv_has ls 1 [(0, .ref x)] := hl
  refine lv_aload_n hx hb d_FR_groups_0 rfl (lv_at hl 0 rfl) ?_
  refine va_get (D := D) (ci := 2) (v := .ref vo) (C := "FieldRows") (T := F_FR) (N := 4) hx hb hts ku_FR hown hE.1 hP 0 rfl rfl 3 (by decide) (hts _ q1_211) (fun _ h9 => h9) rfl d_FR_groups_1 ?_
  refine lv_aload_n hx hb d_FR_groups_4 rfl (lv_at hl 0 rfl) ?_
  refine va_get (D := D) (ci := 2) (v := .ref r0) (C := "FieldRows") (T := F_FR) (N := 4) hx hb hts ku_FR hown hE.1 hP 0 rfl rfl 0 (by decide) (hts _ q1_208) (fun _ h9 => h9) rfl d_FR_groups_5 ?_
  refine kf_kc (wr := [(x, .inr (2, [.ref r0, .ref r1, .ref tr, .ref vo])), (r1, .inr (0, [.ref b1])), (b1, .inl (cB, 1024, .inl f1)), (tr, .inr (0, [.ref bt])), (bt, .inl (cB, 1024, .inl u.1))]) (w1 := [(vo, .inr (1, [.long (lN (ky_le f0 0 4)), .long (lN (ky_le f0 4 4)), .long (lN (ky_le f0 20 4)), .long (lN (ky_le f0 24 4)), .long (kv_size f0), .long (lN (ky_le f0 32 4)), .long (lN (ky_le f0 40 4)), .long (lN (ky_le f0 88 2)), .int (kv_few f0), .long (kv_gc f0), .long (kv_cb f0), .long (kv_rk f0)])), (r0, .inr (0, [.ref b0])), (b0, .inl (cB, 1024, .inl f0))]) (ws2 := [(x, .inr (2, [.ref r0, .ref r1, .ref tr, .ref vo])), (r0, .inr (0, [.ref b0])), (b0, .inl (cB, 1024, .inl f0)), (r1, .inr (0, [.ref b1])), (b1, .inl (cB, 1024, .inl f1)), (tr, .inr (0, [.ref bt])), (bt, .inl (cB, 1024, .inl u.1)), (vo, .inr (1, [.long (lN (ky_le f0 0 4)), .long (lN (ky_le f0 4 4)), .long (lN (ky_le f0 20 4)), .long (lN (ky_le f0 24 4)), .long (kv_size f0), .long (lN (ky_le f0 32 4)), .long (lN (ky_le f0 40 4)), .long (lN (ky_le f0 88 2)), .int (kv_few f0), .long (kv_gc f0), .long (kv_cb f0), .long (kv_rk f0)]))]) hP hD hS hA [7, 1, 2] [0, 3, 4, 5, 6] [0, 6, 7, 1, 2, 3, 4, 5] rfl rfl rfl (by decide) rfl rfl (va_runV (As := [.ref r0]) (rest := []) ⟨hx, hb, hml, hown, hts⟩ (c_Vol_firstFaultOf l D cB cI _ vo (u.2.1 0) (u.2.1 1) (u.2.1 2) (u.2.1 3) (u.2.1 4) (u.2.1 5) (u.2.1 6) (u.2.1 7) u.2.2 (u.2.1 9) (u.2.1 10) (u.2.1 11) r0 b0 f0) ⟨callB_of 1 hts g_Vol_firstFaultOf rfl rfl rfl (hts _ q1_3) (hts _ q1_122) h_Vol_firstFaultOf ⟨Nat.le_of_ble_eq_true rfl, Nat.le_of_ble_eq_true rfl⟩, (hts _ q1_123), (hts _ q1_124)⟩ ⟨kf_bl, va_recv hE.1 hP (ci := 1) (q0 := 7) rfl rfl, kf_to hP hD hS hA hE [7, 1, 2] rfl rfl⟩ rfl rfl hl.1 rfl (lv_room (Nat.le_of_ble_eq_true rfl)) d_FR_groups_8 ⟨Nat.zero_le _, Nat.zero_le _⟩) (fun H locs hP hD hS => ?_)
  refine W.eq (g2 := F0 m 11 ls [.int (kv_fault f0)]) rfl ?_
  refine lv_bipush (v := -2) hx hb d_FR_groups_11 (by decide) ?_
  refine lv_icmp_ne (tgt := 27) hx hb d_FR_groups_13 (by decide) (fun c13 => ?_) (fun c13 => ?_)
  · refine lv_iconst (v := -1) hx hb d_FR_groups_27 (by decide) ?_
    exact kf_irB hx hb hr hlocks (kx_at hP hD) hS (by rw [if_neg c13]) d_FR_groups_28
  · refine lv_aload_n hx hb d_FR_groups_16 rfl (lv_at hl 0 rfl) ?_
    refine va_get (D := D) (ci := 2) (v := .ref vo) (C := "FieldRows") (T := F_FR) (N := 4) hx hb hts ku_FR hown hE.1 hP 0 rfl rfl 3 (by decide) (hts _ q1_211) (fun _ h9 => h9) rfl d_FR_groups_17 ?_
    refine va_getN (D := D) (ci := 1) (v := .long (kv_gc f0)) (C := "FieldRows$Volume") (T := F_Vol) (N := 12) hx hb hts ku_Vol hown hE.1 hP 7 rfl rfl 9 (by decide) (va_Nw.use rfl (hE.2.1 _ q1_45)) (fun _ h9 => h9) rfl d_FR_groups_20 ?_
    refine lv_l2i hx hb d_FR_groups_23 rfl ?_
    refine lv_goto (tgt := 28) hx hb d_FR_groups_24 (by decide) ?_
    exact kf_irB hx hb hr hlocks (kx_at hP hD) hS (by rw [if_pos c13]) d_FR_groups_28

set_option maxRecDepth 100000 in
set_option maxHeartbeats 4000000 in
theorem c_FR_differs (l : Launch) (D : va_G) (cB cI : ClassId) (hz : Nat) (x : Nat) (r0 : Nat) (b0 : Nat) (r1 : Nat) (b1 : Nat) (tr : Nat) (bt : Nat) (vo : Nat) (f0 : Nat → Int32) (f1 : Nat → Int32) (u : (Nat → Int32) × (Nat → Int64) × Int32) : kf_Ct l y_FR_differs w_FR_differs 2 46 0 0 D (kT cB cI) [.ref x] [(x, .inr (2, [.ref r0, .ref r1, .ref tr, .ref vo])), (r0, .inr (0, [.ref b0])), (b0, .inl (cB, 1024, .inl f0)), (r1, .inr (0, [.ref b1])), (b1, .inl (cB, 1024, .inl f1)), (tr, .inr (0, [.ref bt])), (bt, .inl (cB, 1024, .inl u.1)), (vo, .inr (1, [.long (u.2.1 0), .long (u.2.1 1), .long (u.2.1 2), .long (u.2.1 3), .long (u.2.1 4), .long (u.2.1 5), .long (u.2.1 6), .long (u.2.1 7), .int u.2.2, .long (u.2.1 9), .long (u.2.1 10), .long (u.2.1 11)]))] hz (some (.int (kr_df f0 f1 1024))) (kx_FR D cB x r0 b0 r1 b1 tr bt vo f0 f1) := by
  refine kf_of (cc := b_FR_differs) (maxL := 2) (ret := (some .int)) (by decide) rfl (Nat.le_of_ble_eq_true rfl) ?_
  intro p e s m below meth c A H locs hx hb hr hml hown hts hlocks hin hP hD hS hA hE ls hl
  have hl : lv_has ls 2 [(0, .ref x)] := hl
  refine lv_iconst (v := 0) hx hb d_FR_differs_0 (by decide) ?_
  refine kf_ti (y := nI 0) (rfl) ?_
  refine lv_istore_n (lv' := [(1, .int (nI 0)), (0, .ref x)]) hx hb d_FR_differs_1 rfl hl (by decide) rfl (fun ls hl => ?_)
  refine kf_loop (σ := Nat) (fun k ls H locs => (k ≤ 1024) ∧ (kr_df f0 f1 1024 = kr_df f0 f1 (1024 - k)) ∧ lv_has ls 2 [(1, .int (nI k)), (0, .ref x)] ∧ va_P D vwCl [(x, .inr (2, [.ref r0, .ref r1, .ref tr, .ref vo])), (r0, .inr (0, [.ref b0])), (b0, .inl (cB, 1024, .inl f0)), (r1, .inr (0, [.ref b1])), (b1, .inl (cB, 1024, .inl f1)), (tr, .inr (0, [.ref bt])), (bt, .inl (cB, 1024, .inl u.1)), (vo, .inr (1, [.long (u.2.1 0), .long (u.2.1 1), .long (u.2.1 2), .long (u.2.1 3), .long (u.2.1 4), .long (u.2.1 5), .long (u.2.1 6), .long (u.2.1 7), .int u.2.2, .long (u.2.1 9), .long (u.2.1 10), .long (u.2.1 11)]))] H ∧ va_D A [(x, .inr (2, [.ref r0, .ref r1, .ref tr, .ref vo])), (r0, .inr (0, [.ref b0])), (b0, .inl (cB, 1024, .inl f0)), (r1, .inr (0, [.ref b1])), (b1, .inl (cB, 1024, .inl f1)), (tr, .inr (0, [.ref bt])), (bt, .inl (cB, 1024, .inl u.1)), (vo, .inr (1, [.long (u.2.1 0), .long (u.2.1 1), .long (u.2.1 2), .long (u.2.1 3), .long (u.2.1 4), .long (u.2.1 5), .long (u.2.1 6), .long (u.2.1 7), .int u.2.2, .long (u.2.1 9), .long (u.2.1 10), .long (u.2.1 11)]))] ∧ va_S A s.heap H locs) (fun k => 1024 - k) 0 ⟨Nat.zero_le _, rfl, lv_sub hl [0, 1] rfl, hP, hD, hS⟩ (fun k ls H locs hI ih => ?_)
  obtain ⟨hk, hq, hl, hP, hD, hS⟩ := hI
  rcases Nat.lt_or_ge k 1024 with hkn | hkn
  · refine lv_iload_n hx hb d_FR_differs_2 rfl (lv_at hl 0 rfl) ?_
    refine lv_sipush (v := 1024) hx hb d_FR_differs_3 (by decide) ?_
    refine lv_icmp_ge (tgt := 46) hx hb d_FR_differs_6 (by decide) (fun c6 => absurd c6 (nI_ge (a := k) (b := 1024) hkn (by decide))) (fun c6 => ?_)
    refine lv_aload_n hx hb d_FR_differs_9 rfl (lv_at hl 1 rfl) ?_
    refine va_get (D := D) (ci := 2) (v := .ref r0) (C := "FieldRows") (T := F_FR) (N := 4) hx hb hts ku_FR hown hE.1 hP 0 rfl rfl 0 (by decide) (hts _ q1_208) (fun _ h9 => h9) rfl d_FR_differs_10 ?_
    refine lv_iload_n hx hb d_FR_differs_13 rfl (lv_at hl 0 rfl) ?_
    refine lv_iconst (v := 1) hx hb d_FR_differs_14 (by decide) ?_
    refine kf_ro hP hD hS hA [1, 2] rfl (va_runV (As := [.int (nI k), .int 1]) (rest := []) ⟨hx, hb, hml, hown, hts⟩ (c_Row_fieldL l D cB cI _ r0 b0 f0 k 1 (by decide) (by omega)) ⟨callB_of 2 hts g_Row_field rfl rfl rfl (hts _ q1_2) (hts _ q1_231) h_Row_field ⟨Nat.le_of_ble_eq_true rfl, Nat.le_of_ble_eq_true rfl⟩, (hts _ q1_110), (hts _ q1_111)⟩ ⟨kf_bl, va_recv hE.1 hP (ci := 0) (q0 := 1) rfl rfl, kf_to hP hD hS hA hE [1, 2] rfl rfl⟩ rfl rfl hl.1 rfl (lv_room (Nat.le_of_ble_eq_true rfl)) d_FR_differs_15 ⟨Nat.zero_le _, Nat.zero_le _⟩) (fun H locs hP hS => ?_)
    refine W.eq (g2 := F0 m 18 ls [.long (lN (ky_le f0 k 1))]) rfl ?_
    refine lv_aload_n hx hb d_FR_differs_18 rfl (lv_at hl 1 rfl) ?_
    refine va_get (D := D) (ci := 2) (v := .ref r1) (C := "FieldRows") (T := F_FR) (N := 4) hx hb hts ku_FR hown hE.1 hP 0 rfl rfl 1 (by decide) (hts _ q1_209) (fun _ h9 => h9) rfl d_FR_differs_19 ?_
    refine lv_iload_n hx hb d_FR_differs_22 rfl (lv_at hl 0 rfl) ?_
    refine lv_iconst (v := 1) hx hb d_FR_differs_23 (by decide) ?_
    refine kf_ro hP hD hS hA [3, 4] rfl (va_runV (As := [.int (nI k), .int 1]) (rest := [.long (lN (ky_le f0 k 1))]) ⟨hx, hb, hml, hown, hts⟩ (c_Row_fieldL l D cB cI _ r1 b1 f1 k 1 (by decide) (by omega)) ⟨callB_of 2 hts g_Row_field rfl rfl rfl (hts _ q1_2) (hts _ q1_231) h_Row_field ⟨Nat.le_of_ble_eq_true rfl, Nat.le_of_ble_eq_true rfl⟩, (hts _ q1_110), (hts _ q1_111)⟩ ⟨kf_bl, va_recv hE.1 hP (ci := 0) (q0 := 3) rfl rfl, kf_to hP hD hS hA hE [3, 4] rfl rfl⟩ rfl rfl hl.1 rfl (lv_room (Nat.le_of_ble_eq_true rfl)) d_FR_differs_24 ⟨Nat.zero_le _, Nat.zero_le _⟩) (fun H locs hP hS => ?_)
    refine W.eq (g2 := F0 m 27 ls [.long (lN (ky_le f1 k 1)), .long (lN (ky_le f0 k 1))]) rfl ?_
    refine kf_lc_eq (tgt := 40) hx hb d_FR_differs_27 d_FR_differs_28 (by decide) (fun c27 => ?_) (fun c27 => ?_)
    · refine lv_iinc (v := nI (k + 1)) (lv' := [(1, .int (nI (k + 1))), (0, .ref x)]) hx hb d_FR_differs_40 hl (k := 0) rfl ((nI_succ k).symm) (by decide) rfl (fun ls hl => ?_)
      refine lv_goto (tgt := 2) hx hb d_FR_differs_43 (by decide) ?_
      exact ih (k + 1) _ _ _ (by omega) ⟨by omega, by rw [hq, show 1024 - k = (1024 - (k + 1)) + 1 by omega]; show (if lN (ky_le f0 (1023 - (1024 - (k + 1))) 1) = lN (ky_le f1 (1023 - (1024 - (k + 1))) 1) then _ else if kr_foP (nI (1023 - (1024 - (k + 1)))) then _ else _) = _; rw [show 1023 - (1024 - (k + 1)) = k by omega, if_pos c27], lv_sub hl [0, 1] rfl, hP, hD, hS⟩
    · refine lv_iload_n hx hb d_FR_differs_31 rfl (lv_at hl 0 rfl) ?_
      refine kf_ro hP hD hS hA [] rfl (va_runS (As := [.int (nI k)]) (rest := []) ⟨hx, hb, hml, hown, hts⟩ (c_FR_isFollowed l D cB cI _ (nI k)) ⟨callB_of 1 hts g_FR_isFollowed rfl rfl rfl (hts _ q1_1) (hts _ q2_18) h_FR_isFollowed ⟨Nat.le_of_ble_eq_true rfl, Nat.le_of_ble_eq_true rfl⟩, (hts _ q2_19)⟩ ⟨kf_bl, kf_to hP hD hS hA hE [] rfl rfl⟩ rfl rfl hl.1 rfl (lv_room (Nat.le_of_ble_eq_true rfl)) d_FR_differs_32 ⟨Nat.zero_le _, Nat.zero_le _⟩) (fun H locs hP hS => ?_)
      refine W.eq (g2 := F0 m 35 ls [.int (kP (kr_foP (nI k)))]) rfl ?_
      refine lv_if_eq (tgt := 40) hx hb d_FR_differs_35 (by decide) (fun c35 => ?_) (fun c35 => ?_)
      · refine lv_iinc (v := nI (k + 1)) (lv' := [(1, .int (nI (k + 1))), (0, .ref x)]) hx hb d_FR_differs_40 hl (k := 0) rfl ((nI_succ k).symm) (by decide) rfl (fun ls hl => ?_)
        refine lv_goto (tgt := 2) hx hb d_FR_differs_43 (by decide) ?_
        exact ih (k + 1) _ _ _ (by omega) ⟨by omega, by rw [hq, show 1024 - k = (1024 - (k + 1)) + 1 by omega]; show (if lN (ky_le f0 (1023 - (1024 - (k + 1))) 1) = lN (ky_le f1 (1023 - (1024 - (k + 1))) 1) then _ else if kr_foP (nI (1023 - (1024 - (k + 1)))) then _ else _) = _; rw [show 1023 - (1024 - (k + 1)) = k by omega, if_neg c27, if_neg (kP_eq c35)], lv_sub hl [0, 1] rfl, hP, hD, hS⟩
      · refine lv_iload_n hx hb d_FR_differs_38 rfl (lv_at hl 0 rfl) ?_
        exact kf_irB hx hb hr hlocks (kx_at hP hD) hS (by rw [hq, show 1024 - k = (1024 - (k + 1)) + 1 by omega]; show _ = (if lN (ky_le f0 (1023 - (1024 - (k + 1))) 1) = lN (ky_le f1 (1023 - (1024 - (k + 1))) 1) then _ else if kr_foP (nI (1023 - (1024 - (k + 1)))) then _ else _); rw [show 1023 - (1024 - (k + 1)) = k by omega, if_neg c27, if_pos (kP_ne c35)]) d_FR_differs_39
  · refine lv_iload_n hx hb d_FR_differs_2 rfl (lv_at hl 0 rfl) ?_
    refine lv_sipush (v := 1024) hx hb d_FR_differs_3 (by decide) ?_
    refine lv_icmp_ge (tgt := 46) hx hb d_FR_differs_6 (by decide) (fun c6 => ?_) (fun c6 => absurd (nI_le (a := 1024) (b := k) hkn (by omega)) c6)
    refine lv_bipush (v := -2) hx hb d_FR_differs_46 (by decide) ?_
    exact kf_irB hx hb hr hlocks (kx_at hP hD) hS (by rw [hq, show 1024 - k = 0 by omega]; rfl) d_FR_differs_48

set_option maxRecDepth 100000 in
set_option maxHeartbeats 4000000 in
theorem c_FR_where (l : Launch) (D : va_G) (cB cI : ClassId) (hz : Nat) (x : Nat) (r0 : Nat) (b0 : Nat) (r1 : Nat) (b1 : Nat) (tr : Nat) (bt : Nat) (vo : Nat) (f0 : Nat → Int32) (f1 : Nat → Int32) (u : (Nat → Int32) × (Nat → Int64) × Int32) (p1 : Int32) (p2 : Int32) : kf_Ct l y_FR_where w_FR_where 6 131 0 0 D (kT cB cI) [.ref x, .int p1, .int p2] [(x, .inr (2, [.ref r0, .ref r1, .ref tr, .ref vo])), (r0, .inr (0, [.ref b0])), (b0, .inl (cB, 1024, .inl f0)), (r1, .inr (0, [.ref b1])), (b1, .inl (cB, 1024, .inl f1)), (tr, .inr (0, [.ref bt])), (bt, .inl (cB, 1024, .inl u.1)), (vo, .inr (1, [.long (u.2.1 0), .long (u.2.1 1), .long (u.2.1 2), .long (u.2.1 3), .long (u.2.1 4), .long (u.2.1 5), .long (u.2.1 6), .long (u.2.1 7), .int u.2.2, .long (u.2.1 9), .long (u.2.1 10), .long (u.2.1 11)]))] hz (some (.int (kr_where f0 p1 p2))) (kx_FR D cB x r0 b0 r1 b1 tr bt vo f0 f1) := by
  refine kf_of (cc := b_FR_where) (maxL := 3) (ret := (some .int)) (by decide) rfl (Nat.le_of_ble_eq_true rfl) ?_
  intro p e s m below meth c A H locs hx hb hr hml hown hts hlocks hin hP hD hS hA hE ls hl
  have hl : lv_has ls 3 [(0, .ref x), (1, .int p1), (2, .int p2)] := hl
  refine lv_aload_n hx hb d_FR_where_0 rfl (lv_at hl 0 rfl) ?_
  refine lv_iload_n hx hb d_FR_where_1 rfl (lv_at hl 1 rfl) ?_
  refine kf_kc (wr := []) (w1 := [(x, .inr (2, [.ref r0, .ref r1, .ref tr, .ref vo])), (r0, .inr (0, [.ref b0])), (b0, .inl (cB, 1024, .inl f0)), (r1, .inr (0, [.ref b1])), (b1, .inl (cB, 1024, .inl f1)), (tr, .inr (0, [.ref bt])), (bt, .inl (cB, 1024, .inl u.1)), (vo, .inr (1, [.long (lN (ky_le f0 0 4)), .long (lN (ky_le f0 4 4)), .long (lN (ky_le f0 20 4)), .long (lN (ky_le f0 24 4)), .long (kv_size f0), .long (lN (ky_le f0 32 4)), .long (lN (ky_le f0 40 4)), .long (lN (ky_le f0 88 2)), .int (kv_few f0), .long (kv_gc f0), .long (kv_cb f0), .long (kv_rk f0)]))]) (ws2 := [(x, .inr (2, [.ref r0, .ref r1, .ref tr, .ref vo])), (r0, .inr (0, [.ref b0])), (b0, .inl (cB, 1024, .inl f0)), (r1, .inr (0, [.ref b1])), (b1, .inl (cB, 1024, .inl f1)), (tr, .inr (0, [.ref bt])), (bt, .inl (cB, 1024, .inl u.1)), (vo, .inr (1, [.long (lN (ky_le f0 0 4)), .long (lN (ky_le f0 4 4)), .long (lN (ky_le f0 20 4)), .long (lN (ky_le f0 24 4)), .long (kv_size f0), .long (lN (ky_le f0 32 4)), .long (lN (ky_le f0 40 4)), .long (lN (ky_le f0 88 2)), .int (kv_few f0), .long (kv_gc f0), .long (kv_cb f0), .long (kv_rk f0)]))]) hP hD hS hA [0, 1, 2, 3, 4, 5, 6, 7] [] [0, 1, 2, 3, 4, 5, 6, 7] rfl rfl rfl (by decide) rfl rfl (va_runV (As := [.int p1]) (rest := []) ⟨hx, hb, hml, hown, hts⟩ (c_FR_isGroupOfRightRow l D cB cI _ x r0 b0 r1 b1 tr bt vo f0 f1 u p1) ⟨callB_of 1 hts g_FR_isGroupOfRightRow rfl rfl rfl (hts _ q1_1) (hts _ q2_9) h_FR_isGroupOfRightRow ⟨Nat.le_of_ble_eq_true rfl, Nat.le_of_ble_eq_true rfl⟩, (hts _ q2_11), (hts _ q0_7)⟩ ⟨kf_bl, va_recv hE.1 hP (ci := 2) (q0 := 0) rfl rfl, kf_to hP hD hS hA hE [0, 1, 2, 3, 4, 5, 6, 7] rfl rfl⟩ rfl rfl hl.1 rfl (lv_room (Nat.le_of_ble_eq_true rfl)) d_FR_where_2 ⟨Nat.zero_le _, Nat.zero_le _⟩) (fun H locs hP hD hS => ?_)
  refine W.eq (g2 := F0 m 5 ls [.int (kP (kr_grP f0 p1))]) rfl ?_
  refine lv_if_ne (tgt := 10) hx hb d_FR_where_5 (by decide) (fun c5 => ?_) (fun c5 => ?_)
  · refine lv_iload_n hx hb d_FR_where_10 rfl (lv_at hl 2 rfl) ?_
    rcases ky_sw8 p2 with rfl | rfl | rfl | rfl | rfl | rfl | rfl | rfl | hw
    · refine lv_tableIn (off := 45) (tgt := 56) hx hb d_FR_where_11 (by decide) (by decide) (by decide) (by decide) ?_
      refine lv_aload_n hx hb d_FR_where_56 rfl (lv_at hl 0 rfl) ?_
      refine va_get (D := D) (ci := 2) (v := .ref vo) (C := "FieldRows") (T := F_FR) (N := 4) hx hb hts ku_FR hown hE.1 hP 0 rfl rfl 3 (by decide) (hts _ q1_211) (fun _ h9 => h9) rfl d_FR_where_57 ?_
      refine lv_iload_n hx hb d_FR_where_60 rfl (lv_at hl 1 rfl) ?_
      refine lv_i2l hx hb d_FR_where_61 rfl ?_
      refine kf_ro hP hD hS hA [7] rfl (va_runV (As := [.long p1.toInt64]) (rest := []) ⟨hx, hb, hml, hown, hts⟩ (c_Vol_groupStart l D cB cI _ vo (lN (ky_le f0 0 4)) (lN (ky_le f0 4 4)) (lN (ky_le f0 20 4)) (lN (ky_le f0 24 4)) (kv_size f0) (lN (ky_le f0 32 4)) (lN (ky_le f0 40 4)) (lN (ky_le f0 88 2)) (kv_few f0) (kv_gc f0) (kv_cb f0) (kv_rk f0) p1.toInt64) ⟨callB_of 1 hts g_Vol_groupStart rfl rfl rfl (hts _ q1_3) (hts _ q2_31) h_Vol_groupStart ⟨Nat.le_of_ble_eq_true rfl, Nat.le_of_ble_eq_true rfl⟩, (hts _ q1_162), (hts _ q1_163)⟩ ⟨kf_bl, va_recv hE.1 hP (ci := 1) (q0 := 7) rfl rfl, kf_to hP hD hS hA hE [7] rfl rfl⟩ rfl rfl hl.1 rfl (lv_room (Nat.le_of_ble_eq_true rfl)) d_FR_where_62 ⟨Nat.zero_le _, Nat.zero_le _⟩) (fun H locs hP hS => ?_)
      refine W.eq (g2 := F0 m 65 ls [.long ((lN (ky_le f0 20 4)) + p1.toInt64 * (lN (ky_le f0 32 4)))]) rfl ?_
      refine lv_l2i hx hb d_FR_where_65 rfl ?_
      exact kf_irB hx hb hr hlocks (kx_at hP hD) hS (by unfold kr_where; rw [if_neg (fun q => q (kP_ne c5)), if_pos rfl]) d_FR_where_66
    · refine lv_tableIn (off := 56) (tgt := 67) hx hb d_FR_where_11 (by decide) (by decide) (by decide) (by decide) ?_
      refine lv_aload_n hx hb d_FR_where_67 rfl (lv_at hl 0 rfl) ?_
      refine va_get (D := D) (ci := 2) (v := .ref vo) (C := "FieldRows") (T := F_FR) (N := 4) hx hb hts ku_FR hown hE.1 hP 0 rfl rfl 3 (by decide) (hts _ q1_211) (fun _ h9 => h9) rfl d_FR_where_68 ?_
      refine lv_iload_n hx hb d_FR_where_71 rfl (lv_at hl 1 rfl) ?_
      refine lv_i2l hx hb d_FR_where_72 rfl ?_
      refine kf_ro hP hD hS hA [7] rfl (va_runV (As := [.long p1.toInt64]) (rest := []) ⟨hx, hb, hml, hown, hts⟩ (c_Vol_groupLength l D cB cI _ vo (lN (ky_le f0 0 4)) (lN (ky_le f0 4 4)) (lN (ky_le f0 20 4)) (lN (ky_le f0 24 4)) (kv_size f0) (lN (ky_le f0 32 4)) (lN (ky_le f0 40 4)) (lN (ky_le f0 88 2)) (kv_few f0) (kv_gc f0) (kv_cb f0) (kv_rk f0) p1.toInt64) ⟨callB_of 1 hts g_Vol_groupLength rfl rfl rfl (hts _ q1_3) (hts _ q2_32) h_Vol_groupLength ⟨Nat.le_of_ble_eq_true rfl, Nat.le_of_ble_eq_true rfl⟩, (hts _ q1_158), (hts _ q1_159)⟩ ⟨kf_bl, va_recv hE.1 hP (ci := 1) (q0 := 7) rfl rfl, kf_to hP hD hS hA hE [7] rfl rfl⟩ rfl rfl hl.1 rfl (lv_room (Nat.le_of_ble_eq_true rfl)) d_FR_where_73 ⟨Nat.zero_le _, Nat.zero_le _⟩) (fun H locs hP hS => ?_)
      refine W.eq (g2 := F0 m 76 ls [.long (ky_min (lN (ky_le f0 32 4)) ((lN (ky_le f0 4 4)) - ((lN (ky_le f0 20 4)) + p1.toInt64 * (lN (ky_le f0 32 4)))))]) rfl ?_
      refine lv_l2i hx hb d_FR_where_76 rfl ?_
      exact kf_irB hx hb hr hlocks (kx_at hP hD) hS (by unfold kr_where; rw [if_neg (fun q => q (kP_ne c5)), if_neg (by decide), if_pos rfl]) d_FR_where_77
    · refine lv_tableIn (off := 67) (tgt := 78) hx hb d_FR_where_11 (by decide) (by decide) (by decide) (by decide) ?_
      refine lv_aload_n hx hb d_FR_where_78 rfl (lv_at hl 0 rfl) ?_
      refine va_get (D := D) (ci := 2) (v := .ref vo) (C := "FieldRows") (T := F_FR) (N := 4) hx hb hts ku_FR hown hE.1 hP 0 rfl rfl 3 (by decide) (hts _ q1_211) (fun _ h9 => h9) rfl d_FR_where_79 ?_
      refine lv_iload_n hx hb d_FR_where_82 rfl (lv_at hl 1 rfl) ?_
      refine lv_i2l hx hb d_FR_where_83 rfl ?_
      refine kf_ro hP hD hS hA [7] rfl (va_runV (As := [.long p1.toInt64]) (rest := []) ⟨hx, hb, hml, hown, hts⟩ (c_Vol_hasCopy l D cB cI _ vo (lN (ky_le f0 0 4)) (lN (ky_le f0 4 4)) (lN (ky_le f0 20 4)) (lN (ky_le f0 24 4)) (kv_size f0) (lN (ky_le f0 32 4)) (lN (ky_le f0 40 4)) (lN (ky_le f0 88 2)) (kv_few f0) (kv_gc f0) (kv_cb f0) (kv_rk f0) p1.toInt64) ⟨callB_of 1 hts g_Vol_hasCopy rfl rfl rfl (hts _ q1_3) (hts _ q2_13) h_Vol_hasCopy ⟨Nat.le_of_ble_eq_true rfl, Nat.le_of_ble_eq_true rfl⟩, (hts _ q1_177), (hts _ q1_178)⟩ ⟨kf_bl, va_recv hE.1 hP (ci := 1) (q0 := 7) rfl rfl, kf_to hP hD hS hA hE [7] rfl rfl⟩ rfl rfl hl.1 rfl (lv_room (Nat.le_of_ble_eq_true rfl)) d_FR_where_84 ⟨Nat.zero_le _, Nat.zero_le _⟩) (fun H locs hP hS => ?_)
      refine W.eq (g2 := F0 m 87 ls [.int (kP (ky_hcP (kv_few f0) p1.toInt64))]) rfl ?_
      refine lv_if_eq (tgt := 94) hx hb d_FR_where_87 (by decide) (fun c87 => ?_) (fun c87 => ?_)
      · refine lv_iconst (v := 0) hx hb d_FR_where_94 (by decide) ?_
        exact kf_irB hx hb hr hlocks (kx_at hP hD) hS (by unfold kr_where; rw [if_neg (fun q => q (kP_ne c5)), if_neg (by decide), if_neg (by decide), if_pos rfl, if_neg (kP_eq c87)]) d_FR_where_95
      · refine lv_iconst (v := 1) hx hb d_FR_where_90 (by decide) ?_
        refine lv_goto (tgt := 95) hx hb d_FR_where_91 (by decide) ?_
        exact kf_irB hx hb hr hlocks (kx_at hP hD) hS (by unfold kr_where; rw [if_neg (fun q => q (kP_ne c5)), if_neg (by decide), if_neg (by decide), if_pos rfl, if_pos (kP_ne c87)]) d_FR_where_95
    · refine lv_tableIn (off := 85) (tgt := 96) hx hb d_FR_where_11 (by decide) (by decide) (by decide) (by decide) ?_
      refine lv_aload_n hx hb d_FR_where_96 rfl (lv_at hl 0 rfl) ?_
      refine va_get (D := D) (ci := 2) (v := .ref vo) (C := "FieldRows") (T := F_FR) (N := 4) hx hb hts ku_FR hown hE.1 hP 0 rfl rfl 3 (by decide) (hts _ q1_211) (fun _ h9 => h9) rfl d_FR_where_97 ?_
      refine lv_iload_n hx hb d_FR_where_100 rfl (lv_at hl 1 rfl) ?_
      refine lv_i2l hx hb d_FR_where_101 rfl ?_
      refine kf_ro hP hD hS hA [7] rfl (va_runV (As := [.long p1.toInt64]) (rest := []) ⟨hx, hb, hml, hown, hts⟩ (c_Vol_blockBitmap l D cB cI _ vo (lN (ky_le f0 0 4)) (lN (ky_le f0 4 4)) (lN (ky_le f0 20 4)) (lN (ky_le f0 24 4)) (kv_size f0) (lN (ky_le f0 32 4)) (lN (ky_le f0 40 4)) (lN (ky_le f0 88 2)) (kv_few f0) (kv_gc f0) (kv_cb f0) (kv_rk f0) p1.toInt64) ⟨callB_of 1 hts g_Vol_blockBitmap rfl rfl rfl (hts _ q1_3) (hts _ q2_33) h_Vol_blockBitmap ⟨Nat.le_of_ble_eq_true rfl, Nat.le_of_ble_eq_true rfl⟩, (hts _ q2_34), (hts _ q2_35)⟩ ⟨kf_bl, va_recv hE.1 hP (ci := 1) (q0 := 7) rfl rfl, kf_to hP hD hS hA hE [7] rfl rfl⟩ rfl rfl hl.1 rfl (lv_room (Nat.le_of_ble_eq_true rfl)) d_FR_where_102 ⟨Nat.zero_le _, Nat.zero_le _⟩) (fun H locs hP hS => ?_)
      refine W.eq (g2 := F0 m 105 ls [.long ((lN (ky_le f0 20 4)) + p1.toInt64 * (lN (ky_le f0 32 4)) + ky_bc (kv_few f0) (kv_cb f0) p1.toInt64)]) rfl ?_
      refine lv_l2i hx hb d_FR_where_105 rfl ?_
      exact kf_irB hx hb hr hlocks (kx_at hP hD) hS (by unfold kr_where; rw [if_neg (fun q => q (kP_ne c5)), if_neg (by decide), if_neg (by decide), if_neg (by decide), if_pos rfl]) d_FR_where_106
    · refine lv_tableIn (off := 96) (tgt := 107) hx hb d_FR_where_11 (by decide) (by decide) (by decide) (by decide) ?_
      refine lv_aload_n hx hb d_FR_where_107 rfl (lv_at hl 0 rfl) ?_
      refine va_get (D := D) (ci := 2) (v := .ref vo) (C := "FieldRows") (T := F_FR) (N := 4) hx hb hts ku_FR hown hE.1 hP 0 rfl rfl 3 (by decide) (hts _ q1_211) (fun _ h9 => h9) rfl d_FR_where_108 ?_
      refine lv_iload_n hx hb d_FR_where_111 rfl (lv_at hl 1 rfl) ?_
      refine lv_i2l hx hb d_FR_where_112 rfl ?_
      refine kf_ro hP hD hS hA [7] rfl (va_runV (As := [.long p1.toInt64]) (rest := []) ⟨hx, hb, hml, hown, hts⟩ (c_Vol_fileBitmap l D cB cI _ vo (lN (ky_le f0 0 4)) (lN (ky_le f0 4 4)) (lN (ky_le f0 20 4)) (lN (ky_le f0 24 4)) (kv_size f0) (lN (ky_le f0 32 4)) (lN (ky_le f0 40 4)) (lN (ky_le f0 88 2)) (kv_few f0) (kv_gc f0) (kv_cb f0) (kv_rk f0) p1.toInt64) ⟨callB_of 1 hts g_Vol_fileBitmap rfl rfl rfl (hts _ q1_3) (hts _ q2_37) h_Vol_fileBitmap ⟨Nat.le_of_ble_eq_true rfl, Nat.le_of_ble_eq_true rfl⟩, (hts _ q2_38), (hts _ q2_39)⟩ ⟨kf_bl, va_recv hE.1 hP (ci := 1) (q0 := 7) rfl rfl, kf_to hP hD hS hA hE [7] rfl rfl⟩ rfl rfl hl.1 rfl (lv_room (Nat.le_of_ble_eq_true rfl)) d_FR_where_113 ⟨Nat.zero_le _, Nat.zero_le _⟩) (fun H locs hP hS => ?_)
      refine W.eq (g2 := F0 m 116 ls [.long ((lN (ky_le f0 20 4)) + p1.toInt64 * (lN (ky_le f0 32 4)) + ky_bc (kv_few f0) (kv_cb f0) p1.toInt64 + 1)]) rfl ?_
      refine lv_l2i hx hb d_FR_where_116 rfl ?_
      exact kf_irB hx hb hr hlocks (kx_at hP hD) hS (by unfold kr_where; rw [if_neg (fun q => q (kP_ne c5)), if_neg (by decide), if_neg (by decide), if_neg (by decide), if_neg (by decide), if_pos rfl]) d_FR_where_117
    · refine lv_tableIn (off := 107) (tgt := 118) hx hb d_FR_where_11 (by decide) (by decide) (by decide) (by decide) ?_
      refine lv_aload_n hx hb d_FR_where_118 rfl (lv_at hl 0 rfl) ?_
      refine va_get (D := D) (ci := 2) (v := .ref vo) (C := "FieldRows") (T := F_FR) (N := 4) hx hb hts ku_FR hown hE.1 hP 0 rfl rfl 3 (by decide) (hts _ q1_211) (fun _ h9 => h9) rfl d_FR_where_119 ?_
      refine lv_iload_n hx hb d_FR_where_122 rfl (lv_at hl 1 rfl) ?_
      refine lv_i2l hx hb d_FR_where_123 rfl ?_
      refine kf_ro hP hD hS hA [7] rfl (va_runV (As := [.long p1.toInt64]) (rest := []) ⟨hx, hb, hml, hown, hts⟩ (c_Vol_recordStart l D cB cI _ vo (lN (ky_le f0 0 4)) (lN (ky_le f0 4 4)) (lN (ky_le f0 20 4)) (lN (ky_le f0 24 4)) (kv_size f0) (lN (ky_le f0 32 4)) (lN (ky_le f0 40 4)) (lN (ky_le f0 88 2)) (kv_few f0) (kv_gc f0) (kv_cb f0) (kv_rk f0) p1.toInt64) ⟨callB_of 1 hts g_Vol_recordStart rfl rfl rfl (hts _ q1_3) (hts _ q2_42) h_Vol_recordStart ⟨Nat.le_of_ble_eq_true rfl, Nat.le_of_ble_eq_true rfl⟩, (hts _ q2_43), (hts _ q2_44)⟩ ⟨kf_bl, va_recv hE.1 hP (ci := 1) (q0 := 7) rfl rfl, kf_to hP hD hS hA hE [7] rfl rfl⟩ rfl rfl hl.1 rfl (lv_room (Nat.le_of_ble_eq_true rfl)) d_FR_where_124 ⟨Nat.zero_le _, Nat.zero_le _⟩) (fun H locs hP hS => ?_)
      refine W.eq (g2 := F0 m 127 ls [.long ((lN (ky_le f0 20 4)) + p1.toInt64 * (lN (ky_le f0 32 4)) + ky_bc (kv_few f0) (kv_cb f0) p1.toInt64 + 1 + 1)]) rfl ?_
      refine lv_l2i hx hb d_FR_where_127 rfl ?_
      exact kf_irB hx hb hr hlocks (kx_at hP hD) hS (by unfold kr_where; rw [if_neg (fun q => q (kP_ne c5)), if_neg (by decide), if_neg (by decide), if_neg (by decide), if_neg (by decide), if_neg (by decide), if_pos rfl]) d_FR_where_128
    · refine lv_tableIn (off := 118) (tgt := 129) hx hb d_FR_where_11 (by decide) (by decide) (by decide) (by decide) ?_
      refine lv_aload_n hx hb d_FR_where_129 rfl (lv_at hl 0 rfl) ?_
      refine va_get (D := D) (ci := 2) (v := .ref vo) (C := "FieldRows") (T := F_FR) (N := 4) hx hb hts ku_FR hown hE.1 hP 0 rfl rfl 3 (by decide) (hts _ q1_211) (fun _ h9 => h9) rfl d_FR_where_130 ?_
      refine va_getN (D := D) (ci := 1) (v := .long (kv_rk f0)) (C := "FieldRows$Volume") (T := F_Vol) (N := 12) hx hb hts ku_Vol hown hE.1 hP 7 rfl rfl 11 (by decide) (va_Nw.use rfl (hE.2.1 _ q1_48)) (fun _ h9 => h9) rfl d_FR_where_133 ?_
      refine lv_l2i hx hb d_FR_where_136 rfl ?_
      exact kf_irB hx hb hr hlocks (kx_at hP hD) hS (by unfold kr_where; rw [if_neg (fun q => q (kP_ne c5)), if_neg (by decide), if_neg (by decide), if_neg (by decide), if_neg (by decide), if_neg (by decide), if_neg (by decide), if_pos rfl]) d_FR_where_137
    · refine lv_tableIn (off := 127) (tgt := 138) hx hb d_FR_where_11 (by decide) (by decide) (by decide) (by decide) ?_
      refine lv_aload_n hx hb d_FR_where_138 rfl (lv_at hl 0 rfl) ?_
      refine va_get (D := D) (ci := 2) (v := .ref vo) (C := "FieldRows") (T := F_FR) (N := 4) hx hb hts ku_FR hown hE.1 hP 0 rfl rfl 3 (by decide) (hts _ q1_211) (fun _ h9 => h9) rfl d_FR_where_139 ?_
      refine lv_iload_n hx hb d_FR_where_142 rfl (lv_at hl 1 rfl) ?_
      refine lv_i2l hx hb d_FR_where_143 rfl ?_
      refine kf_ro hP hD hS hA [7] rfl (va_runV (As := [.long p1.toInt64]) (rest := []) ⟨hx, hb, hml, hown, hts⟩ (c_Vol_fixedBlocks l D cB cI _ vo (lN (ky_le f0 0 4)) (lN (ky_le f0 4 4)) (lN (ky_le f0 20 4)) (lN (ky_le f0 24 4)) (kv_size f0) (lN (ky_le f0 32 4)) (lN (ky_le f0 40 4)) (lN (ky_le f0 88 2)) (kv_few f0) (kv_gc f0) (kv_cb f0) (kv_rk f0) p1.toInt64) ⟨callB_of 1 hts g_Vol_fixedBlocks rfl rfl rfl (hts _ q1_3) (hts _ q2_47) h_Vol_fixedBlocks ⟨Nat.le_of_ble_eq_true rfl, Nat.le_of_ble_eq_true rfl⟩, (hts _ q1_169), (hts _ q1_170)⟩ ⟨kf_bl, va_recv hE.1 hP (ci := 1) (q0 := 7) rfl rfl, kf_to hP hD hS hA hE [7] rfl rfl⟩ rfl rfl hl.1 rfl (lv_room (Nat.le_of_ble_eq_true rfl)) d_FR_where_144 ⟨Nat.zero_le _, Nat.zero_le _⟩) (fun H locs hP hS => ?_)
      refine W.eq (g2 := F0 m 147 ls [.long (ky_bc (kv_few f0) (kv_cb f0) p1.toInt64 + 2 + (kv_rk f0))]) rfl ?_
      refine lv_l2i hx hb d_FR_where_147 rfl ?_
      exact kf_irB hx hb hr hlocks (kx_at hP hD) hS (by unfold kr_where; rw [if_neg (fun q => q (kP_ne c5)), if_neg (by decide), if_neg (by decide), if_neg (by decide), if_neg (by decide), if_neg (by decide), if_neg (by decide), if_neg (by decide), if_pos rfl]) d_FR_where_148
    · refine lv_tableOut (tgt := 149) hx hb d_FR_where_11 hw.1 (by decide) ?_
      refine lv_iconst (v := -1) hx hb d_FR_where_149 (by decide) ?_
      exact kf_irB hx hb hr hlocks (kx_at hP hD) hS (by unfold kr_where; rw [if_neg (fun q => q (kP_ne c5)), if_neg hw.2.1, if_neg hw.2.2.1, if_neg hw.2.2.2.1, if_neg hw.2.2.2.2.1, if_neg hw.2.2.2.2.2.1, if_neg hw.2.2.2.2.2.2.1, if_neg hw.2.2.2.2.2.2.2.1, if_neg hw.2.2.2.2.2.2.2.2]) d_FR_where_150
  · refine lv_iconst (v := -1) hx hb d_FR_where_8 (by decide) ?_
    exact kf_irB hx hb hr hlocks (kx_at hP hD) hS (by unfold kr_where; rw [if_pos (kP_eq c5)]) d_FR_where_9

set_option maxRecDepth 100000 in
set_option maxHeartbeats 4000000 in
theorem c_FR_record (l : Launch) (D : va_G) (cB cI : ClassId) (hz : Nat) (x : Nat) (r0 : Nat) (b0 : Nat) (r1 : Nat) (b1 : Nat) (tr : Nat) (bt : Nat) (vo : Nat) (f0 : Nat → Int32) (f1 : Nat → Int32) (u : (Nat → Int32) × (Nat → Int64) × Int32) (p1 : Int32) (p2 : Int32) : kf_Ct l y_FR_record w_FR_record 5 111 0 0 D (kT cB cI) [.ref x, .int p1, .int p2] [(x, .inr (2, [.ref r0, .ref r1, .ref tr, .ref vo])), (r0, .inr (0, [.ref b0])), (b0, .inl (cB, 1024, .inl f0)), (r1, .inr (0, [.ref b1])), (b1, .inl (cB, 1024, .inl f1)), (tr, .inr (0, [.ref bt])), (bt, .inl (cB, 1024, .inl u.1)), (vo, .inr (1, [.long (u.2.1 0), .long (u.2.1 1), .long (u.2.1 2), .long (u.2.1 3), .long (u.2.1 4), .long (u.2.1 5), .long (u.2.1 6), .long (u.2.1 7), .int u.2.2, .long (u.2.1 9), .long (u.2.1 10), .long (u.2.1 11)]))] hz (some (.int (kr_record f0 p1 p2))) (kx_FR D cB x r0 b0 r1 b1 tr bt vo f0 f1) := by
  refine kf_of (cc := b_FR_record) (maxL := 11) (ret := (some .int)) (by decide) rfl (Nat.le_of_ble_eq_true rfl) ?_
  intro p e s m below meth c A H locs hx hb hr hml hown hts hlocks hin hP hD hS hA hE ls hl
  have hl : lv_has ls 11 [(0, .ref x), (1, .int p1), (2, .int p2)] := hl
  refine lv_aload_n hx hb d_FR_record_0 rfl (lv_at hl 0 rfl) ?_
  refine va_get (D := D) (ci := 2) (v := .ref vo) (C := "FieldRows") (T := F_FR) (N := 4) hx hb hts ku_FR hown hE.1 hP 0 rfl rfl 3 (by decide) (hts _ q1_211) (fun _ h9 => h9) rfl d_FR_record_1 ?_
  refine lv_aload_n hx hb d_FR_record_4 rfl (lv_at hl 0 rfl) ?_
  refine va_get (D := D) (ci := 2) (v := .ref r0) (C := "FieldRows") (T := F_FR) (N := 4) hx hb hts ku_FR hown hE.1 hP 0 rfl rfl 0 (by decide) (hts _ q1_208) (fun _ h9 => h9) rfl d_FR_record_5 ?_
  refine kf_kc (wr := [(x, .inr (2, [.ref r0, .ref r1, .ref tr, .ref vo])), (r1, .inr (0, [.ref b1])), (b1, .inl (cB, 1024, .inl f1)), (tr, .inr (0, [.ref bt])), (bt, .inl (cB, 1024, .inl u.1))]) (w1 := [(vo, .inr (1, [.long (lN (ky_le f0 0 4)), .long (lN (ky_le f0 4 4)), .long (lN (ky_le f0 20 4)), .long (lN (ky_le f0 24 4)), .long (kv_size f0), .long (lN (ky_le f0 32 4)), .long (lN (ky_le f0 40 4)), .long (lN (ky_le f0 88 2)), .int (kv_few f0), .long (kv_gc f0), .long (kv_cb f0), .long (kv_rk f0)])), (r0, .inr (0, [.ref b0])), (b0, .inl (cB, 1024, .inl f0))]) (ws2 := [(x, .inr (2, [.ref r0, .ref r1, .ref tr, .ref vo])), (r0, .inr (0, [.ref b0])), (b0, .inl (cB, 1024, .inl f0)), (r1, .inr (0, [.ref b1])), (b1, .inl (cB, 1024, .inl f1)), (tr, .inr (0, [.ref bt])), (bt, .inl (cB, 1024, .inl u.1)), (vo, .inr (1, [.long (lN (ky_le f0 0 4)), .long (lN (ky_le f0 4 4)), .long (lN (ky_le f0 20 4)), .long (lN (ky_le f0 24 4)), .long (kv_size f0), .long (lN (ky_le f0 32 4)), .long (lN (ky_le f0 40 4)), .long (lN (ky_le f0 88 2)), .int (kv_few f0), .long (kv_gc f0), .long (kv_cb f0), .long (kv_rk f0)]))]) hP hD hS hA [7, 1, 2] [0, 3, 4, 5, 6] [0, 6, 7, 1, 2, 3, 4, 5] rfl rfl rfl (by decide) rfl rfl (va_runV (As := [.ref r0]) (rest := []) ⟨hx, hb, hml, hown, hts⟩ (c_Vol_firstFaultOf l D cB cI _ vo (u.2.1 0) (u.2.1 1) (u.2.1 2) (u.2.1 3) (u.2.1 4) (u.2.1 5) (u.2.1 6) (u.2.1 7) u.2.2 (u.2.1 9) (u.2.1 10) (u.2.1 11) r0 b0 f0) ⟨callB_of 1 hts g_Vol_firstFaultOf rfl rfl rfl (hts _ q1_3) (hts _ q1_122) h_Vol_firstFaultOf ⟨Nat.le_of_ble_eq_true rfl, Nat.le_of_ble_eq_true rfl⟩, (hts _ q1_123), (hts _ q1_124)⟩ ⟨kf_bl, va_recv hE.1 hP (ci := 1) (q0 := 7) rfl rfl, kf_to hP hD hS hA hE [7, 1, 2] rfl rfl⟩ rfl rfl hl.1 rfl (lv_room (Nat.le_of_ble_eq_true rfl)) d_FR_record_8 ⟨Nat.zero_le _, Nat.zero_le _⟩) (fun H locs hP hD hS => ?_)
  refine W.eq (g2 := F0 m 11 ls [.int (kv_fault f0)]) rfl ?_
  refine lv_bipush (v := -2) hx hb d_FR_record_11 (by decide) ?_
  refine lv_icmp_ne (tgt := 34) hx hb d_FR_record_13 (by decide) (fun c13 => ?_) (fun c13 => ?_)
  · refine lv_iconst (v := -1) hx hb d_FR_record_34 (by decide) ?_
    have hq : ¬ kv_fault f0 = -2 ∨ p1 < 1 ∨ ¬ p1.toInt64 ≤ lN (ky_le f0 0 4) := Or.inl c13
    exact kf_irB hx hb hr hlocks (kx_at hP hD) hS (by unfold kr_record; rw [if_pos hq]) d_FR_record_35
  · refine lv_iload_n hx hb d_FR_record_16 rfl (lv_at hl 1 rfl) ?_
    refine lv_iconst (v := 1) hx hb d_FR_record_17 (by decide) ?_
    refine lv_icmp_lt (tgt := 34) hx hb d_FR_record_18 (by decide) (fun c18 => ?_) (fun c18 => ?_)
    · refine lv_iconst (v := -1) hx hb d_FR_record_34 (by decide) ?_
      have hq : ¬ kv_fault f0 = -2 ∨ p1 < 1 ∨ ¬ p1.toInt64 ≤ lN (ky_le f0 0 4) := Or.inr (Or.inl c18)
      exact kf_irB hx hb hr hlocks (kx_at hP hD) hS (by unfold kr_record; rw [if_pos hq]) d_FR_record_35
    · refine lv_iload_n hx hb d_FR_record_21 rfl (lv_at hl 1 rfl) ?_
      refine lv_i2l hx hb d_FR_record_22 rfl ?_
      refine lv_aload_n hx hb d_FR_record_23 rfl (lv_at hl 0 rfl) ?_
      refine va_get (D := D) (ci := 2) (v := .ref vo) (C := "FieldRows") (T := F_FR) (N := 4) hx hb hts ku_FR hown hE.1 hP 0 rfl rfl 3 (by decide) (hts _ q1_211) (fun _ h9 => h9) rfl d_FR_record_24 ?_
      refine va_getN (D := D) (ci := 1) (v := .long (lN (ky_le f0 0 4))) (C := "FieldRows$Volume") (T := F_Vol) (N := 12) hx hb hts ku_Vol hown hE.1 hP 7 rfl rfl 0 (by decide) (va_Nw.use rfl (hE.2.1 _ q1_32)) (fun _ h9 => h9) rfl d_FR_record_27 ?_
      refine kf_lc_le (tgt := 36) hx hb d_FR_record_30 d_FR_record_31 (by decide) (fun c30 => ?_) (fun c30 => ?_)
      · refine lv_iload_n hx hb d_FR_record_36 rfl (lv_at hl 1 rfl) ?_
        refine lv_i2l hx hb d_FR_record_37 rfl ?_
        refine lv_lconst (v := 1) hx hb d_FR_record_38 (by decide) ?_
        refine lv_lsub hx hb d_FR_record_39 ?_
        refine lv_lstore_n (lv' := [(3, .long (p1.toInt64 - 1)), (0, .ref x), (1, .int p1), (2, .int p2)]) hx hb d_FR_record_40 rfl hl (by decide) rfl (fun ls hl => ?_)
        refine lv_lload_n hx hb d_FR_record_41 rfl (lv_at hl 0 rfl) ?_
        refine lv_aload_n hx hb d_FR_record_42 rfl (lv_at hl 1 rfl) ?_
        refine va_get (D := D) (ci := 2) (v := .ref vo) (C := "FieldRows") (T := F_FR) (N := 4) hx hb hts ku_FR hown hE.1 hP 0 rfl rfl 3 (by decide) (hts _ q1_211) (fun _ h9 => h9) rfl d_FR_record_43 ?_
        refine va_getN (D := D) (ci := 1) (v := .long (lN (ky_le f0 40 4))) (C := "FieldRows$Volume") (T := F_Vol) (N := 12) hx hb hts ku_Vol hown hE.1 hP 7 rfl rfl 6 (by decide) (va_Nw.use rfl (hE.2.1 _ q1_40)) (fun _ h9 => h9) rfl d_FR_record_46 ?_
        refine kf_ro hP hD hS hA [] rfl (va_runS (As := [.long (p1.toInt64 - 1), .long (lN (ky_le f0 40 4))]) (rest := []) ⟨hx, hb, hml, hown, hts⟩ (c_FR_quotient l D cB cI _ (p1.toInt64 - 1) (lN (ky_le f0 40 4))) ⟨callB_of 2 hts g_FR_quotient rfl rfl rfl (hts _ q1_1) (hts _ q1_118) h_FR_quotient ⟨Nat.le_of_ble_eq_true rfl, Nat.le_of_ble_eq_true rfl⟩, (hts _ q1_119)⟩ ⟨kf_bl, kf_to hP hD hS hA hE [] rfl rfl⟩ rfl rfl hl.1 rfl (lv_room (Nat.le_of_ble_eq_true rfl)) d_FR_record_49 ⟨Nat.zero_le _, Nat.zero_le _⟩) (fun H locs hP hS => ?_)
        refine W.eq (g2 := F0 m 52 ls [.long (ky_q (p1.toInt64 - 1) (lN (ky_le f0 40 4)))]) rfl ?_
        refine kf_tl (y := kr_g f0 p1) (rfl) ?_
        refine lv_lstore (lv' := [(5, .long (kr_g f0 p1)), (3, .long (p1.toInt64 - 1)), (0, .ref x), (1, .int p1), (2, .int p2)]) hx hb d_FR_record_52 hl (by decide) rfl (fun ls hl => ?_)
        refine lv_lload_n hx hb d_FR_record_54 rfl (lv_at hl 1 rfl) ?_
        refine lv_lload hx hb d_FR_record_55 (lv_at hl 0 rfl) ?_
        refine lv_aload_n hx hb d_FR_record_57 rfl (lv_at hl 2 rfl) ?_
        refine va_get (D := D) (ci := 2) (v := .ref vo) (C := "FieldRows") (T := F_FR) (N := 4) hx hb hts ku_FR hown hE.1 hP 0 rfl rfl 3 (by decide) (hts _ q1_211) (fun _ h9 => h9) rfl d_FR_record_58 ?_
        refine va_getN (D := D) (ci := 1) (v := .long (lN (ky_le f0 40 4))) (C := "FieldRows$Volume") (T := F_Vol) (N := 12) hx hb hts ku_Vol hown hE.1 hP 7 rfl rfl 6 (by decide) (va_Nw.use rfl (hE.2.1 _ q1_40)) (fun _ h9 => h9) rfl d_FR_record_61 ?_
        refine lv_lmul hx hb d_FR_record_64 ?_
        refine lv_lsub hx hb d_FR_record_65 ?_
        refine lv_aload_n hx hb d_FR_record_66 rfl (lv_at hl 2 rfl) ?_
        refine va_get (D := D) (ci := 2) (v := .ref vo) (C := "FieldRows") (T := F_FR) (N := 4) hx hb hts ku_FR hown hE.1 hP 0 rfl rfl 3 (by decide) (hts _ q1_211) (fun _ h9 => h9) rfl d_FR_record_67 ?_
        refine va_getN (D := D) (ci := 1) (v := .long (lN (ky_le f0 88 2))) (C := "FieldRows$Volume") (T := F_Vol) (N := 12) hx hb hts ku_Vol hown hE.1 hP 7 rfl rfl 7 (by decide) (va_Nw.use rfl (hE.2.1 _ q1_42)) (fun _ h9 => h9) rfl d_FR_record_70 ?_
        refine lv_lmul hx hb d_FR_record_73 ?_
        refine kf_tl (y := kr_by f0 p1) (rfl) ?_
        refine lv_lstore (lv' := [(7, .long (kr_by f0 p1)), (5, .long (kr_g f0 p1)), (3, .long (p1.toInt64 - 1)), (0, .ref x), (1, .int p1), (2, .int p2)]) hx hb d_FR_record_74 hl (by decide) rfl (fun ls hl => ?_)
        refine lv_lload hx hb d_FR_record_76 (lv_at hl 0 rfl) ?_
        refine lv_aload_n hx hb d_FR_record_78 rfl (lv_at hl 3 rfl) ?_
        refine va_get (D := D) (ci := 2) (v := .ref vo) (C := "FieldRows") (T := F_FR) (N := 4) hx hb hts ku_FR hown hE.1 hP 0 rfl rfl 3 (by decide) (hts _ q1_211) (fun _ h9 => h9) rfl d_FR_record_79 ?_
        refine va_getN (D := D) (ci := 1) (v := .long (kv_size f0)) (C := "FieldRows$Volume") (T := F_Vol) (N := 12) hx hb hts ku_Vol hown hE.1 hP 7 rfl rfl 4 (by decide) (va_Nw.use rfl (hE.2.1 _ q1_37)) (fun _ h9 => h9) rfl d_FR_record_82 ?_
        refine kf_ro hP hD hS hA [] rfl (va_runS (As := [.long (kr_by f0 p1), .long (kv_size f0)]) (rest := []) ⟨hx, hb, hml, hown, hts⟩ (c_FR_quotient l D cB cI _ (kr_by f0 p1) (kv_size f0)) ⟨callB_of 2 hts g_FR_quotient rfl rfl rfl (hts _ q1_1) (hts _ q1_118) h_FR_quotient ⟨Nat.le_of_ble_eq_true rfl, Nat.le_of_ble_eq_true rfl⟩, (hts _ q1_119)⟩ ⟨kf_bl, kf_to hP hD hS hA hE [] rfl rfl⟩ rfl rfl hl.1 rfl (lv_room (Nat.le_of_ble_eq_true rfl)) d_FR_record_85 ⟨Nat.zero_le _, Nat.zero_le _⟩) (fun H locs hP hS => ?_)
        refine W.eq (g2 := F0 m 88 ls [.long (ky_q (kr_by f0 p1) (kv_size f0))]) rfl ?_
        refine kf_tl (y := kr_bl f0 p1) (rfl) ?_
        refine lv_lstore (lv' := [(9, .long (kr_bl f0 p1)), (7, .long (kr_by f0 p1)), (5, .long (kr_g f0 p1)), (3, .long (p1.toInt64 - 1)), (0, .ref x), (1, .int p1), (2, .int p2)]) hx hb d_FR_record_88 hl (by decide) rfl (fun ls hl => ?_)
        refine lv_iload_n hx hb d_FR_record_90 rfl (lv_at hl 6 rfl) ?_
        refine lv_if_eq (tgt := 110) hx hb d_FR_record_91 (by decide) (fun c91 => ?_) (fun c91 => ?_)
        · refine lv_aload_n hx hb d_FR_record_110 rfl (lv_at hl 4 rfl) ?_
          refine va_get (D := D) (ci := 2) (v := .ref vo) (C := "FieldRows") (T := F_FR) (N := 4) hx hb hts ku_FR hown hE.1 hP 0 rfl rfl 3 (by decide) (hts _ q1_211) (fun _ h9 => h9) rfl d_FR_record_111 ?_
          refine lv_lload hx hb d_FR_record_114 (lv_at hl 2 rfl) ?_
          refine kf_ro hP hD hS hA [7] rfl (va_runV (As := [.long (kr_g f0 p1)]) (rest := []) ⟨hx, hb, hml, hown, hts⟩ (c_Vol_recordStart l D cB cI _ vo (lN (ky_le f0 0 4)) (lN (ky_le f0 4 4)) (lN (ky_le f0 20 4)) (lN (ky_le f0 24 4)) (kv_size f0) (lN (ky_le f0 32 4)) (lN (ky_le f0 40 4)) (lN (ky_le f0 88 2)) (kv_few f0) (kv_gc f0) (kv_cb f0) (kv_rk f0) (kr_g f0 p1)) ⟨callB_of 1 hts g_Vol_recordStart rfl rfl rfl (hts _ q1_3) (hts _ q2_42) h_Vol_recordStart ⟨Nat.le_of_ble_eq_true rfl, Nat.le_of_ble_eq_true rfl⟩, (hts _ q2_43), (hts _ q2_44)⟩ ⟨kf_bl, va_recv hE.1 hP (ci := 1) (q0 := 7) rfl rfl, kf_to hP hD hS hA hE [7] rfl rfl⟩ rfl rfl hl.1 rfl (lv_room (Nat.le_of_ble_eq_true rfl)) d_FR_record_116 ⟨Nat.zero_le _, Nat.zero_le _⟩) (fun H locs hP hS => ?_)
          refine W.eq (g2 := F0 m 119 ls [.long ((lN (ky_le f0 20 4)) + (kr_g f0 p1) * (lN (ky_le f0 32 4)) + ky_bc (kv_few f0) (kv_cb f0) (kr_g f0 p1) + 1 + 1)]) rfl ?_
          refine lv_lload hx hb d_FR_record_119 (lv_at hl 0 rfl) ?_
          refine lv_ladd hx hb d_FR_record_121 ?_
          refine lv_l2i hx hb d_FR_record_122 rfl ?_
          exact kf_irB hx hb hr hlocks (kx_at hP hD) hS (by unfold kr_record; rw [if_neg (fun q => q.elim (fun z => z c13) (fun z => z.elim c18 (fun y => y c30))), if_pos c91]) d_FR_record_123
        · refine lv_lload hx hb d_FR_record_94 (lv_at hl 1 rfl) ?_
          refine lv_lload hx hb d_FR_record_96 (lv_at hl 0 rfl) ?_
          refine lv_aload_n hx hb d_FR_record_98 rfl (lv_at hl 4 rfl) ?_
          refine va_get (D := D) (ci := 2) (v := .ref vo) (C := "FieldRows") (T := F_FR) (N := 4) hx hb hts ku_FR hown hE.1 hP 0 rfl rfl 3 (by decide) (hts _ q1_211) (fun _ h9 => h9) rfl d_FR_record_99 ?_
          refine va_getN (D := D) (ci := 1) (v := .long (kv_size f0)) (C := "FieldRows$Volume") (T := F_Vol) (N := 12) hx hb hts ku_Vol hown hE.1 hP 7 rfl rfl 4 (by decide) (va_Nw.use rfl (hE.2.1 _ q1_37)) (fun _ h9 => h9) rfl d_FR_record_102 ?_
          refine lv_lmul hx hb d_FR_record_105 ?_
          refine lv_lsub hx hb d_FR_record_106 ?_
          refine lv_goto (tgt := 122) hx hb d_FR_record_107 (by decide) ?_
          refine lv_l2i hx hb d_FR_record_122 rfl ?_
          exact kf_irB hx hb hr hlocks (kx_at hP hD) hS (by unfold kr_record; rw [if_neg (fun q => q.elim (fun z => z c13) (fun z => z.elim c18 (fun y => y c30))), if_neg c91]) d_FR_record_123
      · refine lv_iconst (v := -1) hx hb d_FR_record_34 (by decide) ?_
        have hq : ¬ kv_fault f0 = -2 ∨ p1 < 1 ∨ ¬ p1.toInt64 ≤ lN (ky_le f0 0 4) := Or.inr (Or.inr c30)
        exact kf_irB hx hb hr hlocks (kx_at hP hD) hS (by unfold kr_record; rw [if_pos hq]) d_FR_record_35

set_option maxRecDepth 100000 in
set_option maxHeartbeats 4000000 in
theorem c_FR_lay (l : Launch) (D : va_G) (cB cI : ClassId) (hz : Nat) (x : Nat) (r0 : Nat) (b0 : Nat) (r1 : Nat) (b1 : Nat) (tr : Nat) (bt : Nat) (vo : Nat) (f0 : Nat → Int32) (f1 : Nat → Int32) (u : (Nat → Int32) × (Nat → Int64) × Int32) (p1 : Int32) (p2 : Int32) (p3 : Int32) (p4 : Int32) (p5 : Int32) : kf_Ct l y_FR_lay w_FR_lay 5 110 0 0 D (kT cB cI) [.ref x, .int p1, .int p2, .int p3, .int p4, .int p5] [(x, .inr (2, [.ref r0, .ref r1, .ref tr, .ref vo])), (r0, .inr (0, [.ref b0])), (b0, .inl (cB, 1024, .inl f0)), (r1, .inr (0, [.ref b1])), (b1, .inl (cB, 1024, .inl f1)), (tr, .inr (0, [.ref bt])), (bt, .inl (cB, 1024, .inl u.1)), (vo, .inr (1, [.long (u.2.1 0), .long (u.2.1 1), .long (u.2.1 2), .long (u.2.1 3), .long (u.2.1 4), .long (u.2.1 5), .long (u.2.1 6), .long (u.2.1 7), .int u.2.2, .long (u.2.1 9), .long (u.2.1 10), .long (u.2.1 11)]))] hz (some (.int (if kl_P u.1 p1 p2 p3 p4 p5 then (kv_gc (kl_T u.1 p1 p2 p3 p4 p5)).toInt32 else -1))) (kx_FR D cB x r0 b0 r1 b1 tr bt vo (if kl_P u.1 p1 p2 p3 p4 p5 then ky_cp f0 (kl_T u.1 p1 p2 p3 p4 p5) 1024 else f0) (if kl_P u.1 p1 p2 p3 p4 p5 then ky_cp f1 (kl_T u.1 p1 p2 p3 p4 p5) 1024 else f1)) := by
  refine kf_of (cc := b_FR_lay) (maxL := 6) (ret := (some .int)) (by decide) rfl (Nat.le_of_ble_eq_true rfl) ?_
  intro p e s m below meth c A H locs hx hb hr hml hown hts hlocks hin hP hD hS hA hE ls hl
  have hl : lv_has ls 6 [(0, .ref x), (1, .int p1), (2, .int p2), (3, .int p3), (4, .int p4), (5, .int p5)] := hl
  refine lv_iload hx hb d_FR_lay_0 (lv_at hl 4 rfl) ?_
  refine lv_if_lt (tgt := 12) hx hb d_FR_lay_2 (by decide) (fun c2 => ?_) (fun c2 => ?_)
  · refine lv_iconst (v := -1) hx hb d_FR_lay_12 (by decide) ?_
    have hq : ¬ kl_P u.1 p1 p2 p3 p4 p5 := fun q => q.1 c2
    simp only [if_neg hq]
    exact kf_irB hx hb hr hlocks (kx_at hP hD) hS (rfl) d_FR_lay_13
  · refine lv_iload hx hb d_FR_lay_5 (lv_at hl 4 rfl) ?_
    refine lv_ldc (v := 65535) hx hb hown (hts _ q1_78) d_FR_lay_7 ?_
    refine lv_icmp_le (tgt := 14) hx hb d_FR_lay_9 (by decide) (fun c9 => ?_) (fun c9 => ?_)
    · refine lv_aload_n hx hb d_FR_lay_14 rfl (lv_at hl 0 rfl) ?_
      refine va_get (D := D) (ci := 2) (v := .ref tr) (C := "FieldRows") (T := F_FR) (N := 4) hx hb hts ku_FR hown hE.1 hP 0 rfl rfl 2 (by decide) (hts _ q1_210) (fun _ h9 => h9) rfl d_FR_lay_15 ?_
      refine kf_kc (wr := [(x, .inr (2, [.ref r0, .ref r1, .ref tr, .ref vo])), (r0, .inr (0, [.ref b0])), (b0, .inl (cB, 1024, .inl f0)), (r1, .inr (0, [.ref b1])), (b1, .inl (cB, 1024, .inl f1)), (vo, .inr (1, [.long (u.2.1 0), .long (u.2.1 1), .long (u.2.1 2), .long (u.2.1 3), .long (u.2.1 4), .long (u.2.1 5), .long (u.2.1 6), .long (u.2.1 7), .int u.2.2, .long (u.2.1 9), .long (u.2.1 10), .long (u.2.1 11)]))]) (w1 := [(tr, .inr (0, [.ref bt])), (bt, .inl (cB, 1024, .inl (ky_cp u.1 (fun _ => 0) 1024)))]) (ws2 := [(x, .inr (2, [.ref r0, .ref r1, .ref tr, .ref vo])), (r0, .inr (0, [.ref b0])), (b0, .inl (cB, 1024, .inl f0)), (r1, .inr (0, [.ref b1])), (b1, .inl (cB, 1024, .inl f1)), (tr, .inr (0, [.ref bt])), (bt, .inl (cB, 1024, .inl (ky_cp u.1 (fun _ => 0) 1024))), (vo, .inr (1, [.long (u.2.1 0), .long (u.2.1 1), .long (u.2.1 2), .long (u.2.1 3), .long (u.2.1 4), .long (u.2.1 5), .long (u.2.1 6), .long (u.2.1 7), .int u.2.2, .long (u.2.1 9), .long (u.2.1 10), .long (u.2.1 11)]))]) hP hD hS hA [5, 6] [0, 1, 2, 3, 4, 7] [0, 1, 2, 3, 4, 6, 7, 5] rfl rfl rfl (by decide) rfl rfl (va_runV (As := []) (rest := []) ⟨hx, hb, hml, hown, hts⟩ (c_Row_clear l D cB cI _ tr bt u.1) ⟨callB_of 0 hts g_Row_clear rfl rfl rfl (hts _ q1_2) (hts _ q1_79) h_Row_clear ⟨Nat.le_of_ble_eq_true rfl, Nat.le_of_ble_eq_true rfl⟩, (hts _ q1_80), (hts _ q1_81)⟩ ⟨kf_bl, va_recv hE.1 hP (ci := 0) (q0 := 5) rfl rfl, kf_to hP hD hS hA hE [5, 6] rfl rfl⟩ rfl rfl hl.1 rfl (lv_room (Nat.le_of_ble_eq_true rfl)) d_FR_lay_18 ⟨Nat.zero_le _, Nat.zero_le _⟩) (fun H locs hP hD hS => ?_)
      refine W.eq (g2 := F0 m 21 ls []) rfl ?_
      refine lv_aload_n hx hb d_FR_lay_21 rfl (lv_at hl 0 rfl) ?_
      refine va_get (D := D) (ci := 2) (v := .ref tr) (C := "FieldRows") (T := F_FR) (N := 4) hx hb hts ku_FR hown hE.1 hP 0 rfl rfl 2 (by decide) (hts _ q1_210) (fun _ h9 => h9) rfl d_FR_lay_22 ?_
      refine kf_kc (wr := [(x, .inr (2, [.ref r0, .ref r1, .ref tr, .ref vo])), (r0, .inr (0, [.ref b0])), (b0, .inl (cB, 1024, .inl f0)), (r1, .inr (0, [.ref b1])), (b1, .inl (cB, 1024, .inl f1)), (vo, .inr (1, [.long (u.2.1 0), .long (u.2.1 1), .long (u.2.1 2), .long (u.2.1 3), .long (u.2.1 4), .long (u.2.1 5), .long (u.2.1 6), .long (u.2.1 7), .int u.2.2, .long (u.2.1 9), .long (u.2.1 10), .long (u.2.1 11)]))]) (w1 := [(tr, .inr (0, [.ref bt])), (bt, .inl (cB, 1024, .inl (ky_wc (ky_cp u.1 (fun _ => 0) 1024))))]) (ws2 := [(x, .inr (2, [.ref r0, .ref r1, .ref tr, .ref vo])), (r0, .inr (0, [.ref b0])), (b0, .inl (cB, 1024, .inl f0)), (r1, .inr (0, [.ref b1])), (b1, .inl (cB, 1024, .inl f1)), (tr, .inr (0, [.ref bt])), (bt, .inl (cB, 1024, .inl (ky_wc (ky_cp u.1 (fun _ => 0) 1024)))), (vo, .inr (1, [.long (u.2.1 0), .long (u.2.1 1), .long (u.2.1 2), .long (u.2.1 3), .long (u.2.1 4), .long (u.2.1 5), .long (u.2.1 6), .long (u.2.1 7), .int u.2.2, .long (u.2.1 9), .long (u.2.1 10), .long (u.2.1 11)]))]) hP hD hS hA [5, 6] [0, 1, 2, 3, 4, 7] [0, 1, 2, 3, 4, 6, 7, 5] rfl rfl rfl (by decide) rfl rfl (va_runV (As := []) (rest := []) ⟨hx, hb, hml, hown, hts⟩ (c_Row_writeConstants l D cB cI _ tr bt (ky_cp u.1 (fun _ => 0) 1024)) ⟨callB_of 0 hts g_Row_writeConstants rfl rfl rfl (hts _ q1_2) (hts _ q1_83) h_Row_writeConstants ⟨Nat.le_of_ble_eq_true rfl, Nat.le_of_ble_eq_true rfl⟩, (hts _ q1_84), (hts _ q1_85)⟩ ⟨kf_bl, va_recv hE.1 hP (ci := 0) (q0 := 5) rfl rfl, kf_to hP hD hS hA hE [5, 6] rfl rfl⟩ rfl rfl hl.1 rfl (lv_room (Nat.le_of_ble_eq_true rfl)) d_FR_lay_25 ⟨Nat.zero_le _, Nat.zero_le _⟩) (fun H locs hP hD hS => ?_)
      refine W.eq (g2 := F0 m 28 ls []) rfl ?_
      refine lv_aload_n hx hb d_FR_lay_28 rfl (lv_at hl 0 rfl) ?_
      refine va_get (D := D) (ci := 2) (v := .ref tr) (C := "FieldRows") (T := F_FR) (N := 4) hx hb hts ku_FR hown hE.1 hP 0 rfl rfl 2 (by decide) (hts _ q1_210) (fun _ h9 => h9) rfl d_FR_lay_29 ?_
      refine lv_iconst (v := 4) hx hb d_FR_lay_32 (by decide) ?_
      refine lv_iconst (v := 4) hx hb d_FR_lay_33 (by decide) ?_
      refine lv_iload_n hx hb d_FR_lay_34 rfl (lv_at hl 1 rfl) ?_
      refine lv_i2l hx hb d_FR_lay_35 rfl ?_
      refine kf_kc (wr := [(x, .inr (2, [.ref r0, .ref r1, .ref tr, .ref vo])), (r0, .inr (0, [.ref b0])), (b0, .inl (cB, 1024, .inl f0)), (r1, .inr (0, [.ref b1])), (b1, .inl (cB, 1024, .inl f1)), (vo, .inr (1, [.long (u.2.1 0), .long (u.2.1 1), .long (u.2.1 2), .long (u.2.1 3), .long (u.2.1 4), .long (u.2.1 5), .long (u.2.1 6), .long (u.2.1 7), .int u.2.2, .long (u.2.1 9), .long (u.2.1 10), .long (u.2.1 11)]))]) (w1 := [(tr, .inr (0, [.ref bt])), (bt, .inl (cB, 1024, .inl (ky_wr (ky_wc (ky_cp u.1 (fun _ => 0) 1024)) 4 p1.toInt64 4)))]) (ws2 := [(x, .inr (2, [.ref r0, .ref r1, .ref tr, .ref vo])), (r0, .inr (0, [.ref b0])), (b0, .inl (cB, 1024, .inl f0)), (r1, .inr (0, [.ref b1])), (b1, .inl (cB, 1024, .inl f1)), (tr, .inr (0, [.ref bt])), (bt, .inl (cB, 1024, .inl (ky_wr (ky_wc (ky_cp u.1 (fun _ => 0) 1024)) 4 p1.toInt64 4))), (vo, .inr (1, [.long (u.2.1 0), .long (u.2.1 1), .long (u.2.1 2), .long (u.2.1 3), .long (u.2.1 4), .long (u.2.1 5), .long (u.2.1 6), .long (u.2.1 7), .int u.2.2, .long (u.2.1 9), .long (u.2.1 10), .long (u.2.1 11)]))]) hP hD hS hA [5, 6] [0, 1, 2, 3, 4, 7] [0, 1, 2, 3, 4, 6, 7, 5] rfl rfl rfl (by decide) rfl rfl (va_runV (As := [.int 4, .int 4, .long p1.toInt64]) (rest := []) ⟨hx, hb, hml, hown, hts⟩ (c_Row_writeL l D cB cI _ tr bt (ky_wc (ky_cp u.1 (fun _ => 0) 1024)) 4 4 p1.toInt64 (by decide) (by decide)) ⟨callB_of 3 hts g_Row_write rfl rfl rfl (hts _ q1_2) (hts _ q1_101) h_Row_write ⟨Nat.le_of_ble_eq_true rfl, Nat.le_of_ble_eq_true rfl⟩, (hts _ q1_89), (hts _ q1_90)⟩ ⟨kf_bl, va_recv hE.1 hP (ci := 0) (q0 := 5) rfl rfl, kf_to hP hD hS hA hE [5, 6] rfl rfl⟩ rfl rfl hl.1 rfl (lv_room (Nat.le_of_ble_eq_true rfl)) d_FR_lay_36 ⟨Nat.zero_le _, Nat.zero_le _⟩) (fun H locs hP hD hS => ?_)
      refine W.eq (g2 := F0 m 39 ls []) rfl ?_
      refine lv_aload_n hx hb d_FR_lay_39 rfl (lv_at hl 0 rfl) ?_
      refine va_get (D := D) (ci := 2) (v := .ref tr) (C := "FieldRows") (T := F_FR) (N := 4) hx hb hts ku_FR hown hE.1 hP 0 rfl rfl 2 (by decide) (hts _ q1_210) (fun _ h9 => h9) rfl d_FR_lay_40 ?_
      refine lv_bipush (v := 20) hx hb d_FR_lay_43 (by decide) ?_
      refine lv_iconst (v := 4) hx hb d_FR_lay_45 (by decide) ?_
      refine lv_iload hx hb d_FR_lay_46 (lv_at hl 5 rfl) ?_
      refine lv_i2l hx hb d_FR_lay_48 rfl ?_
      refine kf_ro hP hD hS hA [] rfl (va_runS (As := [.long p5.toInt64]) (rest := [.int 4, .int 20, .ref tr]) ⟨hx, hb, hml, hown, hts⟩ (c_FR_firstFor l D cB cI _ p5.toInt64) ⟨callB_of 1 hts g_FR_firstFor rfl rfl rfl (hts _ q1_1) (hts _ q1_102) h_FR_firstFor ⟨Nat.le_of_ble_eq_true rfl, Nat.le_of_ble_eq_true rfl⟩, (hts _ q1_103)⟩ ⟨kf_bl, kf_to hP hD hS hA hE [] rfl rfl⟩ rfl rfl hl.1 rfl (lv_room (Nat.le_of_ble_eq_true rfl)) d_FR_lay_49 ⟨Nat.zero_le _, Nat.zero_le _⟩) (fun H locs hP hS => ?_)
      refine W.eq (g2 := F0 m 52 ls [.int (kP (p5.toInt64 = 0)), .int 4, .int 20, .ref tr]) rfl ?_
      refine lv_i2l hx hb d_FR_lay_52 rfl ?_
      refine kf_kc (wr := [(x, .inr (2, [.ref r0, .ref r1, .ref tr, .ref vo])), (r0, .inr (0, [.ref b0])), (b0, .inl (cB, 1024, .inl f0)), (r1, .inr (0, [.ref b1])), (b1, .inl (cB, 1024, .inl f1)), (vo, .inr (1, [.long (u.2.1 0), .long (u.2.1 1), .long (u.2.1 2), .long (u.2.1 3), .long (u.2.1 4), .long (u.2.1 5), .long (u.2.1 6), .long (u.2.1 7), .int u.2.2, .long (u.2.1 9), .long (u.2.1 10), .long (u.2.1 11)]))]) (w1 := [(tr, .inr (0, [.ref bt])), (bt, .inl (cB, 1024, .inl (ky_wr (ky_wr (ky_wc (ky_cp u.1 (fun _ => 0) 1024)) 4 p1.toInt64 4) 20 ((kP (p5.toInt64 = 0)).toInt64) 4)))]) (ws2 := [(x, .inr (2, [.ref r0, .ref r1, .ref tr, .ref vo])), (r0, .inr (0, [.ref b0])), (b0, .inl (cB, 1024, .inl f0)), (r1, .inr (0, [.ref b1])), (b1, .inl (cB, 1024, .inl f1)), (tr, .inr (0, [.ref bt])), (bt, .inl (cB, 1024, .inl (ky_wr (ky_wr (ky_wc (ky_cp u.1 (fun _ => 0) 1024)) 4 p1.toInt64 4) 20 ((kP (p5.toInt64 = 0)).toInt64) 4))), (vo, .inr (1, [.long (u.2.1 0), .long (u.2.1 1), .long (u.2.1 2), .long (u.2.1 3), .long (u.2.1 4), .long (u.2.1 5), .long (u.2.1 6), .long (u.2.1 7), .int u.2.2, .long (u.2.1 9), .long (u.2.1 10), .long (u.2.1 11)]))]) hP hD hS hA [5, 6] [0, 1, 2, 3, 4, 7] [0, 1, 2, 3, 4, 6, 7, 5] rfl rfl rfl (by decide) rfl rfl (va_runV (As := [.int 20, .int 4, .long ((kP (p5.toInt64 = 0)).toInt64)]) (rest := []) ⟨hx, hb, hml, hown, hts⟩ (c_Row_writeL l D cB cI _ tr bt (ky_wr (ky_wc (ky_cp u.1 (fun _ => 0) 1024)) 4 p1.toInt64 4) 20 4 ((kP (p5.toInt64 = 0)).toInt64) (by decide) (by decide)) ⟨callB_of 3 hts g_Row_write rfl rfl rfl (hts _ q1_2) (hts _ q1_101) h_Row_write ⟨Nat.le_of_ble_eq_true rfl, Nat.le_of_ble_eq_true rfl⟩, (hts _ q1_89), (hts _ q1_90)⟩ ⟨kf_bl, va_recv hE.1 hP (ci := 0) (q0 := 5) rfl rfl, kf_to hP hD hS hA hE [5, 6] rfl rfl⟩ rfl rfl hl.1 rfl (lv_room (Nat.le_of_ble_eq_true rfl)) d_FR_lay_53 ⟨Nat.zero_le _, Nat.zero_le _⟩) (fun H locs hP hD hS => ?_)
      refine W.eq (g2 := F0 m 56 ls []) rfl ?_
      refine lv_aload_n hx hb d_FR_lay_56 rfl (lv_at hl 0 rfl) ?_
      refine va_get (D := D) (ci := 2) (v := .ref tr) (C := "FieldRows") (T := F_FR) (N := 4) hx hb hts ku_FR hown hE.1 hP 0 rfl rfl 2 (by decide) (hts _ q1_210) (fun _ h9 => h9) rfl d_FR_lay_57 ?_
      refine lv_bipush (v := 24) hx hb d_FR_lay_60 (by decide) ?_
      refine lv_iconst (v := 4) hx hb d_FR_lay_62 (by decide) ?_
      refine lv_iload hx hb d_FR_lay_63 (lv_at hl 5 rfl) ?_
      refine lv_i2l hx hb d_FR_lay_65 rfl ?_
      refine kf_kc (wr := [(x, .inr (2, [.ref r0, .ref r1, .ref tr, .ref vo])), (r0, .inr (0, [.ref b0])), (b0, .inl (cB, 1024, .inl f0)), (r1, .inr (0, [.ref b1])), (b1, .inl (cB, 1024, .inl f1)), (vo, .inr (1, [.long (u.2.1 0), .long (u.2.1 1), .long (u.2.1 2), .long (u.2.1 3), .long (u.2.1 4), .long (u.2.1 5), .long (u.2.1 6), .long (u.2.1 7), .int u.2.2, .long (u.2.1 9), .long (u.2.1 10), .long (u.2.1 11)]))]) (w1 := [(tr, .inr (0, [.ref bt])), (bt, .inl (cB, 1024, .inl (ky_wr (ky_wr (ky_wr (ky_wc (ky_cp u.1 (fun _ => 0) 1024)) 4 p1.toInt64 4) 20 ((kP (p5.toInt64 = 0)).toInt64) 4) 24 p5.toInt64 4)))]) (ws2 := [(x, .inr (2, [.ref r0, .ref r1, .ref tr, .ref vo])), (r0, .inr (0, [.ref b0])), (b0, .inl (cB, 1024, .inl f0)), (r1, .inr (0, [.ref b1])), (b1, .inl (cB, 1024, .inl f1)), (tr, .inr (0, [.ref bt])), (bt, .inl (cB, 1024, .inl (ky_wr (ky_wr (ky_wr (ky_wc (ky_cp u.1 (fun _ => 0) 1024)) 4 p1.toInt64 4) 20 ((kP (p5.toInt64 = 0)).toInt64) 4) 24 p5.toInt64 4))), (vo, .inr (1, [.long (u.2.1 0), .long (u.2.1 1), .long (u.2.1 2), .long (u.2.1 3), .long (u.2.1 4), .long (u.2.1 5), .long (u.2.1 6), .long (u.2.1 7), .int u.2.2, .long (u.2.1 9), .long (u.2.1 10), .long (u.2.1 11)]))]) hP hD hS hA [5, 6] [0, 1, 2, 3, 4, 7] [0, 1, 2, 3, 4, 6, 7, 5] rfl rfl rfl (by decide) rfl rfl (va_runV (As := [.int 24, .int 4, .long p5.toInt64]) (rest := []) ⟨hx, hb, hml, hown, hts⟩ (c_Row_writeL l D cB cI _ tr bt (ky_wr (ky_wr (ky_wc (ky_cp u.1 (fun _ => 0) 1024)) 4 p1.toInt64 4) 20 ((kP (p5.toInt64 = 0)).toInt64) 4) 24 4 p5.toInt64 (by decide) (by decide)) ⟨callB_of 3 hts g_Row_write rfl rfl rfl (hts _ q1_2) (hts _ q1_101) h_Row_write ⟨Nat.le_of_ble_eq_true rfl, Nat.le_of_ble_eq_true rfl⟩, (hts _ q1_89), (hts _ q1_90)⟩ ⟨kf_bl, va_recv hE.1 hP (ci := 0) (q0 := 5) rfl rfl, kf_to hP hD hS hA hE [5, 6] rfl rfl⟩ rfl rfl hl.1 rfl (lv_room (Nat.le_of_ble_eq_true rfl)) d_FR_lay_66 ⟨Nat.zero_le _, Nat.zero_le _⟩) (fun H locs hP hD hS => ?_)
      refine W.eq (g2 := F0 m 69 ls []) rfl ?_
      refine lv_aload_n hx hb d_FR_lay_69 rfl (lv_at hl 0 rfl) ?_
      refine va_get (D := D) (ci := 2) (v := .ref tr) (C := "FieldRows") (T := F_FR) (N := 4) hx hb hts ku_FR hown hE.1 hP 0 rfl rfl 2 (by decide) (hts _ q1_210) (fun _ h9 => h9) rfl d_FR_lay_70 ?_
      refine lv_bipush (v := 28) hx hb d_FR_lay_73 (by decide) ?_
      refine lv_iconst (v := 4) hx hb d_FR_lay_75 (by decide) ?_
      refine lv_iload hx hb d_FR_lay_76 (lv_at hl 5 rfl) ?_
      refine lv_i2l hx hb d_FR_lay_78 rfl ?_
      refine kf_kc (wr := [(x, .inr (2, [.ref r0, .ref r1, .ref tr, .ref vo])), (r0, .inr (0, [.ref b0])), (b0, .inl (cB, 1024, .inl f0)), (r1, .inr (0, [.ref b1])), (b1, .inl (cB, 1024, .inl f1)), (vo, .inr (1, [.long (u.2.1 0), .long (u.2.1 1), .long (u.2.1 2), .long (u.2.1 3), .long (u.2.1 4), .long (u.2.1 5), .long (u.2.1 6), .long (u.2.1 7), .int u.2.2, .long (u.2.1 9), .long (u.2.1 10), .long (u.2.1 11)]))]) (w1 := [(tr, .inr (0, [.ref bt])), (bt, .inl (cB, 1024, .inl (ky_wr (ky_wr (ky_wr (ky_wr (ky_wc (ky_cp u.1 (fun _ => 0) 1024)) 4 p1.toInt64 4) 20 ((kP (p5.toInt64 = 0)).toInt64) 4) 24 p5.toInt64 4) 28 p5.toInt64 4)))]) (ws2 := [(x, .inr (2, [.ref r0, .ref r1, .ref tr, .ref vo])), (r0, .inr (0, [.ref b0])), (b0, .inl (cB, 1024, .inl f0)), (r1, .inr (0, [.ref b1])), (b1, .inl (cB, 1024, .inl f1)), (tr, .inr (0, [.ref bt])), (bt, .inl (cB, 1024, .inl (ky_wr (ky_wr (ky_wr (ky_wr (ky_wc (ky_cp u.1 (fun _ => 0) 1024)) 4 p1.toInt64 4) 20 ((kP (p5.toInt64 = 0)).toInt64) 4) 24 p5.toInt64 4) 28 p5.toInt64 4))), (vo, .inr (1, [.long (u.2.1 0), .long (u.2.1 1), .long (u.2.1 2), .long (u.2.1 3), .long (u.2.1 4), .long (u.2.1 5), .long (u.2.1 6), .long (u.2.1 7), .int u.2.2, .long (u.2.1 9), .long (u.2.1 10), .long (u.2.1 11)]))]) hP hD hS hA [5, 6] [0, 1, 2, 3, 4, 7] [0, 1, 2, 3, 4, 6, 7, 5] rfl rfl rfl (by decide) rfl rfl (va_runV (As := [.int 28, .int 4, .long p5.toInt64]) (rest := []) ⟨hx, hb, hml, hown, hts⟩ (c_Row_writeL l D cB cI _ tr bt (ky_wr (ky_wr (ky_wr (ky_wc (ky_cp u.1 (fun _ => 0) 1024)) 4 p1.toInt64 4) 20 ((kP (p5.toInt64 = 0)).toInt64) 4) 24 p5.toInt64 4) 28 4 p5.toInt64 (by decide) (by decide)) ⟨callB_of 3 hts g_Row_write rfl rfl rfl (hts _ q1_2) (hts _ q1_101) h_Row_write ⟨Nat.le_of_ble_eq_true rfl, Nat.le_of_ble_eq_true rfl⟩, (hts _ q1_89), (hts _ q1_90)⟩ ⟨kf_bl, va_recv hE.1 hP (ci := 0) (q0 := 5) rfl rfl, kf_to hP hD hS hA hE [5, 6] rfl rfl⟩ rfl rfl hl.1 rfl (lv_room (Nat.le_of_ble_eq_true rfl)) d_FR_lay_79 ⟨Nat.zero_le _, Nat.zero_le _⟩) (fun H locs hP hD hS => ?_)
      refine W.eq (g2 := F0 m 82 ls []) rfl ?_
      refine lv_aload_n hx hb d_FR_lay_82 rfl (lv_at hl 0 rfl) ?_
      refine va_get (D := D) (ci := 2) (v := .ref tr) (C := "FieldRows") (T := F_FR) (N := 4) hx hb hts ku_FR hown hE.1 hP 0 rfl rfl 2 (by decide) (hts _ q1_210) (fun _ h9 => h9) rfl d_FR_lay_83 ?_
      refine lv_bipush (v := 32) hx hb d_FR_lay_86 (by decide) ?_
      refine lv_iconst (v := 4) hx hb d_FR_lay_88 (by decide) ?_
      refine lv_iload_n hx hb d_FR_lay_89 rfl (lv_at hl 2 rfl) ?_
      refine lv_i2l hx hb d_FR_lay_90 rfl ?_
      refine kf_kc (wr := [(x, .inr (2, [.ref r0, .ref r1, .ref tr, .ref vo])), (r0, .inr (0, [.ref b0])), (b0, .inl (cB, 1024, .inl f0)), (r1, .inr (0, [.ref b1])), (b1, .inl (cB, 1024, .inl f1)), (vo, .inr (1, [.long (u.2.1 0), .long (u.2.1 1), .long (u.2.1 2), .long (u.2.1 3), .long (u.2.1 4), .long (u.2.1 5), .long (u.2.1 6), .long (u.2.1 7), .int u.2.2, .long (u.2.1 9), .long (u.2.1 10), .long (u.2.1 11)]))]) (w1 := [(tr, .inr (0, [.ref bt])), (bt, .inl (cB, 1024, .inl (ky_wr (ky_wr (ky_wr (ky_wr (ky_wr (ky_wc (ky_cp u.1 (fun _ => 0) 1024)) 4 p1.toInt64 4) 20 ((kP (p5.toInt64 = 0)).toInt64) 4) 24 p5.toInt64 4) 28 p5.toInt64 4) 32 p2.toInt64 4)))]) (ws2 := [(x, .inr (2, [.ref r0, .ref r1, .ref tr, .ref vo])), (r0, .inr (0, [.ref b0])), (b0, .inl (cB, 1024, .inl f0)), (r1, .inr (0, [.ref b1])), (b1, .inl (cB, 1024, .inl f1)), (tr, .inr (0, [.ref bt])), (bt, .inl (cB, 1024, .inl (ky_wr (ky_wr (ky_wr (ky_wr (ky_wr (ky_wc (ky_cp u.1 (fun _ => 0) 1024)) 4 p1.toInt64 4) 20 ((kP (p5.toInt64 = 0)).toInt64) 4) 24 p5.toInt64 4) 28 p5.toInt64 4) 32 p2.toInt64 4))), (vo, .inr (1, [.long (u.2.1 0), .long (u.2.1 1), .long (u.2.1 2), .long (u.2.1 3), .long (u.2.1 4), .long (u.2.1 5), .long (u.2.1 6), .long (u.2.1 7), .int u.2.2, .long (u.2.1 9), .long (u.2.1 10), .long (u.2.1 11)]))]) hP hD hS hA [5, 6] [0, 1, 2, 3, 4, 7] [0, 1, 2, 3, 4, 6, 7, 5] rfl rfl rfl (by decide) rfl rfl (va_runV (As := [.int 32, .int 4, .long p2.toInt64]) (rest := []) ⟨hx, hb, hml, hown, hts⟩ (c_Row_writeL l D cB cI _ tr bt (ky_wr (ky_wr (ky_wr (ky_wr (ky_wc (ky_cp u.1 (fun _ => 0) 1024)) 4 p1.toInt64 4) 20 ((kP (p5.toInt64 = 0)).toInt64) 4) 24 p5.toInt64 4) 28 p5.toInt64 4) 32 4 p2.toInt64 (by decide) (by decide)) ⟨callB_of 3 hts g_Row_write rfl rfl rfl (hts _ q1_2) (hts _ q1_101) h_Row_write ⟨Nat.le_of_ble_eq_true rfl, Nat.le_of_ble_eq_true rfl⟩, (hts _ q1_89), (hts _ q1_90)⟩ ⟨kf_bl, va_recv hE.1 hP (ci := 0) (q0 := 5) rfl rfl, kf_to hP hD hS hA hE [5, 6] rfl rfl⟩ rfl rfl hl.1 rfl (lv_room (Nat.le_of_ble_eq_true rfl)) d_FR_lay_91 ⟨Nat.zero_le _, Nat.zero_le _⟩) (fun H locs hP hD hS => ?_)
      refine W.eq (g2 := F0 m 94 ls []) rfl ?_
      refine lv_aload_n hx hb d_FR_lay_94 rfl (lv_at hl 0 rfl) ?_
      refine va_get (D := D) (ci := 2) (v := .ref tr) (C := "FieldRows") (T := F_FR) (N := 4) hx hb hts ku_FR hown hE.1 hP 0 rfl rfl 2 (by decide) (hts _ q1_210) (fun _ h9 => h9) rfl d_FR_lay_95 ?_
      refine lv_bipush (v := 36) hx hb d_FR_lay_98 (by decide) ?_
      refine lv_iconst (v := 4) hx hb d_FR_lay_100 (by decide) ?_
      refine lv_iload_n hx hb d_FR_lay_101 rfl (lv_at hl 2 rfl) ?_
      refine lv_i2l hx hb d_FR_lay_102 rfl ?_
      refine kf_kc (wr := [(x, .inr (2, [.ref r0, .ref r1, .ref tr, .ref vo])), (r0, .inr (0, [.ref b0])), (b0, .inl (cB, 1024, .inl f0)), (r1, .inr (0, [.ref b1])), (b1, .inl (cB, 1024, .inl f1)), (vo, .inr (1, [.long (u.2.1 0), .long (u.2.1 1), .long (u.2.1 2), .long (u.2.1 3), .long (u.2.1 4), .long (u.2.1 5), .long (u.2.1 6), .long (u.2.1 7), .int u.2.2, .long (u.2.1 9), .long (u.2.1 10), .long (u.2.1 11)]))]) (w1 := [(tr, .inr (0, [.ref bt])), (bt, .inl (cB, 1024, .inl (ky_wr (ky_wr (ky_wr (ky_wr (ky_wr (ky_wr (ky_wc (ky_cp u.1 (fun _ => 0) 1024)) 4 p1.toInt64 4) 20 ((kP (p5.toInt64 = 0)).toInt64) 4) 24 p5.toInt64 4) 28 p5.toInt64 4) 32 p2.toInt64 4) 36 p2.toInt64 4)))]) (ws2 := [(x, .inr (2, [.ref r0, .ref r1, .ref tr, .ref vo])), (r0, .inr (0, [.ref b0])), (b0, .inl (cB, 1024, .inl f0)), (r1, .inr (0, [.ref b1])), (b1, .inl (cB, 1024, .inl f1)), (tr, .inr (0, [.ref bt])), (bt, .inl (cB, 1024, .inl (ky_wr (ky_wr (ky_wr (ky_wr (ky_wr (ky_wr (ky_wc (ky_cp u.1 (fun _ => 0) 1024)) 4 p1.toInt64 4) 20 ((kP (p5.toInt64 = 0)).toInt64) 4) 24 p5.toInt64 4) 28 p5.toInt64 4) 32 p2.toInt64 4) 36 p2.toInt64 4))), (vo, .inr (1, [.long (u.2.1 0), .long (u.2.1 1), .long (u.2.1 2), .long (u.2.1 3), .long (u.2.1 4), .long (u.2.1 5), .long (u.2.1 6), .long (u.2.1 7), .int u.2.2, .long (u.2.1 9), .long (u.2.1 10), .long (u.2.1 11)]))]) hP hD hS hA [5, 6] [0, 1, 2, 3, 4, 7] [0, 1, 2, 3, 4, 6, 7, 5] rfl rfl rfl (by decide) rfl rfl (va_runV (As := [.int 36, .int 4, .long p2.toInt64]) (rest := []) ⟨hx, hb, hml, hown, hts⟩ (c_Row_writeL l D cB cI _ tr bt (ky_wr (ky_wr (ky_wr (ky_wr (ky_wr (ky_wc (ky_cp u.1 (fun _ => 0) 1024)) 4 p1.toInt64 4) 20 ((kP (p5.toInt64 = 0)).toInt64) 4) 24 p5.toInt64 4) 28 p5.toInt64 4) 32 p2.toInt64 4) 36 4 p2.toInt64 (by decide) (by decide)) ⟨callB_of 3 hts g_Row_write rfl rfl rfl (hts _ q1_2) (hts _ q1_101) h_Row_write ⟨Nat.le_of_ble_eq_true rfl, Nat.le_of_ble_eq_true rfl⟩, (hts _ q1_89), (hts _ q1_90)⟩ ⟨kf_bl, va_recv hE.1 hP (ci := 0) (q0 := 5) rfl rfl, kf_to hP hD hS hA hE [5, 6] rfl rfl⟩ rfl rfl hl.1 rfl (lv_room (Nat.le_of_ble_eq_true rfl)) d_FR_lay_103 ⟨Nat.zero_le _, Nat.zero_le _⟩) (fun H locs hP hD hS => ?_)
      refine W.eq (g2 := F0 m 106 ls []) rfl ?_
      refine lv_aload_n hx hb d_FR_lay_106 rfl (lv_at hl 0 rfl) ?_
      refine va_get (D := D) (ci := 2) (v := .ref tr) (C := "FieldRows") (T := F_FR) (N := 4) hx hb hts ku_FR hown hE.1 hP 0 rfl rfl 2 (by decide) (hts _ q1_210) (fun _ h9 => h9) rfl d_FR_lay_107 ?_
      refine lv_bipush (v := 40) hx hb d_FR_lay_110 (by decide) ?_
      refine lv_iconst (v := 4) hx hb d_FR_lay_112 (by decide) ?_
      refine lv_iload_n hx hb d_FR_lay_113 rfl (lv_at hl 3 rfl) ?_
      refine lv_i2l hx hb d_FR_lay_114 rfl ?_
      refine kf_kc (wr := [(x, .inr (2, [.ref r0, .ref r1, .ref tr, .ref vo])), (r0, .inr (0, [.ref b0])), (b0, .inl (cB, 1024, .inl f0)), (r1, .inr (0, [.ref b1])), (b1, .inl (cB, 1024, .inl f1)), (vo, .inr (1, [.long (u.2.1 0), .long (u.2.1 1), .long (u.2.1 2), .long (u.2.1 3), .long (u.2.1 4), .long (u.2.1 5), .long (u.2.1 6), .long (u.2.1 7), .int u.2.2, .long (u.2.1 9), .long (u.2.1 10), .long (u.2.1 11)]))]) (w1 := [(tr, .inr (0, [.ref bt])), (bt, .inl (cB, 1024, .inl (ky_wr (ky_wr (ky_wr (ky_wr (ky_wr (ky_wr (ky_wr (ky_wc (ky_cp u.1 (fun _ => 0) 1024)) 4 p1.toInt64 4) 20 ((kP (p5.toInt64 = 0)).toInt64) 4) 24 p5.toInt64 4) 28 p5.toInt64 4) 32 p2.toInt64 4) 36 p2.toInt64 4) 40 p3.toInt64 4)))]) (ws2 := [(x, .inr (2, [.ref r0, .ref r1, .ref tr, .ref vo])), (r0, .inr (0, [.ref b0])), (b0, .inl (cB, 1024, .inl f0)), (r1, .inr (0, [.ref b1])), (b1, .inl (cB, 1024, .inl f1)), (tr, .inr (0, [.ref bt])), (bt, .inl (cB, 1024, .inl (ky_wr (ky_wr (ky_wr (ky_wr (ky_wr (ky_wr (ky_wr (ky_wc (ky_cp u.1 (fun _ => 0) 1024)) 4 p1.toInt64 4) 20 ((kP (p5.toInt64 = 0)).toInt64) 4) 24 p5.toInt64 4) 28 p5.toInt64 4) 32 p2.toInt64 4) 36 p2.toInt64 4) 40 p3.toInt64 4))), (vo, .inr (1, [.long (u.2.1 0), .long (u.2.1 1), .long (u.2.1 2), .long (u.2.1 3), .long (u.2.1 4), .long (u.2.1 5), .long (u.2.1 6), .long (u.2.1 7), .int u.2.2, .long (u.2.1 9), .long (u.2.1 10), .long (u.2.1 11)]))]) hP hD hS hA [5, 6] [0, 1, 2, 3, 4, 7] [0, 1, 2, 3, 4, 6, 7, 5] rfl rfl rfl (by decide) rfl rfl (va_runV (As := [.int 40, .int 4, .long p3.toInt64]) (rest := []) ⟨hx, hb, hml, hown, hts⟩ (c_Row_writeL l D cB cI _ tr bt (ky_wr (ky_wr (ky_wr (ky_wr (ky_wr (ky_wr (ky_wc (ky_cp u.1 (fun _ => 0) 1024)) 4 p1.toInt64 4) 20 ((kP (p5.toInt64 = 0)).toInt64) 4) 24 p5.toInt64 4) 28 p5.toInt64 4) 32 p2.toInt64 4) 36 p2.toInt64 4) 40 4 p3.toInt64 (by decide) (by decide)) ⟨callB_of 3 hts g_Row_write rfl rfl rfl (hts _ q1_2) (hts _ q1_101) h_Row_write ⟨Nat.le_of_ble_eq_true rfl, Nat.le_of_ble_eq_true rfl⟩, (hts _ q1_89), (hts _ q1_90)⟩ ⟨kf_bl, va_recv hE.1 hP (ci := 0) (q0 := 5) rfl rfl, kf_to hP hD hS hA hE [5, 6] rfl rfl⟩ rfl rfl hl.1 rfl (lv_room (Nat.le_of_ble_eq_true rfl)) d_FR_lay_115 ⟨Nat.zero_le _, Nat.zero_le _⟩) (fun H locs hP hD hS => ?_)
      refine W.eq (g2 := F0 m 118 ls []) rfl ?_
      refine lv_aload_n hx hb d_FR_lay_118 rfl (lv_at hl 0 rfl) ?_
      refine va_get (D := D) (ci := 2) (v := .ref tr) (C := "FieldRows") (T := F_FR) (N := 4) hx hb hts ku_FR hown hE.1 hP 0 rfl rfl 2 (by decide) (hts _ q1_210) (fun _ h9 => h9) rfl d_FR_lay_119 ?_
      refine lv_bipush (v := 88) hx hb d_FR_lay_122 (by decide) ?_
      refine lv_iconst (v := 2) hx hb d_FR_lay_124 (by decide) ?_
      refine lv_iload hx hb d_FR_lay_125 (lv_at hl 4 rfl) ?_
      refine lv_i2l hx hb d_FR_lay_127 rfl ?_
      refine kf_kc (wr := [(x, .inr (2, [.ref r0, .ref r1, .ref tr, .ref vo])), (r0, .inr (0, [.ref b0])), (b0, .inl (cB, 1024, .inl f0)), (r1, .inr (0, [.ref b1])), (b1, .inl (cB, 1024, .inl f1)), (vo, .inr (1, [.long (u.2.1 0), .long (u.2.1 1), .long (u.2.1 2), .long (u.2.1 3), .long (u.2.1 4), .long (u.2.1 5), .long (u.2.1 6), .long (u.2.1 7), .int u.2.2, .long (u.2.1 9), .long (u.2.1 10), .long (u.2.1 11)]))]) (w1 := [(tr, .inr (0, [.ref bt])), (bt, .inl (cB, 1024, .inl (ky_wr (ky_wr (ky_wr (ky_wr (ky_wr (ky_wr (ky_wr (ky_wr (ky_wc (ky_cp u.1 (fun _ => 0) 1024)) 4 p1.toInt64 4) 20 ((kP (p5.toInt64 = 0)).toInt64) 4) 24 p5.toInt64 4) 28 p5.toInt64 4) 32 p2.toInt64 4) 36 p2.toInt64 4) 40 p3.toInt64 4) 88 p4.toInt64 2)))]) (ws2 := [(x, .inr (2, [.ref r0, .ref r1, .ref tr, .ref vo])), (r0, .inr (0, [.ref b0])), (b0, .inl (cB, 1024, .inl f0)), (r1, .inr (0, [.ref b1])), (b1, .inl (cB, 1024, .inl f1)), (tr, .inr (0, [.ref bt])), (bt, .inl (cB, 1024, .inl (ky_wr (ky_wr (ky_wr (ky_wr (ky_wr (ky_wr (ky_wr (ky_wr (ky_wc (ky_cp u.1 (fun _ => 0) 1024)) 4 p1.toInt64 4) 20 ((kP (p5.toInt64 = 0)).toInt64) 4) 24 p5.toInt64 4) 28 p5.toInt64 4) 32 p2.toInt64 4) 36 p2.toInt64 4) 40 p3.toInt64 4) 88 p4.toInt64 2))), (vo, .inr (1, [.long (u.2.1 0), .long (u.2.1 1), .long (u.2.1 2), .long (u.2.1 3), .long (u.2.1 4), .long (u.2.1 5), .long (u.2.1 6), .long (u.2.1 7), .int u.2.2, .long (u.2.1 9), .long (u.2.1 10), .long (u.2.1 11)]))]) hP hD hS hA [5, 6] [0, 1, 2, 3, 4, 7] [0, 1, 2, 3, 4, 6, 7, 5] rfl rfl rfl (by decide) rfl rfl (va_runV (As := [.int 88, .int 2, .long p4.toInt64]) (rest := []) ⟨hx, hb, hml, hown, hts⟩ (c_Row_writeL l D cB cI _ tr bt (ky_wr (ky_wr (ky_wr (ky_wr (ky_wr (ky_wr (ky_wr (ky_wc (ky_cp u.1 (fun _ => 0) 1024)) 4 p1.toInt64 4) 20 ((kP (p5.toInt64 = 0)).toInt64) 4) 24 p5.toInt64 4) 28 p5.toInt64 4) 32 p2.toInt64 4) 36 p2.toInt64 4) 40 p3.toInt64 4) 88 2 p4.toInt64 (by decide) (by decide)) ⟨callB_of 3 hts g_Row_write rfl rfl rfl (hts _ q1_2) (hts _ q1_101) h_Row_write ⟨Nat.le_of_ble_eq_true rfl, Nat.le_of_ble_eq_true rfl⟩, (hts _ q1_89), (hts _ q1_90)⟩ ⟨kf_bl, va_recv hE.1 hP (ci := 0) (q0 := 5) rfl rfl, kf_to hP hD hS hA hE [5, 6] rfl rfl⟩ rfl rfl hl.1 rfl (lv_room (Nat.le_of_ble_eq_true rfl)) d_FR_lay_128 ⟨Nat.zero_le _, Nat.zero_le _⟩) (fun H locs hP hD hS => ?_)
      refine W.eq (g2 := F0 m 131 ls []) rfl ?_
      have eT1 : ky_wr (ky_wr (ky_wr (ky_wr (ky_wr (ky_wr (ky_wr (ky_wr (ky_wc (ky_cp u.1 (fun _ => 0) 1024)) 4 p1.toInt64 4) 20 ((kP (p5.toInt64 = 0)).toInt64) 4) 24 p5.toInt64 4) 28 p5.toInt64 4) 32 p2.toInt64 4) 36 p2.toInt64 4) 40 p3.toInt64 4) 88 p4.toInt64 2 = kl_T1 u.1 p1 p2 p3 p4 p5 := rfl
      rw [eT1] at hP hD
      refine lv_aload_n hx hb d_FR_lay_131 rfl (lv_at hl 0 rfl) ?_
      refine va_get (D := D) (ci := 2) (v := .ref vo) (C := "FieldRows") (T := F_FR) (N := 4) hx hb hts ku_FR hown hE.1 hP 0 rfl rfl 3 (by decide) (hts _ q1_211) (fun _ h9 => h9) rfl d_FR_lay_132 ?_
      refine lv_aload_n hx hb d_FR_lay_135 rfl (lv_at hl 0 rfl) ?_
      refine va_get (D := D) (ci := 2) (v := .ref tr) (C := "FieldRows") (T := F_FR) (N := 4) hx hb hts ku_FR hown hE.1 hP 0 rfl rfl 2 (by decide) (hts _ q1_210) (fun _ h9 => h9) rfl d_FR_lay_136 ?_
      refine kf_kc (wr := [(x, .inr (2, [.ref r0, .ref r1, .ref tr, .ref vo])), (r0, .inr (0, [.ref b0])), (b0, .inl (cB, 1024, .inl f0)), (r1, .inr (0, [.ref b1])), (b1, .inl (cB, 1024, .inl f1))]) (w1 := [(vo, .inr (1, [.long (lN (ky_le (kl_T1 u.1 p1 p2 p3 p4 p5) 0 4)), .long (lN (ky_le (kl_T1 u.1 p1 p2 p3 p4 p5) 4 4)), .long (lN (ky_le (kl_T1 u.1 p1 p2 p3 p4 p5) 20 4)), .long (lN (ky_le (kl_T1 u.1 p1 p2 p3 p4 p5) 24 4)), .long (kv_size (kl_T1 u.1 p1 p2 p3 p4 p5)), .long (lN (ky_le (kl_T1 u.1 p1 p2 p3 p4 p5) 32 4)), .long (lN (ky_le (kl_T1 u.1 p1 p2 p3 p4 p5) 40 4)), .long (lN (ky_le (kl_T1 u.1 p1 p2 p3 p4 p5) 88 2)), .int (kv_few (kl_T1 u.1 p1 p2 p3 p4 p5)), .long (kv_gc (kl_T1 u.1 p1 p2 p3 p4 p5)), .long (kv_cb (kl_T1 u.1 p1 p2 p3 p4 p5)), .long (kv_rk (kl_T1 u.1 p1 p2 p3 p4 p5))])), (tr, .inr (0, [.ref bt])), (bt, .inl (cB, 1024, .inl (kl_T1 u.1 p1 p2 p3 p4 p5)))]) (ws2 := [(x, .inr (2, [.ref r0, .ref r1, .ref tr, .ref vo])), (r0, .inr (0, [.ref b0])), (b0, .inl (cB, 1024, .inl f0)), (r1, .inr (0, [.ref b1])), (b1, .inl (cB, 1024, .inl f1)), (tr, .inr (0, [.ref bt])), (bt, .inl (cB, 1024, .inl (kl_T1 u.1 p1 p2 p3 p4 p5))), (vo, .inr (1, [.long (lN (ky_le (kl_T1 u.1 p1 p2 p3 p4 p5) 0 4)), .long (lN (ky_le (kl_T1 u.1 p1 p2 p3 p4 p5) 4 4)), .long (lN (ky_le (kl_T1 u.1 p1 p2 p3 p4 p5) 20 4)), .long (lN (ky_le (kl_T1 u.1 p1 p2 p3 p4 p5) 24 4)), .long (kv_size (kl_T1 u.1 p1 p2 p3 p4 p5)), .long (lN (ky_le (kl_T1 u.1 p1 p2 p3 p4 p5) 32 4)), .long (lN (ky_le (kl_T1 u.1 p1 p2 p3 p4 p5) 40 4)), .long (lN (ky_le (kl_T1 u.1 p1 p2 p3 p4 p5) 88 2)), .int (kv_few (kl_T1 u.1 p1 p2 p3 p4 p5)), .long (kv_gc (kl_T1 u.1 p1 p2 p3 p4 p5)), .long (kv_cb (kl_T1 u.1 p1 p2 p3 p4 p5)), .long (kv_rk (kl_T1 u.1 p1 p2 p3 p4 p5))]))]) hP hD hS hA [7, 5, 6] [0, 1, 2, 3, 4] [0, 1, 2, 3, 4, 6, 7, 5] rfl rfl rfl (by decide) rfl rfl (va_runV (As := [.ref tr]) (rest := []) ⟨hx, hb, hml, hown, hts⟩ (c_Vol_readNumbers l D cB cI _ vo (u.2.1 0) (u.2.1 1) (u.2.1 2) (u.2.1 3) (u.2.1 4) (u.2.1 5) (u.2.1 6) (u.2.1 7) u.2.2 (u.2.1 9) (u.2.1 10) (u.2.1 11) tr bt (kl_T1 u.1 p1 p2 p3 p4 p5)) ⟨callB_of 1 hts g_Vol_readNumbers rfl rfl rfl (hts _ q1_3) (hts _ q1_105) h_Vol_readNumbers ⟨Nat.le_of_ble_eq_true rfl, Nat.le_of_ble_eq_true rfl⟩, (hts _ q1_106), (hts _ q1_107)⟩ ⟨kf_bl, va_recv hE.1 hP (ci := 1) (q0 := 7) rfl rfl, kf_to hP hD hS hA hE [7, 5, 6] rfl rfl⟩ rfl rfl hl.1 rfl (lv_room (Nat.le_of_ble_eq_true rfl)) d_FR_lay_139 ⟨Nat.zero_le _, Nat.zero_le _⟩) (fun H locs hP hD hS => ?_)
      refine W.eq (g2 := F0 m 142 ls []) rfl ?_
      refine lv_aload_n hx hb d_FR_lay_142 rfl (lv_at hl 0 rfl) ?_
      refine va_get (D := D) (ci := 2) (v := .ref tr) (C := "FieldRows") (T := F_FR) (N := 4) hx hb hts ku_FR hown hE.1 hP 0 rfl rfl 2 (by decide) (hts _ q1_210) (fun _ h9 => h9) rfl d_FR_lay_143 ?_
      refine lv_iconst (v := 0) hx hb d_FR_lay_146 (by decide) ?_
      refine lv_iconst (v := 4) hx hb d_FR_lay_147 (by decide) ?_
      refine lv_aload_n hx hb d_FR_lay_148 rfl (lv_at hl 0 rfl) ?_
      refine va_get (D := D) (ci := 2) (v := .ref vo) (C := "FieldRows") (T := F_FR) (N := 4) hx hb hts ku_FR hown hE.1 hP 0 rfl rfl 3 (by decide) (hts _ q1_211) (fun _ h9 => h9) rfl d_FR_lay_149 ?_
      refine va_getN (D := D) (ci := 1) (v := .long (kv_gc (kl_T1 u.1 p1 p2 p3 p4 p5))) (C := "FieldRows$Volume") (T := F_Vol) (N := 12) hx hb hts ku_Vol hown hE.1 hP 7 rfl rfl 9 (by decide) (va_Nw.use rfl (hE.2.1 _ q1_45)) (fun _ h9 => h9) rfl d_FR_lay_152 ?_
      refine lv_iload_n hx hb d_FR_lay_155 rfl (lv_at hl 3 rfl) ?_
      refine lv_i2l hx hb d_FR_lay_156 rfl ?_
      refine lv_lmul hx hb d_FR_lay_157 ?_
      refine kf_kc (wr := [(x, .inr (2, [.ref r0, .ref r1, .ref tr, .ref vo])), (r0, .inr (0, [.ref b0])), (b0, .inl (cB, 1024, .inl f0)), (r1, .inr (0, [.ref b1])), (b1, .inl (cB, 1024, .inl f1)), (vo, .inr (1, [.long (lN (ky_le (kl_T1 u.1 p1 p2 p3 p4 p5) 0 4)), .long (lN (ky_le (kl_T1 u.1 p1 p2 p3 p4 p5) 4 4)), .long (lN (ky_le (kl_T1 u.1 p1 p2 p3 p4 p5) 20 4)), .long (lN (ky_le (kl_T1 u.1 p1 p2 p3 p4 p5) 24 4)), .long (kv_size (kl_T1 u.1 p1 p2 p3 p4 p5)), .long (lN (ky_le (kl_T1 u.1 p1 p2 p3 p4 p5) 32 4)), .long (lN (ky_le (kl_T1 u.1 p1 p2 p3 p4 p5) 40 4)), .long (lN (ky_le (kl_T1 u.1 p1 p2 p3 p4 p5) 88 2)), .int (kv_few (kl_T1 u.1 p1 p2 p3 p4 p5)), .long (kv_gc (kl_T1 u.1 p1 p2 p3 p4 p5)), .long (kv_cb (kl_T1 u.1 p1 p2 p3 p4 p5)), .long (kv_rk (kl_T1 u.1 p1 p2 p3 p4 p5))]))]) (w1 := [(tr, .inr (0, [.ref bt])), (bt, .inl (cB, 1024, .inl (ky_wr (kl_T1 u.1 p1 p2 p3 p4 p5) 0 ((kv_gc (kl_T1 u.1 p1 p2 p3 p4 p5)) * p3.toInt64) 4)))]) (ws2 := [(x, .inr (2, [.ref r0, .ref r1, .ref tr, .ref vo])), (r0, .inr (0, [.ref b0])), (b0, .inl (cB, 1024, .inl f0)), (r1, .inr (0, [.ref b1])), (b1, .inl (cB, 1024, .inl f1)), (tr, .inr (0, [.ref bt])), (bt, .inl (cB, 1024, .inl (ky_wr (kl_T1 u.1 p1 p2 p3 p4 p5) 0 ((kv_gc (kl_T1 u.1 p1 p2 p3 p4 p5)) * p3.toInt64) 4))), (vo, .inr (1, [.long (lN (ky_le (kl_T1 u.1 p1 p2 p3 p4 p5) 0 4)), .long (lN (ky_le (kl_T1 u.1 p1 p2 p3 p4 p5) 4 4)), .long (lN (ky_le (kl_T1 u.1 p1 p2 p3 p4 p5) 20 4)), .long (lN (ky_le (kl_T1 u.1 p1 p2 p3 p4 p5) 24 4)), .long (kv_size (kl_T1 u.1 p1 p2 p3 p4 p5)), .long (lN (ky_le (kl_T1 u.1 p1 p2 p3 p4 p5) 32 4)), .long (lN (ky_le (kl_T1 u.1 p1 p2 p3 p4 p5) 40 4)), .long (lN (ky_le (kl_T1 u.1 p1 p2 p3 p4 p5) 88 2)), .int (kv_few (kl_T1 u.1 p1 p2 p3 p4 p5)), .long (kv_gc (kl_T1 u.1 p1 p2 p3 p4 p5)), .long (kv_cb (kl_T1 u.1 p1 p2 p3 p4 p5)), .long (kv_rk (kl_T1 u.1 p1 p2 p3 p4 p5))]))]) hP hD hS hA [5, 6] [0, 1, 2, 3, 4, 7] [0, 1, 2, 3, 4, 6, 7, 5] rfl rfl rfl (by decide) rfl rfl (va_runV (As := [.int 0, .int 4, .long ((kv_gc (kl_T1 u.1 p1 p2 p3 p4 p5)) * p3.toInt64)]) (rest := []) ⟨hx, hb, hml, hown, hts⟩ (c_Row_writeL l D cB cI _ tr bt (kl_T1 u.1 p1 p2 p3 p4 p5) 0 4 ((kv_gc (kl_T1 u.1 p1 p2 p3 p4 p5)) * p3.toInt64) (by decide) (by decide)) ⟨callB_of 3 hts g_Row_write rfl rfl rfl (hts _ q1_2) (hts _ q1_101) h_Row_write ⟨Nat.le_of_ble_eq_true rfl, Nat.le_of_ble_eq_true rfl⟩, (hts _ q1_89), (hts _ q1_90)⟩ ⟨kf_bl, va_recv hE.1 hP (ci := 0) (q0 := 5) rfl rfl, kf_to hP hD hS hA hE [5, 6] rfl rfl⟩ rfl rfl hl.1 rfl (lv_room (Nat.le_of_ble_eq_true rfl)) d_FR_lay_158 ⟨Nat.zero_le _, Nat.zero_le _⟩) (fun H locs hP hD hS => ?_)
      refine W.eq (g2 := F0 m 161 ls []) rfl ?_
      have eT : ky_wr (kl_T1 u.1 p1 p2 p3 p4 p5) 0 ((kv_gc (kl_T1 u.1 p1 p2 p3 p4 p5)) * p3.toInt64) 4 = kl_T u.1 p1 p2 p3 p4 p5 := rfl
      rw [eT] at hP hD
      refine lv_aload_n hx hb d_FR_lay_161 rfl (lv_at hl 0 rfl) ?_
      refine va_get (D := D) (ci := 2) (v := .ref vo) (C := "FieldRows") (T := F_FR) (N := 4) hx hb hts ku_FR hown hE.1 hP 0 rfl rfl 3 (by decide) (hts _ q1_211) (fun _ h9 => h9) rfl d_FR_lay_162 ?_
      refine lv_aload_n hx hb d_FR_lay_165 rfl (lv_at hl 0 rfl) ?_
      refine va_get (D := D) (ci := 2) (v := .ref tr) (C := "FieldRows") (T := F_FR) (N := 4) hx hb hts ku_FR hown hE.1 hP 0 rfl rfl 2 (by decide) (hts _ q1_210) (fun _ h9 => h9) rfl d_FR_lay_166 ?_
      refine kf_kc (wr := [(x, .inr (2, [.ref r0, .ref r1, .ref tr, .ref vo])), (r0, .inr (0, [.ref b0])), (b0, .inl (cB, 1024, .inl f0)), (r1, .inr (0, [.ref b1])), (b1, .inl (cB, 1024, .inl f1))]) (w1 := [(vo, .inr (1, [.long (lN (ky_le (kl_T u.1 p1 p2 p3 p4 p5) 0 4)), .long (lN (ky_le (kl_T u.1 p1 p2 p3 p4 p5) 4 4)), .long (lN (ky_le (kl_T u.1 p1 p2 p3 p4 p5) 20 4)), .long (lN (ky_le (kl_T u.1 p1 p2 p3 p4 p5) 24 4)), .long (kv_size (kl_T u.1 p1 p2 p3 p4 p5)), .long (lN (ky_le (kl_T u.1 p1 p2 p3 p4 p5) 32 4)), .long (lN (ky_le (kl_T u.1 p1 p2 p3 p4 p5) 40 4)), .long (lN (ky_le (kl_T u.1 p1 p2 p3 p4 p5) 88 2)), .int (kv_few (kl_T u.1 p1 p2 p3 p4 p5)), .long (kv_gc (kl_T u.1 p1 p2 p3 p4 p5)), .long (kv_cb (kl_T u.1 p1 p2 p3 p4 p5)), .long (kv_rk (kl_T u.1 p1 p2 p3 p4 p5))])), (tr, .inr (0, [.ref bt])), (bt, .inl (cB, 1024, .inl (kl_T u.1 p1 p2 p3 p4 p5)))]) (ws2 := [(x, .inr (2, [.ref r0, .ref r1, .ref tr, .ref vo])), (r0, .inr (0, [.ref b0])), (b0, .inl (cB, 1024, .inl f0)), (r1, .inr (0, [.ref b1])), (b1, .inl (cB, 1024, .inl f1)), (tr, .inr (0, [.ref bt])), (bt, .inl (cB, 1024, .inl (kl_T u.1 p1 p2 p3 p4 p5))), (vo, .inr (1, [.long (lN (ky_le (kl_T u.1 p1 p2 p3 p4 p5) 0 4)), .long (lN (ky_le (kl_T u.1 p1 p2 p3 p4 p5) 4 4)), .long (lN (ky_le (kl_T u.1 p1 p2 p3 p4 p5) 20 4)), .long (lN (ky_le (kl_T u.1 p1 p2 p3 p4 p5) 24 4)), .long (kv_size (kl_T u.1 p1 p2 p3 p4 p5)), .long (lN (ky_le (kl_T u.1 p1 p2 p3 p4 p5) 32 4)), .long (lN (ky_le (kl_T u.1 p1 p2 p3 p4 p5) 40 4)), .long (lN (ky_le (kl_T u.1 p1 p2 p3 p4 p5) 88 2)), .int (kv_few (kl_T u.1 p1 p2 p3 p4 p5)), .long (kv_gc (kl_T u.1 p1 p2 p3 p4 p5)), .long (kv_cb (kl_T u.1 p1 p2 p3 p4 p5)), .long (kv_rk (kl_T u.1 p1 p2 p3 p4 p5))]))]) hP hD hS hA [7, 5, 6] [0, 1, 2, 3, 4] [0, 1, 2, 3, 4, 6, 7, 5] rfl rfl rfl (by decide) rfl rfl (va_runV (As := [.ref tr]) (rest := []) ⟨hx, hb, hml, hown, hts⟩ (c_Vol_firstFaultOf l D cB cI _ vo (lN (ky_le (kl_T1 u.1 p1 p2 p3 p4 p5) 0 4)) (lN (ky_le (kl_T1 u.1 p1 p2 p3 p4 p5) 4 4)) (lN (ky_le (kl_T1 u.1 p1 p2 p3 p4 p5) 20 4)) (lN (ky_le (kl_T1 u.1 p1 p2 p3 p4 p5) 24 4)) (kv_size (kl_T1 u.1 p1 p2 p3 p4 p5)) (lN (ky_le (kl_T1 u.1 p1 p2 p3 p4 p5) 32 4)) (lN (ky_le (kl_T1 u.1 p1 p2 p3 p4 p5) 40 4)) (lN (ky_le (kl_T1 u.1 p1 p2 p3 p4 p5) 88 2)) (kv_few (kl_T1 u.1 p1 p2 p3 p4 p5)) (kv_gc (kl_T1 u.1 p1 p2 p3 p4 p5)) (kv_cb (kl_T1 u.1 p1 p2 p3 p4 p5)) (kv_rk (kl_T1 u.1 p1 p2 p3 p4 p5)) tr bt (kl_T u.1 p1 p2 p3 p4 p5)) ⟨callB_of 1 hts g_Vol_firstFaultOf rfl rfl rfl (hts _ q1_3) (hts _ q1_122) h_Vol_firstFaultOf ⟨Nat.le_of_ble_eq_true rfl, Nat.le_of_ble_eq_true rfl⟩, (hts _ q1_123), (hts _ q1_124)⟩ ⟨kf_bl, va_recv hE.1 hP (ci := 1) (q0 := 7) rfl rfl, kf_to hP hD hS hA hE [7, 5, 6] rfl rfl⟩ rfl rfl hl.1 rfl (lv_room (Nat.le_of_ble_eq_true rfl)) d_FR_lay_169 ⟨Nat.zero_le _, Nat.zero_le _⟩) (fun H locs hP hD hS => ?_)
      refine W.eq (g2 := F0 m 172 ls [.int (kv_fault (kl_T u.1 p1 p2 p3 p4 p5))]) rfl ?_
      refine lv_bipush (v := -2) hx hb d_FR_lay_172 (by decide) ?_
      refine lv_icmp_eq (tgt := 179) hx hb d_FR_lay_174 (by decide) (fun c174 => ?_) (fun c174 => ?_)
      · refine lv_aload_n hx hb d_FR_lay_179 rfl (lv_at hl 0 rfl) ?_
        refine va_get (D := D) (ci := 2) (v := .ref r0) (C := "FieldRows") (T := F_FR) (N := 4) hx hb hts ku_FR hown hE.1 hP 0 rfl rfl 0 (by decide) (hts _ q1_208) (fun _ h9 => h9) rfl d_FR_lay_180 ?_
        refine lv_aload_n hx hb d_FR_lay_183 rfl (lv_at hl 0 rfl) ?_
        refine va_get (D := D) (ci := 2) (v := .ref tr) (C := "FieldRows") (T := F_FR) (N := 4) hx hb hts ku_FR hown hE.1 hP 0 rfl rfl 2 (by decide) (hts _ q1_210) (fun _ h9 => h9) rfl d_FR_lay_184 ?_
        refine kf_kc (wr := [(x, .inr (2, [.ref r0, .ref r1, .ref tr, .ref vo])), (r1, .inr (0, [.ref b1])), (b1, .inl (cB, 1024, .inl f1)), (vo, .inr (1, [.long (lN (ky_le (kl_T u.1 p1 p2 p3 p4 p5) 0 4)), .long (lN (ky_le (kl_T u.1 p1 p2 p3 p4 p5) 4 4)), .long (lN (ky_le (kl_T u.1 p1 p2 p3 p4 p5) 20 4)), .long (lN (ky_le (kl_T u.1 p1 p2 p3 p4 p5) 24 4)), .long (kv_size (kl_T u.1 p1 p2 p3 p4 p5)), .long (lN (ky_le (kl_T u.1 p1 p2 p3 p4 p5) 32 4)), .long (lN (ky_le (kl_T u.1 p1 p2 p3 p4 p5) 40 4)), .long (lN (ky_le (kl_T u.1 p1 p2 p3 p4 p5) 88 2)), .int (kv_few (kl_T u.1 p1 p2 p3 p4 p5)), .long (kv_gc (kl_T u.1 p1 p2 p3 p4 p5)), .long (kv_cb (kl_T u.1 p1 p2 p3 p4 p5)), .long (kv_rk (kl_T u.1 p1 p2 p3 p4 p5))]))]) (w1 := [(r0, .inr (0, [.ref b0])), (b0, .inl (cB, 1024, .inl (ky_cp f0 (kl_T u.1 p1 p2 p3 p4 p5) 1024))), (tr, .inr (0, [.ref bt])), (bt, .inl (cB, 1024, .inl (kl_T u.1 p1 p2 p3 p4 p5)))]) (ws2 := [(x, .inr (2, [.ref r0, .ref r1, .ref tr, .ref vo])), (r0, .inr (0, [.ref b0])), (b0, .inl (cB, 1024, .inl (ky_cp f0 (kl_T u.1 p1 p2 p3 p4 p5) 1024))), (r1, .inr (0, [.ref b1])), (b1, .inl (cB, 1024, .inl f1)), (tr, .inr (0, [.ref bt])), (bt, .inl (cB, 1024, .inl (kl_T u.1 p1 p2 p3 p4 p5))), (vo, .inr (1, [.long (lN (ky_le (kl_T u.1 p1 p2 p3 p4 p5) 0 4)), .long (lN (ky_le (kl_T u.1 p1 p2 p3 p4 p5) 4 4)), .long (lN (ky_le (kl_T u.1 p1 p2 p3 p4 p5) 20 4)), .long (lN (ky_le (kl_T u.1 p1 p2 p3 p4 p5) 24 4)), .long (kv_size (kl_T u.1 p1 p2 p3 p4 p5)), .long (lN (ky_le (kl_T u.1 p1 p2 p3 p4 p5) 32 4)), .long (lN (ky_le (kl_T u.1 p1 p2 p3 p4 p5) 40 4)), .long (lN (ky_le (kl_T u.1 p1 p2 p3 p4 p5) 88 2)), .int (kv_few (kl_T u.1 p1 p2 p3 p4 p5)), .long (kv_gc (kl_T u.1 p1 p2 p3 p4 p5)), .long (kv_cb (kl_T u.1 p1 p2 p3 p4 p5)), .long (kv_rk (kl_T u.1 p1 p2 p3 p4 p5))]))]) hP hD hS hA [1, 2, 5, 6] [0, 3, 4, 7] [0, 4, 5, 1, 2, 6, 7, 3] rfl rfl rfl (by decide) rfl rfl (va_runV (As := [.ref tr]) (rest := []) ⟨hx, hb, hml, hown, hts⟩ (c_Row_takeAll l D cB cI _ r0 b0 f0 tr bt (kl_T u.1 p1 p2 p3 p4 p5)) ⟨callB_of 1 hts g_Row_takeAll rfl rfl rfl (hts _ q1_2) (hts _ q1_204) h_Row_takeAll ⟨Nat.le_of_ble_eq_true rfl, Nat.le_of_ble_eq_true rfl⟩, (hts _ q1_205), (hts _ q1_206)⟩ ⟨kf_bl, va_recv hE.1 hP (ci := 0) (q0 := 1) rfl rfl, kf_to hP hD hS hA hE [1, 2, 5, 6] rfl rfl⟩ rfl rfl hl.1 rfl (lv_room (Nat.le_of_ble_eq_true rfl)) d_FR_lay_187 ⟨Nat.zero_le _, Nat.zero_le _⟩) (fun H locs hP hD hS => ?_)
        refine W.eq (g2 := F0 m 190 ls []) rfl ?_
        refine lv_aload_n hx hb d_FR_lay_190 rfl (lv_at hl 0 rfl) ?_
        refine va_get (D := D) (ci := 2) (v := .ref r1) (C := "FieldRows") (T := F_FR) (N := 4) hx hb hts ku_FR hown hE.1 hP 0 rfl rfl 1 (by decide) (hts _ q1_209) (fun _ h9 => h9) rfl d_FR_lay_191 ?_
        refine lv_aload_n hx hb d_FR_lay_194 rfl (lv_at hl 0 rfl) ?_
        refine va_get (D := D) (ci := 2) (v := .ref tr) (C := "FieldRows") (T := F_FR) (N := 4) hx hb hts ku_FR hown hE.1 hP 0 rfl rfl 2 (by decide) (hts _ q1_210) (fun _ h9 => h9) rfl d_FR_lay_195 ?_
        refine kf_kc (wr := [(x, .inr (2, [.ref r0, .ref r1, .ref tr, .ref vo])), (r0, .inr (0, [.ref b0])), (b0, .inl (cB, 1024, .inl (ky_cp f0 (kl_T u.1 p1 p2 p3 p4 p5) 1024))), (vo, .inr (1, [.long (lN (ky_le (kl_T u.1 p1 p2 p3 p4 p5) 0 4)), .long (lN (ky_le (kl_T u.1 p1 p2 p3 p4 p5) 4 4)), .long (lN (ky_le (kl_T u.1 p1 p2 p3 p4 p5) 20 4)), .long (lN (ky_le (kl_T u.1 p1 p2 p3 p4 p5) 24 4)), .long (kv_size (kl_T u.1 p1 p2 p3 p4 p5)), .long (lN (ky_le (kl_T u.1 p1 p2 p3 p4 p5) 32 4)), .long (lN (ky_le (kl_T u.1 p1 p2 p3 p4 p5) 40 4)), .long (lN (ky_le (kl_T u.1 p1 p2 p3 p4 p5) 88 2)), .int (kv_few (kl_T u.1 p1 p2 p3 p4 p5)), .long (kv_gc (kl_T u.1 p1 p2 p3 p4 p5)), .long (kv_cb (kl_T u.1 p1 p2 p3 p4 p5)), .long (kv_rk (kl_T u.1 p1 p2 p3 p4 p5))]))]) (w1 := [(r1, .inr (0, [.ref b1])), (b1, .inl (cB, 1024, .inl (ky_cp f1 (kl_T u.1 p1 p2 p3 p4 p5) 1024))), (tr, .inr (0, [.ref bt])), (bt, .inl (cB, 1024, .inl (kl_T u.1 p1 p2 p3 p4 p5)))]) (ws2 := [(x, .inr (2, [.ref r0, .ref r1, .ref tr, .ref vo])), (r0, .inr (0, [.ref b0])), (b0, .inl (cB, 1024, .inl (ky_cp f0 (kl_T u.1 p1 p2 p3 p4 p5) 1024))), (r1, .inr (0, [.ref b1])), (b1, .inl (cB, 1024, .inl (ky_cp f1 (kl_T u.1 p1 p2 p3 p4 p5) 1024))), (tr, .inr (0, [.ref bt])), (bt, .inl (cB, 1024, .inl (kl_T u.1 p1 p2 p3 p4 p5))), (vo, .inr (1, [.long (lN (ky_le (kl_T u.1 p1 p2 p3 p4 p5) 0 4)), .long (lN (ky_le (kl_T u.1 p1 p2 p3 p4 p5) 4 4)), .long (lN (ky_le (kl_T u.1 p1 p2 p3 p4 p5) 20 4)), .long (lN (ky_le (kl_T u.1 p1 p2 p3 p4 p5) 24 4)), .long (kv_size (kl_T u.1 p1 p2 p3 p4 p5)), .long (lN (ky_le (kl_T u.1 p1 p2 p3 p4 p5) 32 4)), .long (lN (ky_le (kl_T u.1 p1 p2 p3 p4 p5) 40 4)), .long (lN (ky_le (kl_T u.1 p1 p2 p3 p4 p5) 88 2)), .int (kv_few (kl_T u.1 p1 p2 p3 p4 p5)), .long (kv_gc (kl_T u.1 p1 p2 p3 p4 p5)), .long (kv_cb (kl_T u.1 p1 p2 p3 p4 p5)), .long (kv_rk (kl_T u.1 p1 p2 p3 p4 p5))]))]) hP hD hS hA [3, 4, 5, 6] [0, 1, 2, 7] [0, 1, 2, 4, 5, 6, 7, 3] rfl rfl rfl (by decide) rfl rfl (va_runV (As := [.ref tr]) (rest := []) ⟨hx, hb, hml, hown, hts⟩ (c_Row_takeAll l D cB cI _ r1 b1 f1 tr bt (kl_T u.1 p1 p2 p3 p4 p5)) ⟨callB_of 1 hts g_Row_takeAll rfl rfl rfl (hts _ q1_2) (hts _ q1_204) h_Row_takeAll ⟨Nat.le_of_ble_eq_true rfl, Nat.le_of_ble_eq_true rfl⟩, (hts _ q1_205), (hts _ q1_206)⟩ ⟨kf_bl, va_recv hE.1 hP (ci := 0) (q0 := 3) rfl rfl, kf_to hP hD hS hA hE [3, 4, 5, 6] rfl rfl⟩ rfl rfl hl.1 rfl (lv_room (Nat.le_of_ble_eq_true rfl)) d_FR_lay_198 ⟨Nat.zero_le _, Nat.zero_le _⟩) (fun H locs hP hD hS => ?_)
        refine W.eq (g2 := F0 m 201 ls []) rfl ?_
        refine lv_aload_n hx hb d_FR_lay_201 rfl (lv_at hl 0 rfl) ?_
        refine va_get (D := D) (ci := 2) (v := .ref vo) (C := "FieldRows") (T := F_FR) (N := 4) hx hb hts ku_FR hown hE.1 hP 0 rfl rfl 3 (by decide) (hts _ q1_211) (fun _ h9 => h9) rfl d_FR_lay_202 ?_
        refine va_getN (D := D) (ci := 1) (v := .long (kv_gc (kl_T u.1 p1 p2 p3 p4 p5))) (C := "FieldRows$Volume") (T := F_Vol) (N := 12) hx hb hts ku_Vol hown hE.1 hP 7 rfl rfl 9 (by decide) (va_Nw.use rfl (hE.2.1 _ q1_45)) (fun _ h9 => h9) rfl d_FR_lay_205 ?_
        refine lv_l2i hx hb d_FR_lay_208 rfl ?_
        have hq : kl_P u.1 p1 p2 p3 p4 p5 := ⟨c2, c9, c174⟩
        simp only [if_pos hq]
        exact kf_irB hx hb hr hlocks (kx_at hP hD) hS (rfl) d_FR_lay_209
      · refine lv_iconst (v := -1) hx hb d_FR_lay_177 (by decide) ?_
        have hq : ¬ kl_P u.1 p1 p2 p3 p4 p5 := fun q => c174 q.2.2
        simp only [if_neg hq]
        exact kf_irB hx hb hr hlocks (kx_at hP hD) hS (rfl) d_FR_lay_178
    · refine lv_iconst (v := -1) hx hb d_FR_lay_12 (by decide) ?_
      have hq : ¬ kl_P u.1 p1 p2 p3 p4 p5 := fun q => c9 q.2.1
      simp only [if_neg hq]
      exact kf_irB hx hb hr hlocks (kx_at hP hD) hS (rfl) d_FR_lay_13
