set_option maxRecDepth 100000 in
set_option maxHeartbeats 4000000 in
theorem c_Mo_isRow (l : Launch) (D : va_G) (cB cI : ClassId) (hz : Nat) (p0 : Int32) : kf_Ct l y_Mo_isRow w_Mo_isRow 0 0 0 0 D (kT cB cI) [.int p0] [] hz (some (.int (kP (p0 = 0 ∨ p0 = 1)))) (kf_po D []) := by
  refine kf_of (cc := b_Mo_isRow) (maxL := 1) (ret := (some .boolean)) (by decide) rfl (Nat.le_of_ble_eq_true rfl) ?_
  intro p e s m below meth c A H locs hx hb hr hml hown hts hlocks hin hP hD hS hA hE ls hl
  have hl : lv_has ls 1 [(0, .int p0)] := hl
  refine lv_iload_n hx hb d_Mo_isRow_0 rfl (lv_at hl 0 rfl) ?_
  refine lv_if_eq (tgt := 9) hx hb d_Mo_isRow_1 (by decide) (fun c1 => ?_) (fun c1 => ?_)
  · refine lv_iconst (v := 1) hx hb d_Mo_isRow_9 (by decide) ?_
    refine lv_goto (tgt := 14) hx hb d_Mo_isRow_10 (by decide) ?_
    exact kf_zr hx hb hr hlocks hP hD hS (kP_t (by grind)) (kP_nar) d_Mo_isRow_14
  · refine lv_iload_n hx hb d_Mo_isRow_4 rfl (lv_at hl 0 rfl) ?_
    refine lv_iconst (v := 1) hx hb d_Mo_isRow_5 (by decide) ?_
    refine lv_icmp_ne (tgt := 13) hx hb d_Mo_isRow_6 (by decide) (fun c6 => ?_) (fun c6 => ?_)
    · refine lv_iconst (v := 0) hx hb d_Mo_isRow_13 (by decide) ?_
      exact kf_zr hx hb hr hlocks hP hD hS (kP_f (by grind)) (kP_nar) d_Mo_isRow_14
    · refine lv_iconst (v := 1) hx hb d_Mo_isRow_9 (by decide) ?_
      refine lv_goto (tgt := 14) hx hb d_Mo_isRow_10 (by decide) ?_
      exact kf_zr hx hb hr hlocks hP hD hS (kP_t (by grind)) (kP_nar) d_Mo_isRow_14

set_option maxRecDepth 100000 in
set_option maxHeartbeats 4000000 in
theorem c_Mo_up (l : Launch) (D : va_G) (cB cI : ClassId) (hz : Nat) (p0 : Int64) (p1 : Int64) (hb1 : 1 ≤ p1) : kf_Ct l y_Mo_up w_Mo_up 0 0 0 0 D (kT cB cI) [.long p0, .long p1] [] hz (some (.long (ky_qU p0 p1))) (kf_po D []) := by
  refine kf_of (cc := b_Mo_up) (maxL := 4) (ret := (some .long)) (by decide) rfl (Nat.le_of_ble_eq_true rfl) ?_
  intro p e s m below meth c A H locs hx hb hr hml hown hts hlocks hin hP hD hS hA hE ls hl
  have hl : lv_has ls 4 [(0, .long p0), (2, .long p1)] := hl
  refine lv_lload_n hx hb d_Mo_up_0 rfl (lv_at hl 0 rfl) ?_
  refine lv_lload_n hx hb d_Mo_up_1 rfl (lv_at hl 1 rfl) ?_
  refine lv_ladd hx hb d_Mo_up_2 ?_
  refine lv_lconst (v := 1) hx hb d_Mo_up_3 (by decide) ?_
  refine lv_lsub hx hb d_Mo_up_4 ?_
  refine lv_lload_n hx hb d_Mo_up_5 rfl (lv_at hl 1 rfl) ?_
  refine lv_ldiv hx hb d_Mo_up_6 (km_ne0 hb1) ?_
  exact kf_lr hx hb hr hlocks hP hD hS (by unfold ky_qU ky_q; rw [if_pos hb1]) d_Mo_up_7

set_option maxRecDepth 100000 in
set_option maxHeartbeats 4000000 in
theorem c_Mo_isIn (l : Launch) (D : va_G) (cB cI : ClassId) (hz : Nat) (p0 : Int64) (p1 : Int64) (p2 : Int64) : kf_Ct l y_Mo_isIn w_Mo_isIn 0 0 0 0 D (kT cB cI) [.long p0, .long p1, .long p2] [] hz (some (.int (kP (km_inP p0 p1 p2)))) (kf_po D []) := by
  refine kf_of (cc := b_Mo_isIn) (maxL := 6) (ret := (some .boolean)) (by decide) rfl (Nat.le_of_ble_eq_true rfl) ?_
  intro p e s m below meth c A H locs hx hb hr hml hown hts hlocks hin hP hD hS hA hE ls hl
  have hl : lv_has ls 6 [(0, .long p0), (2, .long p1), (4, .long p2)] := hl
  refine lv_lload_n hx hb d_Mo_isIn_0 rfl (lv_at hl 0 rfl) ?_
  refine lv_lload_n hx hb d_Mo_isIn_1 rfl (lv_at hl 1 rfl) ?_
  refine kf_lc_lt (tgt := 17) hx hb d_Mo_isIn_2 d_Mo_isIn_3 (by decide) (fun c2 => ?_) (fun c2 => ?_)
  · refine lv_iconst (v := 0) hx hb d_Mo_isIn_17 (by decide) ?_
    exact kf_zr hx hb hr hlocks hP hD hS (kP_f (by grind)) (kP_nar) d_Mo_isIn_18
  · refine lv_lload_n hx hb d_Mo_isIn_6 rfl (lv_at hl 0 rfl) ?_
    refine lv_lload hx hb d_Mo_isIn_7 (lv_at hl 2 rfl) ?_
    refine kf_lc_gt (tgt := 17) hx hb d_Mo_isIn_9 d_Mo_isIn_10 (by decide) (fun c9 => ?_) (fun c9 => ?_)
    · refine lv_iconst (v := 0) hx hb d_Mo_isIn_17 (by decide) ?_
      exact kf_zr hx hb hr hlocks hP hD hS (kP_f (by grind)) (kP_nar) d_Mo_isIn_18
    · refine lv_iconst (v := 1) hx hb d_Mo_isIn_13 (by decide) ?_
      refine lv_goto (tgt := 18) hx hb d_Mo_isIn_14 (by decide) ?_
      exact kf_zr hx hb hr hlocks hP hD hS (kP_t (by grind)) (kP_nar) d_Mo_isIn_18

set_option maxRecDepth 100000 in
set_option maxHeartbeats 4000000 in
theorem c_Mo_field (l : Launch) (D : va_G) (cB cI : ClassId) (hz : Nat) (h1 : Nat) (f : Nat → Int32) (hf : km_ok f) (a : Nat) (n : Nat) (han : a + n ≤ 1024) : kf_Ct l y_Mo_field w_Mo_field 0 0 0 0 D (kT cB cI) [.ref h1, .int (nI a), .int (nI n)] [(h1, .inl (cI, 1024, .inl f))] hz (some (.long (lN (ky_le f a n)))) (kf_po D [(h1, .inl (cI, 1024, .inl f))]) := by
  refine kf_of (cc := b_Mo_field) (maxL := 6) (ret := (some .long)) (by decide) rfl (Nat.le_of_ble_eq_true rfl) ?_
  intro p e s m below meth c A H locs hx hb hr hml hown hts hlocks hin hP hD hS hA hE ls hl
  have hl : lv_has ls 6 [(0, .ref h1), (1, .int (nI a)), (2, .int (nI n))] := hl
  refine lv_lconst (v := 0) hx hb d_Mo_field_0 (by decide) ?_
  refine kf_tl (y := lN (ky_le f (a + n) (n - n))) (by rw [Nat.sub_self]; rfl) ?_
  refine lv_lstore_n (lv' := [(3, .long (lN (ky_le f (a + n) (n - n)))), (0, .ref h1), (1, .int (nI a)), (2, .int (nI n))]) hx hb d_Mo_field_1 rfl hl (by decide) rfl (fun ls hl => ?_)
  refine lv_iload_n hx hb d_Mo_field_2 rfl (lv_at hl 3 rfl) ?_
  refine lv_iconst (v := 1) hx hb d_Mo_field_3 (by decide) ?_
  refine lv_isub hx hb d_Mo_field_4 ?_
  refine lv_istore (lv' := [(5, .int ((nI n) - 1)), (3, .long (lN (ky_le f (a + n) (n - n)))), (0, .ref h1), (1, .int (nI a)), (2, .int (nI n))]) hx hb d_Mo_field_5 hl (by decide) rfl (fun ls hl => ?_)
  refine kf_loop (σ := Nat) (fun k ls H locs => (k ≤ n) ∧ lv_has ls 6 [(5, .int (nI k - 1)), (3, .long (lN (ky_le f (a + k) (n - k)))), (0, .ref h1), (1, .int (nI a)), (2, .int (nI n))] ∧ va_P D vwCl [(h1, .inl (cI, 1024, .inl f))] H ∧ va_D A [(h1, .inl (cI, 1024, .inl f))] ∧ va_S A s.heap H locs) (fun k => k) n ⟨Nat.le_refl n, lv_sub hl [0, 1, 2, 3, 4] rfl, hP, hD, hS⟩ (fun k ls H locs hI ih => ?_)
  obtain ⟨hk, hl, hP, hD, hS⟩ := hI
  rcases k with _ | k
  · refine lv_iload hx hb d_Mo_field_7 (lv_at hl 0 rfl) ?_
    refine lv_if_lt (tgt := 32) hx hb d_Mo_field_9 (by decide) (fun c9 => ?_) (fun c9 => absurd (by decide) c9)
    refine lv_lload_n hx hb d_Mo_field_32 rfl (lv_at hl 1 rfl) ?_
    exact kf_lr hx hb hr hlocks hP hD hS (rfl) d_Mo_field_33
  · refine lv_iload hx hb d_Mo_field_7 (lv_at hl 0 rfl) ?_
    refine lv_if_lt (tgt := 32) hx hb d_Mo_field_9 (by decide) (fun c9 => absurd c9 (by rw [nI_pred]; exact nI_pos (by omega))) (fun c9 => ?_)
    refine lv_ldc2 (v := 256) hx hb hown (hts _ q2_79) d_Mo_field_12 ?_
    refine lv_lload_n hx hb d_Mo_field_15 rfl (lv_at hl 1 rfl) ?_
    refine lv_lmul hx hb d_Mo_field_16 ?_
    refine lv_aload_n hx hb d_Mo_field_17 rfl (lv_at hl 2 rfl) ?_
    refine lv_iload_n hx hb d_Mo_field_18 rfl (lv_at hl 3 rfl) ?_
    refine lv_iload hx hb d_Mo_field_19 (lv_at hl 0 rfl) ?_
    refine lv_iadd hx hb d_Mo_field_21 ?_
    refine kf_ti (y := nI (a + k)) (by rw [nI_pred, nI_add]) ?_
    refine va_iald hx hb hE.1 hP 0 1 rfl rfl (vp_in_nI (by omega) (by decide)) d_Mo_field_22 ?_
    refine kf_ti (y := nI (ky_by f (a + k))) (by rw [nI_clamp (by omega)]; exact hf (a + k) (by omega)) ?_
    refine lv_i2l hx hb d_Mo_field_23 rfl ?_
    refine lv_ladd hx hb d_Mo_field_24 ?_
    refine kf_tl (y := lN (ky_le f (a + k) (n - k))) (by rw [nI_l (Nat.lt_trans (ky_by_lt f _) (by decide)), show (256 : Int64) = lN 256 from rfl, lN_mul, lN_add, show n - k = (n - (k + 1)) + 1 by omega]; congr 1; show 256 * ky_le f (a + (k + 1)) (n - (k + 1)) + ky_by f (a + k) = ky_by f (a + k) + 256 * ky_le f (a + k + 1) (n - (k + 1)); rw [Nat.add_comm]; rfl) ?_
    refine lv_lstore_n (lv' := [(3, .long (lN (ky_le f (a + k) (n - k)))), (5, .int (nI (k + 1) - 1)), (0, .ref h1), (1, .int (nI a)), (2, .int (nI n))]) hx hb d_Mo_field_25 rfl hl (by decide) rfl (fun ls hl => ?_)
    refine lv_iinc (v := nI k - 1) (lv' := [(5, .int (nI k - 1)), (3, .long (lN (ky_le f (a + k) (n - k)))), (0, .ref h1), (1, .int (nI a)), (2, .int (nI n))]) hx hb d_Mo_field_26 hl (k := 1) rfl (by rw [nI_pred, Int32.sub_eq_add_neg]; rfl) (by decide) rfl (fun ls hl => ?_)
    refine lv_goto (tgt := 7) hx hb d_Mo_field_29 (by decide) ?_
    exact ih k _ _ _ (by omega) ⟨by omega, lv_sub hl [0, 1, 2, 3, 4] rfl, hP, hD, hS⟩

set_option maxRecDepth 100000 in
set_option maxHeartbeats 4000000 in
theorem c_Mo_set (l : Launch) (D : va_G) (cB cI : ClassId) (hz : Nat) (h1 : Nat) (f : Nat → Int32) (a : Nat) (n : Nat) (v : Int64) (han : a + n ≤ 1024) : kf_Ct l y_Mo_set w_Mo_set 0 0 0 0 D (kT cB cI) [.ref h1, .int (nI a), .int (nI n), .long v] [(h1, .inl (cI, 1024, .inl f))] hz none (kf_po D [(h1, .inl (cI, 1024, .inl (km_st f a v n)))]) := by
  refine kf_of (cc := b_Mo_set) (maxL := 6) (ret := none) (by decide) rfl (Nat.le_of_ble_eq_true rfl) ?_
  intro p e s m below meth c A H locs hx hb hr hml hown hts hlocks hin hP hD hS hA hE ls hl
  have hl : lv_has ls 6 [(0, .ref h1), (1, .int (nI a)), (2, .int (nI n)), (3, .long v)] := hl
  refine lv_iconst (v := 0) hx hb d_Mo_set_0 (by decide) ?_
  refine kf_ti (y := nI 0) (rfl) ?_
  refine lv_istore (lv' := [(5, .int (nI 0)), (0, .ref h1), (1, .int (nI a)), (2, .int (nI n)), (3, .long v)]) hx hb d_Mo_set_1 hl (by decide) rfl (fun ls hl => ?_)
  refine kf_loop (σ := Nat) (fun k ls H locs => (k ≤ n) ∧ lv_has ls 6 [(5, .int (nI k)), (0, .ref h1), (1, .int (nI a)), (2, .int (nI n)), (3, .long v)] ∧ va_P D vwCl [(h1, .inl (cI, 1024, .inl (km_st f a v k)))] H ∧ va_D A [(h1, .inl (cI, 1024, .inl (km_st f a v k)))] ∧ va_S A s.heap H locs) (fun k => n - k) 0 ⟨Nat.zero_le n, lv_sub hl [0, 1, 2, 3, 4] rfl, hP, hD, hS⟩ (fun k ls H locs hI ih => ?_)
  obtain ⟨hk, hl, hP, hD, hS⟩ := hI
  rcases Nat.lt_or_ge k n with hkn | hkn
  · refine lv_iload hx hb d_Mo_set_3 (lv_at hl 0 rfl) ?_
    refine lv_iload_n hx hb d_Mo_set_5 rfl (lv_at hl 3 rfl) ?_
    refine lv_icmp_ge (tgt := 33) hx hb d_Mo_set_6 (by decide) (fun c6 => absurd c6 (nI_ge hkn (by omega))) (fun c6 => ?_)
    refine lv_aload_n hx hb d_Mo_set_9 rfl (lv_at hl 1 rfl) ?_
    refine lv_iload_n hx hb d_Mo_set_10 rfl (lv_at hl 2 rfl) ?_
    refine lv_iload hx hb d_Mo_set_11 (lv_at hl 0 rfl) ?_
    refine lv_iadd hx hb d_Mo_set_13 ?_
    refine kf_ti (y := nI (a + k)) (nI_add a k) ?_
    refine lv_lload_n hx hb d_Mo_set_14 rfl (lv_at hl 4 rfl) ?_
    refine lv_bipush (v := 8) hx hb d_Mo_set_15 (by decide) ?_
    refine lv_iload hx hb d_Mo_set_17 (lv_at hl 0 rfl) ?_
    refine lv_imul hx hb d_Mo_set_19 ?_
    refine lv_lshr hx hb d_Mo_set_20 rfl ?_
    refine lv_ldc2 (v := 255) hx hb hown (hts _ q2_65) d_Mo_set_21 ?_
    refine lv_land hx hb d_Mo_set_24 ?_
    refine lv_l2i hx hb d_Mo_set_25 rfl ?_
    refine va_iast hx hb hE.1 hP hD hS 0 1 rfl rfl (vp_in_nI (by omega) (by decide)) d_Mo_set_26 (fun H locs hP hD hS => ?_)
    have ef : upd (km_st f a v k) (nI (a + k)).toNatClampNeg (((v >>> ((8 * (nI k)).toInt64 &&& 63)) &&& 255).toInt32) = km_st f a v (k + 1) := by rw [nI_clamp (by omega)]; rfl
    rw [ef] at hP hD
    have hP : va_P D vwCl [(h1, .inl (cI, 1024, .inl (km_st f a v (k + 1))))] H := hP
    have hD : va_D A [(h1, .inl (cI, 1024, .inl (km_st f a v (k + 1))))] := hD
    refine lv_iinc (v := nI (k + 1)) (lv' := [(5, .int (nI (k + 1))), (0, .ref h1), (1, .int (nI a)), (2, .int (nI n)), (3, .long v)]) hx hb d_Mo_set_27 hl (k := 0) rfl ((nI_succ k).symm) (by decide) rfl (fun ls hl => ?_)
    refine lv_goto (tgt := 3) hx hb d_Mo_set_30 (by decide) ?_
    exact ih (k + 1) _ _ _ (by omega) ⟨by omega, lv_sub hl [0, 1, 2, 3, 4] rfl, hP, hD, hS⟩
  · refine lv_iload hx hb d_Mo_set_3 (lv_at hl 0 rfl) ?_
    refine lv_iload_n hx hb d_Mo_set_5 rfl (lv_at hl 3 rfl) ?_
    refine lv_icmp_ge (tgt := 33) hx hb d_Mo_set_6 (by decide) (fun c6 => ?_) (fun c6 => absurd (nI_le hkn (by omega)) c6)
    obtain rfl : k = n := by omega
    exact kf_vr hx hb hr hlocks (kf_poAt hP hD) hS d_Mo_set_33

set_option maxRecDepth 100000 in
set_option maxHeartbeats 4000000 in
theorem c_Mo_has (l : Launch) (D : va_G) (cB cI : ClassId) (hz : Nat) (h1 : Nat) (f : Nat → Int32) (hf : km_ok f) (a : Nat) (b : Nat) (ha : a + 4 ≤ 1024) (hb32 : b < 32) : kf_Ct l y_Mo_has w_Mo_has 1 25 0 0 D (kT cB cI) [.ref h1, .int (nI a), .int (nI b)] [(h1, .inl (cI, 1024, .inl f))] hz (some (.int (kP (km_hasP f a b)))) (kf_po D [(h1, .inl (cI, 1024, .inl f))]) := by
  refine kf_of (cc := b_Mo_has) (maxL := 3) (ret := (some .boolean)) (by decide) rfl (Nat.le_of_ble_eq_true rfl) ?_
  intro p e s m below meth c A H locs hx hb hr hml hown hts hlocks hin hP hD hS hA hE ls hl
  have hl : lv_has ls 3 [(0, .ref h1), (1, .int (nI a)), (2, .int (nI b))] := hl
  refine lv_aload_n hx hb d_Mo_has_0 rfl (lv_at hl 0 rfl) ?_
  refine lv_iload_n hx hb d_Mo_has_1 rfl (lv_at hl 1 rfl) ?_
  refine lv_iconst (v := 4) hx hb d_Mo_has_2 (by decide) ?_
  refine kf_ro hP hD hS hA [0] rfl (va_runS (As := [.ref h1, .int (nI a), .int 4]) (rest := []) ⟨hx, hb, hml, hown, hts⟩ (c_Mo_field l D cB cI _ h1 f hf a 4 (by omega)) ⟨callB_of 3 hts g_Mo_field rfl rfl rfl (hts _ q1_5) (hts _ q2_76) h_Mo_field ⟨Nat.le_of_ble_eq_true rfl, Nat.le_of_ble_eq_true rfl⟩, (hts _ q2_77)⟩ ⟨kf_bl, kf_to hP hD hS hA hE [0] rfl rfl⟩ rfl rfl hl.1 rfl (lv_room (Nat.le_of_ble_eq_true rfl)) d_Mo_has_3 ⟨Nat.zero_le _, Nat.zero_le _⟩) (fun H locs hP hS => ?_)
  refine W.eq (g2 := F0 m 6 ls [.long (lN (ky_le f a 4))]) rfl ?_
  refine lv_iload_n hx hb d_Mo_has_6 rfl (lv_at hl 2 rfl) ?_
  refine lv_lshr hx hb d_Mo_has_7 rfl ?_
  refine lv_lconst (v := 1) hx hb d_Mo_has_8 (by decide) ?_
  refine lv_land hx hb d_Mo_has_9 ?_
  refine lv_lconst (v := 1) hx hb d_Mo_has_10 (by decide) ?_
  refine kf_lc_ne (tgt := 19) hx hb d_Mo_has_11 d_Mo_has_12 (by decide) (fun c11 => ?_) (fun c11 => ?_)
  · refine lv_iconst (v := 0) hx hb d_Mo_has_19 (by decide) ?_
    exact kf_zr hx hb hr hlocks hP hD hS (kP_f (fun q => c11 ((km_has_eq (Nat.lt_of_lt_of_le (ky_le_lt f 4 a) (by decide)) hb32).mpr q))) (kP_nar) d_Mo_has_20
  · refine lv_iconst (v := 1) hx hb d_Mo_has_15 (by decide) ?_
    refine lv_goto (tgt := 20) hx hb d_Mo_has_16 (by decide) ?_
    exact kf_zr hx hb hr hlocks hP hD hS (kP_t ((km_has_eq (Nat.lt_of_lt_of_le (ky_le_lt f 4 a) (by decide)) hb32).mp c11)) (kP_nar) d_Mo_has_20

set_option maxRecDepth 100000 in
set_option maxHeartbeats 4000000 in
theorem c_Mo_sizeOf (l : Launch) (D : va_G) (cB cI : ClassId) (hz : Nat) (h1 : Nat) (f : Nat → Int32) (hf : km_ok f) : kf_Ct l y_Mo_sizeOf w_Mo_sizeOf 1 25 0 0 D (kT cB cI) [.ref h1] [(h1, .inl (cI, 1024, .inl f))] hz (some (.long (kv_size f))) (kf_po D [(h1, .inl (cI, 1024, .inl f))]) := by
  refine kf_of (cc := b_Mo_sizeOf) (maxL := 1) (ret := (some .long)) (by decide) rfl (Nat.le_of_ble_eq_true rfl) ?_
  intro p e s m below meth c A H locs hx hb hr hml hown hts hlocks hin hP hD hS hA hE ls hl
  have hl : lv_has ls 1 [(0, .ref h1)] := hl
  refine lv_ldc2 (v := 1024) hx hb hown (hts _ q2_93) d_Mo_sizeOf_0 ?_
  refine lv_aload_n hx hb d_Mo_sizeOf_3 rfl (lv_at hl 0 rfl) ?_
  refine lv_bipush (v := 24) hx hb d_Mo_sizeOf_4 (by decide) ?_
  refine lv_iconst (v := 4) hx hb d_Mo_sizeOf_6 (by decide) ?_
  refine kf_ro hP hD hS hA [0] rfl (va_runS (As := [.ref h1, .int 24, .int 4]) (rest := [.long 1024]) ⟨hx, hb, hml, hown, hts⟩ (c_Mo_field l D cB cI _ h1 f hf 24 4 (by decide)) ⟨callB_of 3 hts g_Mo_field rfl rfl rfl (hts _ q1_5) (hts _ q2_76) h_Mo_field ⟨Nat.le_of_ble_eq_true rfl, Nat.le_of_ble_eq_true rfl⟩, (hts _ q2_77)⟩ ⟨kf_bl, kf_to hP hD hS hA hE [0] rfl rfl⟩ rfl rfl hl.1 rfl (lv_room (Nat.le_of_ble_eq_true rfl)) d_Mo_sizeOf_7 ⟨Nat.zero_le _, Nat.zero_le _⟩) (fun H locs hP hS => ?_)
  refine W.eq (g2 := F0 m 10 ls [.long (lN (ky_le f 24 4)), .long 1024]) rfl ?_
  refine lv_l2i hx hb d_Mo_sizeOf_10 rfl ?_
  refine lv_lshl hx hb d_Mo_sizeOf_11 rfl ?_
  exact kf_lr hx hb hr hlocks hP hD hS (rfl) d_Mo_sizeOf_12

set_option maxRecDepth 100000 in
set_option maxHeartbeats 4000000 in
theorem c_Mo_groupsOf (l : Launch) (D : va_G) (cB cI : ClassId) (hz : Nat) (h1 : Nat) (f : Nat → Int32) (hf : km_ok f) (h32 : 1 ≤ lN (ky_le f 32 4)) : kf_Ct l y_Mo_groupsOf w_Mo_groupsOf 1 25 0 0 D (kT cB cI) [.ref h1] [(h1, .inl (cI, 1024, .inl f))] hz (some (.long (kv_gc f))) (kf_po D [(h1, .inl (cI, 1024, .inl f))]) := by
  refine kf_of (cc := b_Mo_groupsOf) (maxL := 1) (ret := (some .long)) (by decide) rfl (Nat.le_of_ble_eq_true rfl) ?_
  intro p e s m below meth c A H locs hx hb hr hml hown hts hlocks hin hP hD hS hA hE ls hl
  have hl : lv_has ls 1 [(0, .ref h1)] := hl
  refine lv_aload_n hx hb d_Mo_groupsOf_0 rfl (lv_at hl 0 rfl) ?_
  refine lv_iconst (v := 4) hx hb d_Mo_groupsOf_1 (by decide) ?_
  refine lv_iconst (v := 4) hx hb d_Mo_groupsOf_2 (by decide) ?_
  refine kf_ro hP hD hS hA [0] rfl (va_runS (As := [.ref h1, .int 4, .int 4]) (rest := []) ⟨hx, hb, hml, hown, hts⟩ (c_Mo_field l D cB cI _ h1 f hf 4 4 (by decide)) ⟨callB_of 3 hts g_Mo_field rfl rfl rfl (hts _ q1_5) (hts _ q2_76) h_Mo_field ⟨Nat.le_of_ble_eq_true rfl, Nat.le_of_ble_eq_true rfl⟩, (hts _ q2_77)⟩ ⟨kf_bl, kf_to hP hD hS hA hE [0] rfl rfl⟩ rfl rfl hl.1 rfl (lv_room (Nat.le_of_ble_eq_true rfl)) d_Mo_groupsOf_3 ⟨Nat.zero_le _, Nat.zero_le _⟩) (fun H locs hP hS => ?_)
  refine W.eq (g2 := F0 m 6 ls [.long (lN (ky_le f 4 4))]) rfl ?_
  refine lv_aload_n hx hb d_Mo_groupsOf_6 rfl (lv_at hl 0 rfl) ?_
  refine lv_bipush (v := 20) hx hb d_Mo_groupsOf_7 (by decide) ?_
  refine lv_iconst (v := 4) hx hb d_Mo_groupsOf_9 (by decide) ?_
  refine kf_ro hP hD hS hA [0] rfl (va_runS (As := [.ref h1, .int 20, .int 4]) (rest := [.long (lN (ky_le f 4 4))]) ⟨hx, hb, hml, hown, hts⟩ (c_Mo_field l D cB cI _ h1 f hf 20 4 (by decide)) ⟨callB_of 3 hts g_Mo_field rfl rfl rfl (hts _ q1_5) (hts _ q2_76) h_Mo_field ⟨Nat.le_of_ble_eq_true rfl, Nat.le_of_ble_eq_true rfl⟩, (hts _ q2_77)⟩ ⟨kf_bl, kf_to hP hD hS hA hE [0] rfl rfl⟩ rfl rfl hl.1 rfl (lv_room (Nat.le_of_ble_eq_true rfl)) d_Mo_groupsOf_10 ⟨Nat.zero_le _, Nat.zero_le _⟩) (fun H locs hP hS => ?_)
  refine W.eq (g2 := F0 m 13 ls [.long (lN (ky_le f 20 4)), .long (lN (ky_le f 4 4))]) rfl ?_
  refine lv_lsub hx hb d_Mo_groupsOf_13 ?_
  refine lv_aload_n hx hb d_Mo_groupsOf_14 rfl (lv_at hl 0 rfl) ?_
  refine lv_bipush (v := 32) hx hb d_Mo_groupsOf_15 (by decide) ?_
  refine lv_iconst (v := 4) hx hb d_Mo_groupsOf_17 (by decide) ?_
  refine kf_ro hP hD hS hA [0] rfl (va_runS (As := [.ref h1, .int 32, .int 4]) (rest := [.long ((lN (ky_le f 4 4)) - (lN (ky_le f 20 4)))]) ⟨hx, hb, hml, hown, hts⟩ (c_Mo_field l D cB cI _ h1 f hf 32 4 (by decide)) ⟨callB_of 3 hts g_Mo_field rfl rfl rfl (hts _ q1_5) (hts _ q2_76) h_Mo_field ⟨Nat.le_of_ble_eq_true rfl, Nat.le_of_ble_eq_true rfl⟩, (hts _ q2_77)⟩ ⟨kf_bl, kf_to hP hD hS hA hE [0] rfl rfl⟩ rfl rfl hl.1 rfl (lv_room (Nat.le_of_ble_eq_true rfl)) d_Mo_groupsOf_18 ⟨Nat.zero_le _, Nat.zero_le _⟩) (fun H locs hP hS => ?_)
  refine W.eq (g2 := F0 m 21 ls [.long (lN (ky_le f 32 4)), .long ((lN (ky_le f 4 4)) - (lN (ky_le f 20 4)))]) rfl ?_
  refine kf_ro hP hD hS hA [] rfl (va_runS (As := [.long ((lN (ky_le f 4 4)) - (lN (ky_le f 20 4))), .long (lN (ky_le f 32 4))]) (rest := []) ⟨hx, hb, hml, hown, hts⟩ (c_Mo_up l D cB cI _ ((lN (ky_le f 4 4)) - (lN (ky_le f 20 4))) (lN (ky_le f 32 4)) h32) ⟨callB_of 2 hts g_Mo_up rfl rfl rfl (hts _ q1_5) (hts _ q2_80) h_Mo_up ⟨Nat.le_of_ble_eq_true rfl, Nat.le_of_ble_eq_true rfl⟩, (hts _ q2_81)⟩ ⟨kf_bl, kf_to hP hD hS hA hE [] rfl rfl⟩ rfl rfl hl.1 rfl (lv_room (Nat.le_of_ble_eq_true rfl)) d_Mo_groupsOf_21 ⟨Nat.zero_le _, Nat.zero_le _⟩) (fun H locs hP hS => ?_)
  refine W.eq (g2 := F0 m 24 ls [.long (ky_qU ((lN (ky_le f 4 4)) - (lN (ky_le f 20 4))) (lN (ky_le f 32 4)))]) rfl ?_
  exact kf_lr hx hb hr hlocks hP hD hS (rfl) d_Mo_groupsOf_24

set_option maxRecDepth 100000 in
set_option maxHeartbeats 4000000 in
theorem c_Mo_isPower (l : Launch) (D : va_G) (cB cI : ClassId) (hz : Nat) (n : Nat) (q : Nat) (hn : n < 64) (hq : q = 3 ∨ q = 5 ∨ q = 7) : kf_Ct l y_Mo_isPower w_Mo_isPower 0 0 0 0 D (kT cB cI) [.long (lN n), .long (lN q)] [] hz (some (.int (kP (km_powP q n)))) (kf_po D []) := by
  refine kf_of (cc := b_Mo_isPower) (maxL := 6) (ret := (some .boolean)) (by decide) rfl (Nat.le_of_ble_eq_true rfl) ?_
  intro p e s m below meth c A H locs hx hb hr hml hown hts hlocks hin hP hD hS hA hE ls hl
  have hl : lv_has ls 6 [(0, .long (lN n)), (2, .long (lN q))] := hl
  refine lv_lconst (v := 1) hx hb d_Mo_isPower_0 (by decide) ?_
  refine kf_tl (y := lN (q ^ 0)) (rfl) ?_
  refine lv_lstore (lv' := [(4, .long (lN (q ^ 0))), (0, .long (lN n)), (2, .long (lN q))]) hx hb d_Mo_isPower_1 hl (by decide) rfl (fun ls hl => ?_)
  refine kf_loop (σ := Nat) (fun k ls H locs => (∀ i, i < k → q ^ i < n) ∧ lv_has ls 6 [(4, .long (lN (q ^ k))), (0, .long (lN n)), (2, .long (lN q))] ∧ va_P D vwCl [] H ∧ va_D A [] ∧ va_S A s.heap H locs) (fun k => 5 - k) 0 ⟨fun i hi => absurd hi (Nat.not_lt_zero i), lv_sub hl [0, 1, 2] rfl, hP, hD, hS⟩ (fun k ls H locs hI ih => ?_)
  obtain ⟨hno, hl, hP, hD, hS⟩ := hI
  have hk4 := km_powJ hq hn hno
  have hk5 : q ^ k < 2 ^ 31 := Nat.lt_of_le_of_lt (Nat.pow_le_pow_right (by omega) hk4) (by rcases hq with rfl | rfl | rfl <;> decide)
  refine lv_lload hx hb d_Mo_isPower_3 (lv_at hl 0 rfl) ?_
  refine lv_lload_n hx hb d_Mo_isPower_5 rfl (lv_at hl 1 rfl) ?_
  refine kf_lc_ge (tgt := 19) hx hb d_Mo_isPower_6 d_Mo_isPower_7 (by decide) (fun c6 => ?_) (fun c6 => ?_)
  · refine lv_lload hx hb d_Mo_isPower_19 (lv_at hl 0 rfl) ?_
    refine lv_lload_n hx hb d_Mo_isPower_21 rfl (lv_at hl 1 rfl) ?_
    refine kf_lc_ne (tgt := 30) hx hb d_Mo_isPower_22 d_Mo_isPower_23 (by decide) (fun c22 => ?_) (fun c22 => ?_)
    · refine lv_iconst (v := 0) hx hb d_Mo_isPower_30 (by decide) ?_
      exact kf_zr hx hb hr hlocks hP hD hS (kP_f (fun z => c22 ((lN_eq hk5 (by omega)).mpr ((km_powE hq hn hno ((lN_le (by omega) hk5).mp c6)).mpr z)))) (kP_nar) d_Mo_isPower_31
    · refine lv_iconst (v := 1) hx hb d_Mo_isPower_26 (by decide) ?_
      refine lv_goto (tgt := 31) hx hb d_Mo_isPower_27 (by decide) ?_
      exact kf_zr hx hb hr hlocks hP hD hS (kP_t ((km_powE hq hn hno ((lN_le (by omega) hk5).mp c6)).mp ((lN_eq hk5 (by omega)).mp c22))) (kP_nar) d_Mo_isPower_31
  · have hlt : q ^ k < n := Nat.lt_of_not_le (fun z => c6 ((lN_le (by omega) hk5).mpr z))
    refine lv_lload hx hb d_Mo_isPower_10 (lv_at hl 0 rfl) ?_
    refine lv_lload_n hx hb d_Mo_isPower_12 rfl (lv_at hl 2 rfl) ?_
    refine lv_lmul hx hb d_Mo_isPower_13 ?_
    refine kf_tl (y := lN (q ^ (k + 1))) (by rw [lN_mul, ← Nat.pow_succ]) ?_
    refine lv_lstore (lv' := [(4, .long (lN (q ^ (k + 1)))), (0, .long (lN n)), (2, .long (lN q))]) hx hb d_Mo_isPower_14 hl (by decide) rfl (fun ls hl => ?_)
    refine lv_goto (tgt := 3) hx hb d_Mo_isPower_16 (by decide) ?_
    exact ih (k + 1) _ _ _ (by have := km_powJ hq hn (fun i (hi : i < k + 1) => by rcases (show i < k ∨ i = k by omega) with z | rfl; exact hno i z; exact hlt); omega) ⟨fun i hi => by rcases (show i < k ∨ i = k by omega) with z | rfl; exact hno i z; exact hlt, lv_sub hl [0, 1, 2] rfl, hP, hD, hS⟩

set_option maxRecDepth 100000 in
set_option maxHeartbeats 4000000 in
theorem c_Mo_hasCopy (l : Launch) (D : va_G) (cB cI : ClassId) (hz : Nat) (h1 : Nat) (f : Nat → Int32) (hf : km_ok f) (n : Nat) (hn : n < 64) : kf_Ct l y_Mo_hasCopy w_Mo_hasCopy 2 47 0 0 D (kT cB cI) [.ref h1, .long (lN n)] [(h1, .inl (cI, 1024, .inl f))] hz (some (.int (kP (km_hcP f n)))) (kf_po D [(h1, .inl (cI, 1024, .inl f))]) := by
  refine kf_of (cc := b_Mo_hasCopy) (maxL := 3) (ret := (some .boolean)) (by decide) rfl (Nat.le_of_ble_eq_true rfl) ?_
  intro p e s m below meth c A H locs hx hb hr hml hown hts hlocks hin hP hD hS hA hE ls hl
  have hl : lv_has ls 3 [(0, .ref h1), (1, .long (lN n))] := hl
  refine lv_aload_n hx hb d_Mo_hasCopy_0 rfl (lv_at hl 0 rfl) ?_
  refine lv_bipush (v := 100) hx hb d_Mo_hasCopy_1 (by decide) ?_
  refine lv_iconst (v := 0) hx hb d_Mo_hasCopy_3 (by decide) ?_
  refine kf_ro hP hD hS hA [0] rfl (va_runS (As := [.ref h1, .int 100, .int 0]) (rest := []) ⟨hx, hb, hml, hown, hts⟩ (c_Mo_has l D cB cI _ h1 f hf 100 0 (by decide) (by decide)) ⟨callB_of 3 hts g_Mo_has rfl rfl rfl (hts _ q1_5) (hts _ q2_123) h_Mo_has ⟨Nat.le_of_ble_eq_true rfl, Nat.le_of_ble_eq_true rfl⟩, (hts _ q2_124)⟩ ⟨kf_bl, kf_to hP hD hS hA hE [0] rfl rfl⟩ rfl rfl hl.1 rfl (lv_room (Nat.le_of_ble_eq_true rfl)) d_Mo_hasCopy_4 ⟨Nat.zero_le _, Nat.zero_le _⟩) (fun H locs hP hS => ?_)
  refine W.eq (g2 := F0 m 7 ls [.int (kP (km_hasP f 100 0))]) rfl ?_
  refine lv_if_eq (tgt := 48) hx hb d_Mo_hasCopy_7 (by decide) (fun c7 => ?_) (fun c7 => ?_)
  · refine lv_iconst (v := 1) hx hb d_Mo_hasCopy_48 (by decide) ?_
    refine lv_goto (tgt := 53) hx hb d_Mo_hasCopy_49 (by decide) ?_
    have hc7 := by first | exact kP_ne c7 | exact kP_eq c7
    exact kf_zr hx hb hr hlocks hP hD hS (kP_t (by clear hP hD hS hA hE hts hl; grind)) (kP_nar) d_Mo_hasCopy_53
  · refine lv_lload_n hx hb d_Mo_hasCopy_10 rfl (lv_at hl 1 rfl) ?_
    refine lv_ldc2 (v := 2) hx hb hown (hts _ q2_89) d_Mo_hasCopy_11 ?_
    refine kf_lc_lt (tgt := 48) hx hb d_Mo_hasCopy_14 d_Mo_hasCopy_15 (by decide) (fun c14 => ?_) (fun c14 => ?_)
    · refine lv_iconst (v := 1) hx hb d_Mo_hasCopy_48 (by decide) ?_
      refine lv_goto (tgt := 53) hx hb d_Mo_hasCopy_49 (by decide) ?_
      have hc7 := by first | exact kP_ne c7 | exact kP_eq c7
      have hc14 : n < 2 := (lN_lt (b := 2) (by omega) (by decide)).mp c14
      exact kf_zr hx hb hr hlocks hP hD hS (kP_t (by clear hP hD hS hA hE hts hl; grind)) (kP_nar) d_Mo_hasCopy_53
    · refine lv_lload_n hx hb d_Mo_hasCopy_18 rfl (lv_at hl 1 rfl) ?_
      refine lv_ldc2 (v := 3) hx hb hown (hts _ q2_71) d_Mo_hasCopy_19 ?_
      refine kf_ro hP hD hS hA [] rfl (va_runS (As := [.long (lN n), .long 3]) (rest := []) ⟨hx, hb, hml, hown, hts⟩ (c_Mo_isPower l D cB cI _ n 3 hn (by decide)) ⟨callB_of 2 hts g_Mo_isPower rfl rfl rfl (hts _ q1_5) (hts _ q2_126) h_Mo_isPower ⟨Nat.le_of_ble_eq_true rfl, Nat.le_of_ble_eq_true rfl⟩, (hts _ q2_127)⟩ ⟨kf_bl, kf_to hP hD hS hA hE [] rfl rfl⟩ rfl rfl hl.1 rfl (lv_room (Nat.le_of_ble_eq_true rfl)) d_Mo_hasCopy_22 ⟨Nat.zero_le _, Nat.zero_le _⟩) (fun H locs hP hS => ?_)
      refine W.eq (g2 := F0 m 25 ls [.int (kP (km_powP 3 n))]) rfl ?_
      refine lv_if_ne (tgt := 48) hx hb d_Mo_hasCopy_25 (by decide) (fun c25 => ?_) (fun c25 => ?_)
      · refine lv_iconst (v := 1) hx hb d_Mo_hasCopy_48 (by decide) ?_
        refine lv_goto (tgt := 53) hx hb d_Mo_hasCopy_49 (by decide) ?_
        have hc7 := by first | exact kP_ne c7 | exact kP_eq c7
        have hc25 := by first | exact kP_ne c25 | exact kP_eq c25
        have hc14 : ¬ n < 2 := fun z => c14 ((lN_lt (b := 2) (by omega) (by decide)).mpr z)
        exact kf_zr hx hb hr hlocks hP hD hS (kP_t (by clear hP hD hS hA hE hts hl; grind)) (kP_nar) d_Mo_hasCopy_53
      · refine lv_lload_n hx hb d_Mo_hasCopy_28 rfl (lv_at hl 1 rfl) ?_
        refine lv_ldc2 (v := 5) hx hb hown (hts _ q2_129) d_Mo_hasCopy_29 ?_
        refine kf_ro hP hD hS hA [] rfl (va_runS (As := [.long (lN n), .long 5]) (rest := []) ⟨hx, hb, hml, hown, hts⟩ (c_Mo_isPower l D cB cI _ n 5 hn (by decide)) ⟨callB_of 2 hts g_Mo_isPower rfl rfl rfl (hts _ q1_5) (hts _ q2_126) h_Mo_isPower ⟨Nat.le_of_ble_eq_true rfl, Nat.le_of_ble_eq_true rfl⟩, (hts _ q2_127)⟩ ⟨kf_bl, kf_to hP hD hS hA hE [] rfl rfl⟩ rfl rfl hl.1 rfl (lv_room (Nat.le_of_ble_eq_true rfl)) d_Mo_hasCopy_32 ⟨Nat.zero_le _, Nat.zero_le _⟩) (fun H locs hP hS => ?_)
        refine W.eq (g2 := F0 m 35 ls [.int (kP (km_powP 5 n))]) rfl ?_
        refine lv_if_ne (tgt := 48) hx hb d_Mo_hasCopy_35 (by decide) (fun c35 => ?_) (fun c35 => ?_)
        · refine lv_iconst (v := 1) hx hb d_Mo_hasCopy_48 (by decide) ?_
          refine lv_goto (tgt := 53) hx hb d_Mo_hasCopy_49 (by decide) ?_
          have hc7 := by first | exact kP_ne c7 | exact kP_eq c7
          have hc25 := by first | exact kP_ne c25 | exact kP_eq c25
          have hc35 := by first | exact kP_ne c35 | exact kP_eq c35
          have hc14 : ¬ n < 2 := fun z => c14 ((lN_lt (b := 2) (by omega) (by decide)).mpr z)
          exact kf_zr hx hb hr hlocks hP hD hS (kP_t (by clear hP hD hS hA hE hts hl; grind)) (kP_nar) d_Mo_hasCopy_53
        · refine lv_lload_n hx hb d_Mo_hasCopy_38 rfl (lv_at hl 1 rfl) ?_
          refine lv_ldc2 (v := 7) hx hb hown (hts _ q2_130) d_Mo_hasCopy_39 ?_
          refine kf_ro hP hD hS hA [] rfl (va_runS (As := [.long (lN n), .long 7]) (rest := []) ⟨hx, hb, hml, hown, hts⟩ (c_Mo_isPower l D cB cI _ n 7 hn (by decide)) ⟨callB_of 2 hts g_Mo_isPower rfl rfl rfl (hts _ q1_5) (hts _ q2_126) h_Mo_isPower ⟨Nat.le_of_ble_eq_true rfl, Nat.le_of_ble_eq_true rfl⟩, (hts _ q2_127)⟩ ⟨kf_bl, kf_to hP hD hS hA hE [] rfl rfl⟩ rfl rfl hl.1 rfl (lv_room (Nat.le_of_ble_eq_true rfl)) d_Mo_hasCopy_42 ⟨Nat.zero_le _, Nat.zero_le _⟩) (fun H locs hP hS => ?_)
          refine W.eq (g2 := F0 m 45 ls [.int (kP (km_powP 7 n))]) rfl ?_
          refine lv_if_eq (tgt := 52) hx hb d_Mo_hasCopy_45 (by decide) (fun c45 => ?_) (fun c45 => ?_)
          · refine lv_iconst (v := 0) hx hb d_Mo_hasCopy_52 (by decide) ?_
            have hc7 := by first | exact kP_ne c7 | exact kP_eq c7
            have hc25 := by first | exact kP_ne c25 | exact kP_eq c25
            have hc35 := by first | exact kP_ne c35 | exact kP_eq c35
            have hc45 := by first | exact kP_ne c45 | exact kP_eq c45
            have hc14 : ¬ n < 2 := fun z => c14 ((lN_lt (b := 2) (by omega) (by decide)).mpr z)
            exact kf_zr hx hb hr hlocks hP hD hS (kP_f (by clear hP hD hS hA hE hts hl; grind)) (kP_nar) d_Mo_hasCopy_53
          · refine lv_iconst (v := 1) hx hb d_Mo_hasCopy_48 (by decide) ?_
            refine lv_goto (tgt := 53) hx hb d_Mo_hasCopy_49 (by decide) ?_
            have hc7 := by first | exact kP_ne c7 | exact kP_eq c7
            have hc25 := by first | exact kP_ne c25 | exact kP_eq c25
            have hc35 := by first | exact kP_ne c35 | exact kP_eq c35
            have hc45 := by first | exact kP_ne c45 | exact kP_eq c45
            have hc14 : ¬ n < 2 := fun z => c14 ((lN_lt (b := 2) (by omega) (by decide)).mpr z)
            exact kf_zr hx hb hr hlocks hP hD hS (kP_t (by clear hP hD hS hA hE hts hl; grind)) (kP_nar) d_Mo_hasCopy_53

set_option maxRecDepth 100000 in
set_option maxHeartbeats 4000000 in
theorem c_Mo_beginOf (l : Launch) (D : va_G) (cB cI : ClassId) (hz : Nat) (h1 : Nat) (f : Nat → Int32) (hf : km_ok f) (g : Int64) : kf_Ct l y_Mo_beginOf w_Mo_beginOf 1 25 0 0 D (kT cB cI) [.ref h1, .long g] [(h1, .inl (cI, 1024, .inl f))] hz (some (.long (lN (ky_le f 20 4) + g * lN (ky_le f 32 4)))) (kf_po D [(h1, .inl (cI, 1024, .inl f))]) := by
  refine kf_of (cc := b_Mo_beginOf) (maxL := 3) (ret := (some .long)) (by decide) rfl (Nat.le_of_ble_eq_true rfl) ?_
  intro p e s m below meth c A H locs hx hb hr hml hown hts hlocks hin hP hD hS hA hE ls hl
  have hl : lv_has ls 3 [(0, .ref h1), (1, .long g)] := hl
  refine lv_aload_n hx hb d_Mo_beginOf_0 rfl (lv_at hl 0 rfl) ?_
  refine lv_bipush (v := 20) hx hb d_Mo_beginOf_1 (by decide) ?_
  refine lv_iconst (v := 4) hx hb d_Mo_beginOf_3 (by decide) ?_
  refine kf_ro hP hD hS hA [0] rfl (va_runS (As := [.ref h1, .int 20, .int 4]) (rest := []) ⟨hx, hb, hml, hown, hts⟩ (c_Mo_field l D cB cI _ h1 f hf 20 4 (by decide)) ⟨callB_of 3 hts g_Mo_field rfl rfl rfl (hts _ q1_5) (hts _ q2_76) h_Mo_field ⟨Nat.le_of_ble_eq_true rfl, Nat.le_of_ble_eq_true rfl⟩, (hts _ q2_77)⟩ ⟨kf_bl, kf_to hP hD hS hA hE [0] rfl rfl⟩ rfl rfl hl.1 rfl (lv_room (Nat.le_of_ble_eq_true rfl)) d_Mo_beginOf_4 ⟨Nat.zero_le _, Nat.zero_le _⟩) (fun H locs hP hS => ?_)
  refine W.eq (g2 := F0 m 7 ls [.long (lN (ky_le f 20 4))]) rfl ?_
  refine lv_lload_n hx hb d_Mo_beginOf_7 rfl (lv_at hl 1 rfl) ?_
  refine lv_aload_n hx hb d_Mo_beginOf_8 rfl (lv_at hl 0 rfl) ?_
  refine lv_bipush (v := 32) hx hb d_Mo_beginOf_9 (by decide) ?_
  refine lv_iconst (v := 4) hx hb d_Mo_beginOf_11 (by decide) ?_
  refine kf_ro hP hD hS hA [0] rfl (va_runS (As := [.ref h1, .int 32, .int 4]) (rest := [.long g, .long (lN (ky_le f 20 4))]) ⟨hx, hb, hml, hown, hts⟩ (c_Mo_field l D cB cI _ h1 f hf 32 4 (by decide)) ⟨callB_of 3 hts g_Mo_field rfl rfl rfl (hts _ q1_5) (hts _ q2_76) h_Mo_field ⟨Nat.le_of_ble_eq_true rfl, Nat.le_of_ble_eq_true rfl⟩, (hts _ q2_77)⟩ ⟨kf_bl, kf_to hP hD hS hA hE [0] rfl rfl⟩ rfl rfl hl.1 rfl (lv_room (Nat.le_of_ble_eq_true rfl)) d_Mo_beginOf_12 ⟨Nat.zero_le _, Nat.zero_le _⟩) (fun H locs hP hS => ?_)
  refine W.eq (g2 := F0 m 15 ls [.long (lN (ky_le f 32 4)), .long g, .long (lN (ky_le f 20 4))]) rfl ?_
  refine lv_lmul hx hb d_Mo_beginOf_15 ?_
  refine lv_ladd hx hb d_Mo_beginOf_16 ?_
  exact kf_lr hx hb hr hlocks hP hD hS (rfl) d_Mo_beginOf_17

set_option maxRecDepth 100000 in
set_option maxHeartbeats 4000000 in
theorem c_Mo_blocksOf (l : Launch) (D : va_G) (cB cI : ClassId) (hz : Nat) (h1 : Nat) (f : Nat → Int32) (hf : km_ok f) (g : Int64) : kf_Ct l y_Mo_blocksOf w_Mo_blocksOf 2 47 0 0 D (kT cB cI) [.ref h1, .long g] [(h1, .inl (cI, 1024, .inl f))] hz (some (.long (ky_min (lN (ky_le f 32 4)) (lN (ky_le f 4 4) - (lN (ky_le f 20 4) + g * lN (ky_le f 32 4)))))) (kf_po D [(h1, .inl (cI, 1024, .inl f))]) := by
  refine kf_of (cc := b_Mo_blocksOf) (maxL := 5) (ret := (some .long)) (by decide) rfl (Nat.le_of_ble_eq_true rfl) ?_
  intro p e s m below meth c A H locs hx hb hr hml hown hts hlocks hin hP hD hS hA hE ls hl
  have hl : lv_has ls 5 [(0, .ref h1), (1, .long g)] := hl
  refine lv_aload_n hx hb d_Mo_blocksOf_0 rfl (lv_at hl 0 rfl) ?_
  refine lv_iconst (v := 4) hx hb d_Mo_blocksOf_1 (by decide) ?_
  refine lv_iconst (v := 4) hx hb d_Mo_blocksOf_2 (by decide) ?_
  refine kf_ro hP hD hS hA [0] rfl (va_runS (As := [.ref h1, .int 4, .int 4]) (rest := []) ⟨hx, hb, hml, hown, hts⟩ (c_Mo_field l D cB cI _ h1 f hf 4 4 (by decide)) ⟨callB_of 3 hts g_Mo_field rfl rfl rfl (hts _ q1_5) (hts _ q2_76) h_Mo_field ⟨Nat.le_of_ble_eq_true rfl, Nat.le_of_ble_eq_true rfl⟩, (hts _ q2_77)⟩ ⟨kf_bl, kf_to hP hD hS hA hE [0] rfl rfl⟩ rfl rfl hl.1 rfl (lv_room (Nat.le_of_ble_eq_true rfl)) d_Mo_blocksOf_3 ⟨Nat.zero_le _, Nat.zero_le _⟩) (fun H locs hP hS => ?_)
  refine W.eq (g2 := F0 m 6 ls [.long (lN (ky_le f 4 4))]) rfl ?_
  refine lv_aload_n hx hb d_Mo_blocksOf_6 rfl (lv_at hl 0 rfl) ?_
  refine lv_lload_n hx hb d_Mo_blocksOf_7 rfl (lv_at hl 1 rfl) ?_
  refine kf_ro hP hD hS hA [0] rfl (va_runS (As := [.ref h1, .long g]) (rest := [.long (lN (ky_le f 4 4))]) ⟨hx, hb, hml, hown, hts⟩ (c_Mo_beginOf l D cB cI _ h1 f hf g ) ⟨callB_of 2 hts g_Mo_beginOf rfl rfl rfl (hts _ q1_5) (hts _ q2_111) h_Mo_beginOf ⟨Nat.le_of_ble_eq_true rfl, Nat.le_of_ble_eq_true rfl⟩, (hts _ q2_112)⟩ ⟨kf_bl, kf_to hP hD hS hA hE [0] rfl rfl⟩ rfl rfl hl.1 rfl (lv_room (Nat.le_of_ble_eq_true rfl)) d_Mo_blocksOf_8 ⟨Nat.zero_le _, Nat.zero_le _⟩) (fun H locs hP hS => ?_)
  refine W.eq (g2 := F0 m 11 ls [.long (lN (ky_le f 20 4) + g * lN (ky_le f 32 4)), .long (lN (ky_le f 4 4))]) rfl ?_
  refine lv_lsub hx hb d_Mo_blocksOf_11 ?_
  refine lv_lstore_n (lv' := [(3, .long ((lN (ky_le f 4 4)) - (lN (ky_le f 20 4) + g * lN (ky_le f 32 4)))), (0, .ref h1), (1, .long g)]) hx hb d_Mo_blocksOf_12 rfl hl (by decide) rfl (fun ls hl => ?_)
  refine lv_lload_n hx hb d_Mo_blocksOf_13 rfl (lv_at hl 0 rfl) ?_
  refine lv_aload_n hx hb d_Mo_blocksOf_14 rfl (lv_at hl 1 rfl) ?_
  refine lv_bipush (v := 32) hx hb d_Mo_blocksOf_15 (by decide) ?_
  refine lv_iconst (v := 4) hx hb d_Mo_blocksOf_17 (by decide) ?_
  refine kf_ro hP hD hS hA [0] rfl (va_runS (As := [.ref h1, .int 32, .int 4]) (rest := [.long ((lN (ky_le f 4 4)) - (lN (ky_le f 20 4) + g * lN (ky_le f 32 4)))]) ⟨hx, hb, hml, hown, hts⟩ (c_Mo_field l D cB cI _ h1 f hf 32 4 (by decide)) ⟨callB_of 3 hts g_Mo_field rfl rfl rfl (hts _ q1_5) (hts _ q2_76) h_Mo_field ⟨Nat.le_of_ble_eq_true rfl, Nat.le_of_ble_eq_true rfl⟩, (hts _ q2_77)⟩ ⟨kf_bl, kf_to hP hD hS hA hE [0] rfl rfl⟩ rfl rfl hl.1 rfl (lv_room (Nat.le_of_ble_eq_true rfl)) d_Mo_blocksOf_18 ⟨Nat.zero_le _, Nat.zero_le _⟩) (fun H locs hP hS => ?_)
  refine W.eq (g2 := F0 m 21 ls [.long (lN (ky_le f 32 4)), .long ((lN (ky_le f 4 4)) - (lN (ky_le f 20 4) + g * lN (ky_le f 32 4)))]) rfl ?_
  refine kf_lc_ge (tgt := 29) hx hb d_Mo_blocksOf_21 d_Mo_blocksOf_22 (by decide) (fun c21 => ?_) (fun c21 => ?_)
  · refine lv_aload_n hx hb d_Mo_blocksOf_29 rfl (lv_at hl 1 rfl) ?_
    refine lv_bipush (v := 32) hx hb d_Mo_blocksOf_30 (by decide) ?_
    refine lv_iconst (v := 4) hx hb d_Mo_blocksOf_32 (by decide) ?_
    refine kf_ro hP hD hS hA [0] rfl (va_runS (As := [.ref h1, .int 32, .int 4]) (rest := []) ⟨hx, hb, hml, hown, hts⟩ (c_Mo_field l D cB cI _ h1 f hf 32 4 (by decide)) ⟨callB_of 3 hts g_Mo_field rfl rfl rfl (hts _ q1_5) (hts _ q2_76) h_Mo_field ⟨Nat.le_of_ble_eq_true rfl, Nat.le_of_ble_eq_true rfl⟩, (hts _ q2_77)⟩ ⟨kf_bl, kf_to hP hD hS hA hE [0] rfl rfl⟩ rfl rfl hl.1 rfl (lv_room (Nat.le_of_ble_eq_true rfl)) d_Mo_blocksOf_33 ⟨Nat.zero_le _, Nat.zero_le _⟩) (fun H locs hP hS => ?_)
    refine W.eq (g2 := F0 m 36 ls [.long (lN (ky_le f 32 4))]) rfl ?_
    exact kf_lr hx hb hr hlocks hP hD hS (by unfold ky_min; rw [if_neg (fun z => Int64.not_le.mpr z c21)]) d_Mo_blocksOf_36
  · refine lv_lload_n hx hb d_Mo_blocksOf_25 rfl (lv_at hl 0 rfl) ?_
    refine lv_goto (tgt := 36) hx hb d_Mo_blocksOf_26 (by decide) ?_
    exact kf_lr hx hb hr hlocks hP hD hS (by unfold ky_min; rw [if_pos (Int64.not_le.mp c21)]) d_Mo_blocksOf_36

set_option maxRecDepth 100000 in
set_option maxHeartbeats 4000000 in
theorem c_Mo_recordBlocks (l : Launch) (D : va_G) (cB cI : ClassId) (hz : Nat) (h1 : Nat) (f : Nat → Int32) (hf : km_ok f) (hsz : 1 ≤ kv_size f) : kf_Ct l y_Mo_recordBlocks w_Mo_recordBlocks 2 45 0 0 D (kT cB cI) [.ref h1] [(h1, .inl (cI, 1024, .inl f))] hz (some (.long (kv_rk f))) (kf_po D [(h1, .inl (cI, 1024, .inl f))]) := by
  refine kf_of (cc := b_Mo_recordBlocks) (maxL := 1) (ret := (some .long)) (by decide) rfl (Nat.le_of_ble_eq_true rfl) ?_
  intro p e s m below meth c A H locs hx hb hr hml hown hts hlocks hin hP hD hS hA hE ls hl
  have hl : lv_has ls 1 [(0, .ref h1)] := hl
  refine lv_aload_n hx hb d_Mo_recordBlocks_0 rfl (lv_at hl 0 rfl) ?_
  refine lv_bipush (v := 40) hx hb d_Mo_recordBlocks_1 (by decide) ?_
  refine lv_iconst (v := 4) hx hb d_Mo_recordBlocks_3 (by decide) ?_
  refine kf_ro hP hD hS hA [0] rfl (va_runS (As := [.ref h1, .int 40, .int 4]) (rest := []) ⟨hx, hb, hml, hown, hts⟩ (c_Mo_field l D cB cI _ h1 f hf 40 4 (by decide)) ⟨callB_of 3 hts g_Mo_field rfl rfl rfl (hts _ q1_5) (hts _ q2_76) h_Mo_field ⟨Nat.le_of_ble_eq_true rfl, Nat.le_of_ble_eq_true rfl⟩, (hts _ q2_77)⟩ ⟨kf_bl, kf_to hP hD hS hA hE [0] rfl rfl⟩ rfl rfl hl.1 rfl (lv_room (Nat.le_of_ble_eq_true rfl)) d_Mo_recordBlocks_4 ⟨Nat.zero_le _, Nat.zero_le _⟩) (fun H locs hP hS => ?_)
  refine W.eq (g2 := F0 m 7 ls [.long (lN (ky_le f 40 4))]) rfl ?_
  refine lv_aload_n hx hb d_Mo_recordBlocks_7 rfl (lv_at hl 0 rfl) ?_
  refine lv_bipush (v := 88) hx hb d_Mo_recordBlocks_8 (by decide) ?_
  refine lv_iconst (v := 2) hx hb d_Mo_recordBlocks_10 (by decide) ?_
  refine kf_ro hP hD hS hA [0] rfl (va_runS (As := [.ref h1, .int 88, .int 2]) (rest := [.long (lN (ky_le f 40 4))]) ⟨hx, hb, hml, hown, hts⟩ (c_Mo_field l D cB cI _ h1 f hf 88 2 (by decide)) ⟨callB_of 3 hts g_Mo_field rfl rfl rfl (hts _ q1_5) (hts _ q2_76) h_Mo_field ⟨Nat.le_of_ble_eq_true rfl, Nat.le_of_ble_eq_true rfl⟩, (hts _ q2_77)⟩ ⟨kf_bl, kf_to hP hD hS hA hE [0] rfl rfl⟩ rfl rfl hl.1 rfl (lv_room (Nat.le_of_ble_eq_true rfl)) d_Mo_recordBlocks_11 ⟨Nat.zero_le _, Nat.zero_le _⟩) (fun H locs hP hS => ?_)
  refine W.eq (g2 := F0 m 14 ls [.long (lN (ky_le f 88 2)), .long (lN (ky_le f 40 4))]) rfl ?_
  refine lv_lmul hx hb d_Mo_recordBlocks_14 ?_
  refine lv_aload_n hx hb d_Mo_recordBlocks_15 rfl (lv_at hl 0 rfl) ?_
  refine kf_ro hP hD hS hA [0] rfl (va_runS (As := [.ref h1]) (rest := [.long ((lN (ky_le f 40 4)) * (lN (ky_le f 88 2)))]) ⟨hx, hb, hml, hown, hts⟩ (c_Mo_sizeOf l D cB cI _ h1 f hf  ) ⟨callB_of 1 hts g_Mo_sizeOf rfl rfl rfl (hts _ q1_5) (hts _ q2_90) h_Mo_sizeOf ⟨Nat.le_of_ble_eq_true rfl, Nat.le_of_ble_eq_true rfl⟩, (hts _ q2_91)⟩ ⟨kf_bl, kf_to hP hD hS hA hE [0] rfl rfl⟩ rfl rfl hl.1 rfl (lv_room (Nat.le_of_ble_eq_true rfl)) d_Mo_recordBlocks_16 ⟨Nat.zero_le _, Nat.zero_le _⟩) (fun H locs hP hS => ?_)
  refine W.eq (g2 := F0 m 19 ls [.long (kv_size f), .long ((lN (ky_le f 40 4)) * (lN (ky_le f 88 2)))]) rfl ?_
  refine kf_ro hP hD hS hA [] rfl (va_runS (As := [.long ((lN (ky_le f 40 4)) * (lN (ky_le f 88 2))), .long (kv_size f)]) (rest := []) ⟨hx, hb, hml, hown, hts⟩ (c_Mo_up l D cB cI _ ((lN (ky_le f 40 4)) * (lN (ky_le f 88 2))) (kv_size f) hsz) ⟨callB_of 2 hts g_Mo_up rfl rfl rfl (hts _ q1_5) (hts _ q2_80) h_Mo_up ⟨Nat.le_of_ble_eq_true rfl, Nat.le_of_ble_eq_true rfl⟩, (hts _ q2_81)⟩ ⟨kf_bl, kf_to hP hD hS hA hE [] rfl rfl⟩ rfl rfl hl.1 rfl (lv_room (Nat.le_of_ble_eq_true rfl)) d_Mo_recordBlocks_19 ⟨Nat.zero_le _, Nat.zero_le _⟩) (fun H locs hP hS => ?_)
  refine W.eq (g2 := F0 m 22 ls [.long (ky_qU ((lN (ky_le f 40 4)) * (lN (ky_le f 88 2))) (kv_size f))]) rfl ?_
  exact kf_lr hx hb hr hlocks hP hD hS (rfl) d_Mo_recordBlocks_22

set_option maxRecDepth 100000 in
set_option maxHeartbeats 4000000 in
theorem c_Mo_headOf (l : Launch) (D : va_G) (cB cI : ClassId) (hz : Nat) (h1 : Nat) (f : Nat → Int32) (hf : km_ok f) (n : Nat) (hn : n < 64) (h32 : 1 ≤ lN (ky_le f 32 4)) (hsz : 1 ≤ kv_size f) : kf_Ct l y_Mo_headOf w_Mo_headOf 3 69 0 0 D (kT cB cI) [.ref h1, .long (lN n)] [(h1, .inl (cI, 1024, .inl f))] hz (some (.long (km_hd f n))) (kf_po D [(h1, .inl (cI, 1024, .inl f))]) := by
  refine kf_of (cc := b_Mo_headOf) (maxL := 3) (ret := (some .long)) (by decide) rfl (Nat.le_of_ble_eq_true rfl) ?_
  intro p e s m below meth c A H locs hx hb hr hml hown hts hlocks hin hP hD hS hA hE ls hl
  have hl : lv_has ls 3 [(0, .ref h1), (1, .long (lN n))] := hl
  refine lv_aload_n hx hb d_Mo_headOf_0 rfl (lv_at hl 0 rfl) ?_
  refine lv_lload_n hx hb d_Mo_headOf_1 rfl (lv_at hl 1 rfl) ?_
  refine kf_ro hP hD hS hA [0] rfl (va_runS (As := [.ref h1, .long (lN n)]) (rest := []) ⟨hx, hb, hml, hown, hts⟩ (c_Mo_hasCopy l D cB cI _ h1 f hf n hn) ⟨callB_of 2 hts g_Mo_hasCopy rfl rfl rfl (hts _ q1_5) (hts _ q2_120) h_Mo_hasCopy ⟨Nat.le_of_ble_eq_true rfl, Nat.le_of_ble_eq_true rfl⟩, (hts _ q2_121)⟩ ⟨kf_bl, kf_to hP hD hS hA hE [0] rfl rfl⟩ rfl rfl hl.1 rfl (lv_room (Nat.le_of_ble_eq_true rfl)) d_Mo_headOf_2 ⟨Nat.zero_le _, Nat.zero_le _⟩) (fun H locs hP hS => ?_)
  refine W.eq (g2 := F0 m 5 ls [.int (kP (km_hcP f n))]) rfl ?_
  refine lv_if_eq (tgt := 28) hx hb d_Mo_headOf_5 (by decide) (fun c5 => ?_) (fun c5 => ?_)
  · refine lv_lconst (v := 0) hx hb d_Mo_headOf_28 (by decide) ?_
    exact kf_lr hx hb hr hlocks hP hD hS (by unfold km_hd; rw [if_neg (kP_eq c5)]) d_Mo_headOf_29
  · refine lv_lconst (v := 1) hx hb d_Mo_headOf_8 (by decide) ?_
    refine lv_ldc2 (v := 32) hx hb hown (hts _ q2_131) d_Mo_headOf_9 ?_
    refine lv_aload_n hx hb d_Mo_headOf_12 rfl (lv_at hl 0 rfl) ?_
    refine kf_ro hP hD hS hA [0] rfl (va_runS (As := [.ref h1]) (rest := [.long 32, .long 1]) ⟨hx, hb, hml, hown, hts⟩ (c_Mo_groupsOf l D cB cI _ h1 f hf  h32) ⟨callB_of 1 hts g_Mo_groupsOf rfl rfl rfl (hts _ q1_5) (hts _ q2_73) h_Mo_groupsOf ⟨Nat.le_of_ble_eq_true rfl, Nat.le_of_ble_eq_true rfl⟩, (hts _ q2_74)⟩ ⟨kf_bl, kf_to hP hD hS hA hE [0] rfl rfl⟩ rfl rfl hl.1 rfl (lv_room (Nat.le_of_ble_eq_true rfl)) d_Mo_headOf_13 ⟨Nat.zero_le _, Nat.zero_le _⟩) (fun H locs hP hS => ?_)
    refine W.eq (g2 := F0 m 16 ls [.long (kv_gc f), .long 32, .long 1]) rfl ?_
    refine lv_lmul hx hb d_Mo_headOf_16 ?_
    refine lv_aload_n hx hb d_Mo_headOf_17 rfl (lv_at hl 0 rfl) ?_
    refine kf_ro hP hD hS hA [0] rfl (va_runS (As := [.ref h1]) (rest := [.long (32 * (kv_gc f)), .long 1]) ⟨hx, hb, hml, hown, hts⟩ (c_Mo_sizeOf l D cB cI _ h1 f hf  ) ⟨callB_of 1 hts g_Mo_sizeOf rfl rfl rfl (hts _ q1_5) (hts _ q2_90) h_Mo_sizeOf ⟨Nat.le_of_ble_eq_true rfl, Nat.le_of_ble_eq_true rfl⟩, (hts _ q2_91)⟩ ⟨kf_bl, kf_to hP hD hS hA hE [0] rfl rfl⟩ rfl rfl hl.1 rfl (lv_room (Nat.le_of_ble_eq_true rfl)) d_Mo_headOf_18 ⟨Nat.zero_le _, Nat.zero_le _⟩) (fun H locs hP hS => ?_)
    refine W.eq (g2 := F0 m 21 ls [.long (kv_size f), .long (32 * (kv_gc f)), .long 1]) rfl ?_
    refine kf_ro hP hD hS hA [] rfl (va_runS (As := [.long (32 * (kv_gc f)), .long (kv_size f)]) (rest := [.long 1]) ⟨hx, hb, hml, hown, hts⟩ (c_Mo_up l D cB cI _ (32 * (kv_gc f)) (kv_size f) hsz) ⟨callB_of 2 hts g_Mo_up rfl rfl rfl (hts _ q1_5) (hts _ q2_80) h_Mo_up ⟨Nat.le_of_ble_eq_true rfl, Nat.le_of_ble_eq_true rfl⟩, (hts _ q2_81)⟩ ⟨kf_bl, kf_to hP hD hS hA hE [] rfl rfl⟩ rfl rfl hl.1 rfl (lv_room (Nat.le_of_ble_eq_true rfl)) d_Mo_headOf_21 ⟨Nat.zero_le _, Nat.zero_le _⟩) (fun H locs hP hS => ?_)
    refine W.eq (g2 := F0 m 24 ls [.long (ky_qU (32 * (kv_gc f)) (kv_size f)), .long 1]) rfl ?_
    refine lv_ladd hx hb d_Mo_headOf_24 ?_
    refine lv_goto (tgt := 29) hx hb d_Mo_headOf_25 (by decide) ?_
    exact kf_lr hx hb hr hlocks hP hD hS (by unfold km_hd; rw [if_pos (kP_ne c5)]; unfold kv_cb; rw [Int64.mul_comm]) d_Mo_headOf_29

set_option maxRecDepth 100000 in
set_option maxHeartbeats 4000000 in
theorem c_Mo_fixedOf (l : Launch) (D : va_G) (cB cI : ClassId) (hz : Nat) (h1 : Nat) (f : Nat → Int32) (hf : km_ok f) (n : Nat) (hn : n < 64) (h32 : 1 ≤ lN (ky_le f 32 4)) (hsz : 1 ≤ kv_size f) : kf_Ct l y_Mo_fixedOf w_Mo_fixedOf 4 91 0 0 D (kT cB cI) [.ref h1, .long (lN n)] [(h1, .inl (cI, 1024, .inl f))] hz (some (.long (km_hd f n + 2 + kv_rk f))) (kf_po D [(h1, .inl (cI, 1024, .inl f))]) := by
  refine kf_of (cc := b_Mo_fixedOf) (maxL := 3) (ret := (some .long)) (by decide) rfl (Nat.le_of_ble_eq_true rfl) ?_
  intro p e s m below meth c A H locs hx hb hr hml hown hts hlocks hin hP hD hS hA hE ls hl
  have hl : lv_has ls 3 [(0, .ref h1), (1, .long (lN n))] := hl
  refine lv_aload_n hx hb d_Mo_fixedOf_0 rfl (lv_at hl 0 rfl) ?_
  refine lv_lload_n hx hb d_Mo_fixedOf_1 rfl (lv_at hl 1 rfl) ?_
  refine kf_ro hP hD hS hA [0] rfl (va_runS (As := [.ref h1, .long (lN n)]) (rest := []) ⟨hx, hb, hml, hown, hts⟩ (c_Mo_headOf l D cB cI _ h1 f hf n hn h32 hsz) ⟨callB_of 2 hts g_Mo_headOf rfl rfl rfl (hts _ q1_5) (hts _ q2_117) h_Mo_headOf ⟨Nat.le_of_ble_eq_true rfl, Nat.le_of_ble_eq_true rfl⟩, (hts _ q2_118)⟩ ⟨kf_bl, kf_to hP hD hS hA hE [0] rfl rfl⟩ rfl rfl hl.1 rfl (lv_room (Nat.le_of_ble_eq_true rfl)) d_Mo_fixedOf_2 ⟨Nat.zero_le _, Nat.zero_le _⟩) (fun H locs hP hS => ?_)
  refine W.eq (g2 := F0 m 5 ls [.long (km_hd f n)]) rfl ?_
  refine lv_ldc2 (v := 2) hx hb hown (hts _ q2_89) d_Mo_fixedOf_5 ?_
  refine lv_ladd hx hb d_Mo_fixedOf_8 ?_
  refine lv_aload_n hx hb d_Mo_fixedOf_9 rfl (lv_at hl 0 rfl) ?_
  refine kf_ro hP hD hS hA [0] rfl (va_runS (As := [.ref h1]) (rest := [.long ((km_hd f n) + 2)]) ⟨hx, hb, hml, hown, hts⟩ (c_Mo_recordBlocks l D cB cI _ h1 f hf  hsz) ⟨callB_of 1 hts g_Mo_recordBlocks rfl rfl rfl (hts _ q1_5) (hts _ q2_132) h_Mo_recordBlocks ⟨Nat.le_of_ble_eq_true rfl, Nat.le_of_ble_eq_true rfl⟩, (hts _ q2_133)⟩ ⟨kf_bl, kf_to hP hD hS hA hE [0] rfl rfl⟩ rfl rfl hl.1 rfl (lv_room (Nat.le_of_ble_eq_true rfl)) d_Mo_fixedOf_10 ⟨Nat.zero_le _, Nat.zero_le _⟩) (fun H locs hP hS => ?_)
  refine W.eq (g2 := F0 m 13 ls [.long (kv_rk f), .long ((km_hd f n) + 2)]) rfl ?_
  refine lv_ladd hx hb d_Mo_fixedOf_13 ?_
  exact kf_lr hx hb hr hlocks hP hD hS (rfl) d_Mo_fixedOf_14

set_option maxRecDepth 100000 in
set_option maxHeartbeats 4000000 in
theorem c_Mo_faultOfSizes (l : Launch) (D : va_G) (cB cI : ClassId) (hz : Nat) (h1 : Nat) (f : Nat → Int32) (hf : km_ok f) : kf_Ct l y_Mo_faultOfSizes w_Mo_faultOfSizes 2 45 0 0 D (kT cB cI) [.ref h1] [(h1, .inl (cI, 1024, .inl f))] hz (some (.int (km_sz f))) (kf_po D [(h1, .inl (cI, 1024, .inl f))]) := by
  refine kf_of (cc := b_Mo_faultOfSizes) (maxL := 11) (ret := (some .int)) (by decide) rfl (Nat.le_of_ble_eq_true rfl) ?_
  intro p e s m below meth c A H locs hx hb hr hml hown hts hlocks hin hP hD hS hA hE ls hl
  have hl : lv_has ls 11 [(0, .ref h1)] := hl
  refine lv_aload_n hx hb d_Mo_faultOfSizes_0 rfl (lv_at hl 0 rfl) ?_
  refine lv_bipush (v := 56) hx hb d_Mo_faultOfSizes_1 (by decide) ?_
  refine lv_iconst (v := 2) hx hb d_Mo_faultOfSizes_3 (by decide) ?_
  refine kf_ro hP hD hS hA [0] rfl (va_runS (As := [.ref h1, .int 56, .int 2]) (rest := []) ⟨hx, hb, hml, hown, hts⟩ (c_Mo_field l D cB cI _ h1 f hf 56 2 (by decide)) ⟨callB_of 3 hts g_Mo_field rfl rfl rfl (hts _ q1_5) (hts _ q2_76) h_Mo_field ⟨Nat.le_of_ble_eq_true rfl, Nat.le_of_ble_eq_true rfl⟩, (hts _ q2_77)⟩ ⟨kf_bl, kf_to hP hD hS hA hE [0] rfl rfl⟩ rfl rfl hl.1 rfl (lv_room (Nat.le_of_ble_eq_true rfl)) d_Mo_faultOfSizes_4 ⟨Nat.zero_le _, Nat.zero_le _⟩) (fun H locs hP hS => ?_)
  refine W.eq (g2 := F0 m 7 ls [.long (lN (ky_le f 56 2))]) rfl ?_
  refine lv_ldc2 (v := 61267) hx hb hown (hts _ q2_67) d_Mo_faultOfSizes_7 ?_
  refine kf_lc_eq (tgt := 17) hx hb d_Mo_faultOfSizes_10 d_Mo_faultOfSizes_11 (by decide) (fun c10 => ?_) (fun c10 => ?_)
  · refine lv_aload_n hx hb d_Mo_faultOfSizes_17 rfl (lv_at hl 0 rfl) ?_
    refine lv_bipush (v := 76) hx hb d_Mo_faultOfSizes_18 (by decide) ?_
    refine lv_iconst (v := 4) hx hb d_Mo_faultOfSizes_20 (by decide) ?_
    refine kf_ro hP hD hS hA [0] rfl (va_runS (As := [.ref h1, .int 76, .int 4]) (rest := []) ⟨hx, hb, hml, hown, hts⟩ (c_Mo_field l D cB cI _ h1 f hf 76 4 (by decide)) ⟨callB_of 3 hts g_Mo_field rfl rfl rfl (hts _ q1_5) (hts _ q2_76) h_Mo_field ⟨Nat.le_of_ble_eq_true rfl, Nat.le_of_ble_eq_true rfl⟩, (hts _ q2_77)⟩ ⟨kf_bl, kf_to hP hD hS hA hE [0] rfl rfl⟩ rfl rfl hl.1 rfl (lv_room (Nat.le_of_ble_eq_true rfl)) d_Mo_faultOfSizes_21 ⟨Nat.zero_le _, Nat.zero_le _⟩) (fun H locs hP hS => ?_)
    refine W.eq (g2 := F0 m 24 ls [.long (lN (ky_le f 76 4))]) rfl ?_
    refine lv_lconst (v := 1) hx hb d_Mo_faultOfSizes_24 (by decide) ?_
    refine kf_lc_eq (tgt := 32) hx hb d_Mo_faultOfSizes_25 d_Mo_faultOfSizes_26 (by decide) (fun c25 => ?_) (fun c25 => ?_)
    · refine lv_aload_n hx hb d_Mo_faultOfSizes_32 rfl (lv_at hl 0 rfl) ?_
      refine lv_bipush (v := 24) hx hb d_Mo_faultOfSizes_33 (by decide) ?_
      refine lv_iconst (v := 4) hx hb d_Mo_faultOfSizes_35 (by decide) ?_
      refine kf_ro hP hD hS hA [0] rfl (va_runS (As := [.ref h1, .int 24, .int 4]) (rest := []) ⟨hx, hb, hml, hown, hts⟩ (c_Mo_field l D cB cI _ h1 f hf 24 4 (by decide)) ⟨callB_of 3 hts g_Mo_field rfl rfl rfl (hts _ q1_5) (hts _ q2_76) h_Mo_field ⟨Nat.le_of_ble_eq_true rfl, Nat.le_of_ble_eq_true rfl⟩, (hts _ q2_77)⟩ ⟨kf_bl, kf_to hP hD hS hA hE [0] rfl rfl⟩ rfl rfl hl.1 rfl (lv_room (Nat.le_of_ble_eq_true rfl)) d_Mo_faultOfSizes_36 ⟨Nat.zero_le _, Nat.zero_le _⟩) (fun H locs hP hS => ?_)
      refine W.eq (g2 := F0 m 39 ls [.long (lN (ky_le f 24 4))]) rfl ?_
      refine lv_lstore_n (lv' := [(1, .long (lN (ky_le f 24 4))), (0, .ref h1)]) hx hb d_Mo_faultOfSizes_39 rfl hl (by decide) rfl (fun ls hl => ?_)
      refine lv_lload_n hx hb d_Mo_faultOfSizes_40 rfl (lv_at hl 0 rfl) ?_
      refine lv_ldc2 (v := 2) hx hb hown (hts _ q2_89) d_Mo_faultOfSizes_41 ?_
      refine kf_lc_le (tgt := 51) hx hb d_Mo_faultOfSizes_44 d_Mo_faultOfSizes_45 (by decide) (fun c44 => ?_) (fun c44 => ?_)
      · refine lv_aload_n hx hb d_Mo_faultOfSizes_51 rfl (lv_at hl 1 rfl) ?_
        refine lv_bipush (v := 28) hx hb d_Mo_faultOfSizes_52 (by decide) ?_
        refine lv_iconst (v := 4) hx hb d_Mo_faultOfSizes_54 (by decide) ?_
        refine kf_ro hP hD hS hA [0] rfl (va_runS (As := [.ref h1, .int 28, .int 4]) (rest := []) ⟨hx, hb, hml, hown, hts⟩ (c_Mo_field l D cB cI _ h1 f hf 28 4 (by decide)) ⟨callB_of 3 hts g_Mo_field rfl rfl rfl (hts _ q1_5) (hts _ q2_76) h_Mo_field ⟨Nat.le_of_ble_eq_true rfl, Nat.le_of_ble_eq_true rfl⟩, (hts _ q2_77)⟩ ⟨kf_bl, kf_to hP hD hS hA hE [0] rfl rfl⟩ rfl rfl hl.1 rfl (lv_room (Nat.le_of_ble_eq_true rfl)) d_Mo_faultOfSizes_55 ⟨Nat.zero_le _, Nat.zero_le _⟩) (fun H locs hP hS => ?_)
        refine W.eq (g2 := F0 m 58 ls [.long (lN (ky_le f 28 4))]) rfl ?_
        refine lv_lload_n hx hb d_Mo_faultOfSizes_58 rfl (lv_at hl 0 rfl) ?_
        refine kf_lc_eq (tgt := 66) hx hb d_Mo_faultOfSizes_59 d_Mo_faultOfSizes_60 (by decide) (fun c59 => ?_) (fun c59 => ?_)
        · refine lv_aload_n hx hb d_Mo_faultOfSizes_66 rfl (lv_at hl 1 rfl) ?_
          refine lv_bipush (v := 20) hx hb d_Mo_faultOfSizes_67 (by decide) ?_
          refine lv_iconst (v := 4) hx hb d_Mo_faultOfSizes_69 (by decide) ?_
          refine kf_ro hP hD hS hA [0] rfl (va_runS (As := [.ref h1, .int 20, .int 4]) (rest := []) ⟨hx, hb, hml, hown, hts⟩ (c_Mo_field l D cB cI _ h1 f hf 20 4 (by decide)) ⟨callB_of 3 hts g_Mo_field rfl rfl rfl (hts _ q1_5) (hts _ q2_76) h_Mo_field ⟨Nat.le_of_ble_eq_true rfl, Nat.le_of_ble_eq_true rfl⟩, (hts _ q2_77)⟩ ⟨kf_bl, kf_to hP hD hS hA hE [0] rfl rfl⟩ rfl rfl hl.1 rfl (lv_room (Nat.le_of_ble_eq_true rfl)) d_Mo_faultOfSizes_70 ⟨Nat.zero_le _, Nat.zero_le _⟩) (fun H locs hP hS => ?_)
          refine W.eq (g2 := F0 m 73 ls [.long (lN (ky_le f 20 4))]) rfl ?_
          refine lv_lload_n hx hb d_Mo_faultOfSizes_73 rfl (lv_at hl 0 rfl) ?_
          refine lv_lconst (v := 0) hx hb d_Mo_faultOfSizes_74 (by decide) ?_
          refine kf_lc_ne (tgt := 83) hx hb d_Mo_faultOfSizes_75 d_Mo_faultOfSizes_76 (by decide) (fun c75 => ?_) (fun c75 => ?_)
          · refine lv_lconst (v := 0) hx hb d_Mo_faultOfSizes_83 (by decide) ?_
            refine kf_lc_eq (tgt := 91) hx hb d_Mo_faultOfSizes_84 d_Mo_faultOfSizes_85 (by decide) (fun c84 => ?_) (fun c84 => ?_)
            · refine lv_aload_n hx hb d_Mo_faultOfSizes_91 rfl (lv_at hl 1 rfl) ?_
              refine kf_ro hP hD hS hA [0] rfl (va_runS (As := [.ref h1]) (rest := []) ⟨hx, hb, hml, hown, hts⟩ (c_Mo_sizeOf l D cB cI _ h1 f hf  ) ⟨callB_of 1 hts g_Mo_sizeOf rfl rfl rfl (hts _ q1_5) (hts _ q2_90) h_Mo_sizeOf ⟨Nat.le_of_ble_eq_true rfl, Nat.le_of_ble_eq_true rfl⟩, (hts _ q2_91)⟩ ⟨kf_bl, kf_to hP hD hS hA hE [0] rfl rfl⟩ rfl rfl hl.1 rfl (lv_room (Nat.le_of_ble_eq_true rfl)) d_Mo_faultOfSizes_92 ⟨Nat.zero_le _, Nat.zero_le _⟩) (fun H locs hP hS => ?_)
              refine W.eq (g2 := F0 m 95 ls [.long (kv_size f)]) rfl ?_
              refine lv_lstore_n (lv' := [(3, .long (kv_size f)), (1, .long (lN (ky_le f 24 4))), (0, .ref h1)]) hx hb d_Mo_faultOfSizes_95 rfl hl (by decide) rfl (fun ls hl => ?_)
              refine lv_aload_n hx hb d_Mo_faultOfSizes_96 rfl (lv_at hl 2 rfl) ?_
              refine lv_bipush (v := 32) hx hb d_Mo_faultOfSizes_97 (by decide) ?_
              refine lv_iconst (v := 4) hx hb d_Mo_faultOfSizes_99 (by decide) ?_
              refine kf_ro hP hD hS hA [0] rfl (va_runS (As := [.ref h1, .int 32, .int 4]) (rest := []) ⟨hx, hb, hml, hown, hts⟩ (c_Mo_field l D cB cI _ h1 f hf 32 4 (by decide)) ⟨callB_of 3 hts g_Mo_field rfl rfl rfl (hts _ q1_5) (hts _ q2_76) h_Mo_field ⟨Nat.le_of_ble_eq_true rfl, Nat.le_of_ble_eq_true rfl⟩, (hts _ q2_77)⟩ ⟨kf_bl, kf_to hP hD hS hA hE [0] rfl rfl⟩ rfl rfl hl.1 rfl (lv_room (Nat.le_of_ble_eq_true rfl)) d_Mo_faultOfSizes_100 ⟨Nat.zero_le _, Nat.zero_le _⟩) (fun H locs hP hS => ?_)
              refine W.eq (g2 := F0 m 103 ls [.long (lN (ky_le f 32 4))]) rfl ?_
              refine lv_lstore (lv' := [(5, .long (lN (ky_le f 32 4))), (3, .long (kv_size f)), (1, .long (lN (ky_le f 24 4))), (0, .ref h1)]) hx hb d_Mo_faultOfSizes_103 hl (by decide) rfl (fun ls hl => ?_)
              refine lv_lload hx hb d_Mo_faultOfSizes_105 (lv_at hl 0 rfl) ?_
              refine lv_ldc2 (v := 64) hx hb hown (hts _ q2_94) d_Mo_faultOfSizes_107 ?_
              refine lv_ldc2 (v := 8) hx hb hown (hts _ q2_72) d_Mo_faultOfSizes_110 ?_
              refine lv_lload_n hx hb d_Mo_faultOfSizes_113 rfl (lv_at hl 1 rfl) ?_
              refine lv_lmul hx hb d_Mo_faultOfSizes_114 ?_
              refine kf_ro hP hD hS hA [] rfl (va_runS (As := [.long (lN (ky_le f 32 4)), .long 64, .long (8 * (kv_size f))]) (rest := []) ⟨hx, hb, hml, hown, hts⟩ (c_Mo_isIn l D cB cI _ (lN (ky_le f 32 4)) 64 (8 * (kv_size f))) ⟨callB_of 3 hts g_Mo_isIn rfl rfl rfl (hts _ q1_5) (hts _ q2_95) h_Mo_isIn ⟨Nat.le_of_ble_eq_true rfl, Nat.le_of_ble_eq_true rfl⟩, (hts _ q2_96)⟩ ⟨kf_bl, kf_to hP hD hS hA hE [] rfl rfl⟩ rfl rfl hl.1 rfl (lv_room (Nat.le_of_ble_eq_true rfl)) d_Mo_faultOfSizes_115 ⟨Nat.zero_le _, Nat.zero_le _⟩) (fun H locs hP hS => ?_)
              refine W.eq (g2 := F0 m 118 ls [.int (kP (km_inP (lN (ky_le f 32 4)) 64 (8 * (kv_size f))))]) rfl ?_
              refine lv_if_eq (tgt := 132) hx hb d_Mo_faultOfSizes_118 (by decide) (fun c118 => ?_) (fun c118 => ?_)
              · refine lv_bipush (v := 32) hx hb d_Mo_faultOfSizes_132 (by decide) ?_
                have hc118 := by first | exact kP_ne c118 | exact kP_eq c118
                exact kf_ir hx hb hr hlocks hP hD hS (by clear hP hD hS hA hE hts hl; unfold km_sz; grind) d_Mo_faultOfSizes_134
              · refine lv_lload hx hb d_Mo_faultOfSizes_121 (lv_at hl 0 rfl) ?_
                refine lv_ldc2 (v := 8) hx hb hown (hts _ q2_72) d_Mo_faultOfSizes_123 ?_
                refine lv_lrem hx hb d_Mo_faultOfSizes_126 (by decide) ?_
                refine lv_lconst (v := 0) hx hb d_Mo_faultOfSizes_127 (by decide) ?_
                refine kf_lc_eq (tgt := 135) hx hb d_Mo_faultOfSizes_128 d_Mo_faultOfSizes_129 (by decide) (fun c128 => ?_) (fun c128 => ?_)
                · refine lv_aload_n hx hb d_Mo_faultOfSizes_135 rfl (lv_at hl 3 rfl) ?_
                  refine lv_bipush (v := 36) hx hb d_Mo_faultOfSizes_136 (by decide) ?_
                  refine lv_iconst (v := 4) hx hb d_Mo_faultOfSizes_138 (by decide) ?_
                  refine kf_ro hP hD hS hA [0] rfl (va_runS (As := [.ref h1, .int 36, .int 4]) (rest := []) ⟨hx, hb, hml, hown, hts⟩ (c_Mo_field l D cB cI _ h1 f hf 36 4 (by decide)) ⟨callB_of 3 hts g_Mo_field rfl rfl rfl (hts _ q1_5) (hts _ q2_76) h_Mo_field ⟨Nat.le_of_ble_eq_true rfl, Nat.le_of_ble_eq_true rfl⟩, (hts _ q2_77)⟩ ⟨kf_bl, kf_to hP hD hS hA hE [0] rfl rfl⟩ rfl rfl hl.1 rfl (lv_room (Nat.le_of_ble_eq_true rfl)) d_Mo_faultOfSizes_139 ⟨Nat.zero_le _, Nat.zero_le _⟩) (fun H locs hP hS => ?_)
                  refine W.eq (g2 := F0 m 142 ls [.long (lN (ky_le f 36 4))]) rfl ?_
                  refine lv_lload hx hb d_Mo_faultOfSizes_142 (lv_at hl 0 rfl) ?_
                  refine kf_lc_eq (tgt := 151) hx hb d_Mo_faultOfSizes_144 d_Mo_faultOfSizes_145 (by decide) (fun c144 => ?_) (fun c144 => ?_)
                  · refine lv_aload_n hx hb d_Mo_faultOfSizes_151 rfl (lv_at hl 3 rfl) ?_
                    refine lv_bipush (v := 88) hx hb d_Mo_faultOfSizes_152 (by decide) ?_
                    refine lv_iconst (v := 2) hx hb d_Mo_faultOfSizes_154 (by decide) ?_
                    refine kf_ro hP hD hS hA [0] rfl (va_runS (As := [.ref h1, .int 88, .int 2]) (rest := []) ⟨hx, hb, hml, hown, hts⟩ (c_Mo_field l D cB cI _ h1 f hf 88 2 (by decide)) ⟨callB_of 3 hts g_Mo_field rfl rfl rfl (hts _ q1_5) (hts _ q2_76) h_Mo_field ⟨Nat.le_of_ble_eq_true rfl, Nat.le_of_ble_eq_true rfl⟩, (hts _ q2_77)⟩ ⟨kf_bl, kf_to hP hD hS hA hE [0] rfl rfl⟩ rfl rfl hl.1 rfl (lv_room (Nat.le_of_ble_eq_true rfl)) d_Mo_faultOfSizes_155 ⟨Nat.zero_le _, Nat.zero_le _⟩) (fun H locs hP hS => ?_)
                    refine W.eq (g2 := F0 m 158 ls [.long (lN (ky_le f 88 2))]) rfl ?_
                    refine lv_lstore (lv' := [(7, .long (lN (ky_le f 88 2))), (5, .long (lN (ky_le f 32 4))), (3, .long (kv_size f)), (1, .long (lN (ky_le f 24 4))), (0, .ref h1)]) hx hb d_Mo_faultOfSizes_158 hl (by decide) rfl (fun ls hl => ?_)
                    refine lv_lload hx hb d_Mo_faultOfSizes_160 (lv_at hl 0 rfl) ?_
                    refine lv_ldc2 (v := 128) hx hb hown (hts _ q2_98) d_Mo_faultOfSizes_162 ?_
                    refine kf_lc_eq (tgt := 199) hx hb d_Mo_faultOfSizes_165 d_Mo_faultOfSizes_166 (by decide) (fun c165 => ?_) (fun c165 => ?_)
                    · refine lv_aload_n hx hb d_Mo_faultOfSizes_199 rfl (lv_at hl 4 rfl) ?_
                      refine lv_bipush (v := 40) hx hb d_Mo_faultOfSizes_200 (by decide) ?_
                      refine lv_iconst (v := 4) hx hb d_Mo_faultOfSizes_202 (by decide) ?_
                      refine kf_ro hP hD hS hA [0] rfl (va_runS (As := [.ref h1, .int 40, .int 4]) (rest := []) ⟨hx, hb, hml, hown, hts⟩ (c_Mo_field l D cB cI _ h1 f hf 40 4 (by decide)) ⟨callB_of 3 hts g_Mo_field rfl rfl rfl (hts _ q1_5) (hts _ q2_76) h_Mo_field ⟨Nat.le_of_ble_eq_true rfl, Nat.le_of_ble_eq_true rfl⟩, (hts _ q2_77)⟩ ⟨kf_bl, kf_to hP hD hS hA hE [0] rfl rfl⟩ rfl rfl hl.1 rfl (lv_room (Nat.le_of_ble_eq_true rfl)) d_Mo_faultOfSizes_203 ⟨Nat.zero_le _, Nat.zero_le _⟩) (fun H locs hP hS => ?_)
                      refine W.eq (g2 := F0 m 206 ls [.long (lN (ky_le f 40 4))]) rfl ?_
                      refine lv_lstore (lv' := [(9, .long (lN (ky_le f 40 4))), (7, .long (lN (ky_le f 88 2))), (5, .long (lN (ky_le f 32 4))), (3, .long (kv_size f)), (1, .long (lN (ky_le f 24 4))), (0, .ref h1)]) hx hb d_Mo_faultOfSizes_206 hl (by decide) rfl (fun ls hl => ?_)
                      refine lv_lload hx hb d_Mo_faultOfSizes_208 (lv_at hl 0 rfl) ?_
                      refine lv_ldc2 (v := 16) hx hb hown (hts _ q2_100) d_Mo_faultOfSizes_210 ?_
                      refine lv_ldc2 (v := 8) hx hb hown (hts _ q2_72) d_Mo_faultOfSizes_213 ?_
                      refine lv_lload_n hx hb d_Mo_faultOfSizes_216 rfl (lv_at hl 3 rfl) ?_
                      refine lv_lmul hx hb d_Mo_faultOfSizes_217 ?_
                      refine kf_ro hP hD hS hA [] rfl (va_runS (As := [.long (lN (ky_le f 40 4)), .long 16, .long (8 * (kv_size f))]) (rest := []) ⟨hx, hb, hml, hown, hts⟩ (c_Mo_isIn l D cB cI _ (lN (ky_le f 40 4)) 16 (8 * (kv_size f))) ⟨callB_of 3 hts g_Mo_isIn rfl rfl rfl (hts _ q1_5) (hts _ q2_95) h_Mo_isIn ⟨Nat.le_of_ble_eq_true rfl, Nat.le_of_ble_eq_true rfl⟩, (hts _ q2_96)⟩ ⟨kf_bl, kf_to hP hD hS hA hE [] rfl rfl⟩ rfl rfl hl.1 rfl (lv_room (Nat.le_of_ble_eq_true rfl)) d_Mo_faultOfSizes_218 ⟨Nat.zero_le _, Nat.zero_le _⟩) (fun H locs hP hS => ?_)
                      refine W.eq (g2 := F0 m 221 ls [.int (kP (km_inP (lN (ky_le f 40 4)) 16 (8 * (kv_size f))))]) rfl ?_
                      refine lv_if_eq (tgt := 252) hx hb d_Mo_faultOfSizes_221 (by decide) (fun c221 => ?_) (fun c221 => ?_)
                      · refine lv_bipush (v := 40) hx hb d_Mo_faultOfSizes_252 (by decide) ?_
                        have hc118 := by first | exact kP_ne c118 | exact kP_eq c118
                        have hc221 := by first | exact kP_ne c221 | exact kP_eq c221
                        exact kf_ir hx hb hr hlocks hP hD hS (by clear hP hD hS hA hE hts hl; unfold km_sz; grind) d_Mo_faultOfSizes_254
                      · refine lv_lload hx hb d_Mo_faultOfSizes_224 (lv_at hl 0 rfl) ?_
                        refine lv_ldc2 (v := 8) hx hb hown (hts _ q2_72) d_Mo_faultOfSizes_226 ?_
                        refine lv_lrem hx hb d_Mo_faultOfSizes_229 (by decide) ?_
                        refine lv_lconst (v := 0) hx hb d_Mo_faultOfSizes_230 (by decide) ?_
                        refine kf_lc_ne (tgt := 252) hx hb d_Mo_faultOfSizes_231 d_Mo_faultOfSizes_232 (by decide) (fun c231 => ?_) (fun c231 => ?_)
                        · refine lv_bipush (v := 40) hx hb d_Mo_faultOfSizes_252 (by decide) ?_
                          have hc118 := by first | exact kP_ne c118 | exact kP_eq c118
                          have hc221 := by first | exact kP_ne c221 | exact kP_eq c221
                          exact kf_ir hx hb hr hlocks hP hD hS (by clear hP hD hS hA hE hts hl; unfold km_sz; grind) d_Mo_faultOfSizes_254
                        · refine lv_lload hx hb d_Mo_faultOfSizes_235 (lv_at hl 0 rfl) ?_
                          refine lv_lload hx hb d_Mo_faultOfSizes_237 (lv_at hl 1 rfl) ?_
                          refine lv_lmul hx hb d_Mo_faultOfSizes_239 ?_
                          refine lv_lload_n hx hb d_Mo_faultOfSizes_240 rfl (lv_at hl 3 rfl) ?_
                          refine lv_lrem hx hb d_Mo_faultOfSizes_241 (km_ne0 (km_size1 c44)) ?_
                          refine lv_lconst (v := 0) hx hb d_Mo_faultOfSizes_242 (by decide) ?_
                          refine kf_lc_ne (tgt := 252) hx hb d_Mo_faultOfSizes_243 d_Mo_faultOfSizes_244 (by decide) (fun c243 => ?_) (fun c243 => ?_)
                          · refine lv_bipush (v := 40) hx hb d_Mo_faultOfSizes_252 (by decide) ?_
                            have hc118 := by first | exact kP_ne c118 | exact kP_eq c118
                            have hc221 := by first | exact kP_ne c221 | exact kP_eq c221
                            exact kf_ir hx hb hr hlocks hP hD hS (by clear hP hD hS hA hE hts hl; unfold km_sz; grind) d_Mo_faultOfSizes_254
                          · refine lv_bipush (v := -2) hx hb d_Mo_faultOfSizes_247 (by decide) ?_
                            refine lv_goto (tgt := 254) hx hb d_Mo_faultOfSizes_249 (by decide) ?_
                            have hc118 := by first | exact kP_ne c118 | exact kP_eq c118
                            have hc221 := by first | exact kP_ne c221 | exact kP_eq c221
                            exact kf_ir hx hb hr hlocks hP hD hS (by clear hP hD hS hA hE hts hl; unfold km_sz; grind) d_Mo_faultOfSizes_254
                    · refine lv_lload hx hb d_Mo_faultOfSizes_169 (lv_at hl 0 rfl) ?_
                      refine lv_ldc2 (v := 256) hx hb hown (hts _ q2_79) d_Mo_faultOfSizes_171 ?_
                      refine kf_lc_eq (tgt := 199) hx hb d_Mo_faultOfSizes_174 d_Mo_faultOfSizes_175 (by decide) (fun c174 => ?_) (fun c174 => ?_)
                      · refine lv_aload_n hx hb d_Mo_faultOfSizes_199 rfl (lv_at hl 4 rfl) ?_
                        refine lv_bipush (v := 40) hx hb d_Mo_faultOfSizes_200 (by decide) ?_
                        refine lv_iconst (v := 4) hx hb d_Mo_faultOfSizes_202 (by decide) ?_
                        refine kf_ro hP hD hS hA [0] rfl (va_runS (As := [.ref h1, .int 40, .int 4]) (rest := []) ⟨hx, hb, hml, hown, hts⟩ (c_Mo_field l D cB cI _ h1 f hf 40 4 (by decide)) ⟨callB_of 3 hts g_Mo_field rfl rfl rfl (hts _ q1_5) (hts _ q2_76) h_Mo_field ⟨Nat.le_of_ble_eq_true rfl, Nat.le_of_ble_eq_true rfl⟩, (hts _ q2_77)⟩ ⟨kf_bl, kf_to hP hD hS hA hE [0] rfl rfl⟩ rfl rfl hl.1 rfl (lv_room (Nat.le_of_ble_eq_true rfl)) d_Mo_faultOfSizes_203 ⟨Nat.zero_le _, Nat.zero_le _⟩) (fun H locs hP hS => ?_)
                        refine W.eq (g2 := F0 m 206 ls [.long (lN (ky_le f 40 4))]) rfl ?_
                        refine lv_lstore (lv' := [(9, .long (lN (ky_le f 40 4))), (7, .long (lN (ky_le f 88 2))), (5, .long (lN (ky_le f 32 4))), (3, .long (kv_size f)), (1, .long (lN (ky_le f 24 4))), (0, .ref h1)]) hx hb d_Mo_faultOfSizes_206 hl (by decide) rfl (fun ls hl => ?_)
                        refine lv_lload hx hb d_Mo_faultOfSizes_208 (lv_at hl 0 rfl) ?_
                        refine lv_ldc2 (v := 16) hx hb hown (hts _ q2_100) d_Mo_faultOfSizes_210 ?_
                        refine lv_ldc2 (v := 8) hx hb hown (hts _ q2_72) d_Mo_faultOfSizes_213 ?_
                        refine lv_lload_n hx hb d_Mo_faultOfSizes_216 rfl (lv_at hl 3 rfl) ?_
                        refine lv_lmul hx hb d_Mo_faultOfSizes_217 ?_
                        refine kf_ro hP hD hS hA [] rfl (va_runS (As := [.long (lN (ky_le f 40 4)), .long 16, .long (8 * (kv_size f))]) (rest := []) ⟨hx, hb, hml, hown, hts⟩ (c_Mo_isIn l D cB cI _ (lN (ky_le f 40 4)) 16 (8 * (kv_size f))) ⟨callB_of 3 hts g_Mo_isIn rfl rfl rfl (hts _ q1_5) (hts _ q2_95) h_Mo_isIn ⟨Nat.le_of_ble_eq_true rfl, Nat.le_of_ble_eq_true rfl⟩, (hts _ q2_96)⟩ ⟨kf_bl, kf_to hP hD hS hA hE [] rfl rfl⟩ rfl rfl hl.1 rfl (lv_room (Nat.le_of_ble_eq_true rfl)) d_Mo_faultOfSizes_218 ⟨Nat.zero_le _, Nat.zero_le _⟩) (fun H locs hP hS => ?_)
                        refine W.eq (g2 := F0 m 221 ls [.int (kP (km_inP (lN (ky_le f 40 4)) 16 (8 * (kv_size f))))]) rfl ?_
                        refine lv_if_eq (tgt := 252) hx hb d_Mo_faultOfSizes_221 (by decide) (fun c221 => ?_) (fun c221 => ?_)
                        · refine lv_bipush (v := 40) hx hb d_Mo_faultOfSizes_252 (by decide) ?_
                          have hc118 := by first | exact kP_ne c118 | exact kP_eq c118
                          have hc221 := by first | exact kP_ne c221 | exact kP_eq c221
                          exact kf_ir hx hb hr hlocks hP hD hS (by clear hP hD hS hA hE hts hl; unfold km_sz; grind) d_Mo_faultOfSizes_254
                        · refine lv_lload hx hb d_Mo_faultOfSizes_224 (lv_at hl 0 rfl) ?_
                          refine lv_ldc2 (v := 8) hx hb hown (hts _ q2_72) d_Mo_faultOfSizes_226 ?_
                          refine lv_lrem hx hb d_Mo_faultOfSizes_229 (by decide) ?_
                          refine lv_lconst (v := 0) hx hb d_Mo_faultOfSizes_230 (by decide) ?_
                          refine kf_lc_ne (tgt := 252) hx hb d_Mo_faultOfSizes_231 d_Mo_faultOfSizes_232 (by decide) (fun c231 => ?_) (fun c231 => ?_)
                          · refine lv_bipush (v := 40) hx hb d_Mo_faultOfSizes_252 (by decide) ?_
                            have hc118 := by first | exact kP_ne c118 | exact kP_eq c118
                            have hc221 := by first | exact kP_ne c221 | exact kP_eq c221
                            exact kf_ir hx hb hr hlocks hP hD hS (by clear hP hD hS hA hE hts hl; unfold km_sz; grind) d_Mo_faultOfSizes_254
                          · refine lv_lload hx hb d_Mo_faultOfSizes_235 (lv_at hl 0 rfl) ?_
                            refine lv_lload hx hb d_Mo_faultOfSizes_237 (lv_at hl 1 rfl) ?_
                            refine lv_lmul hx hb d_Mo_faultOfSizes_239 ?_
                            refine lv_lload_n hx hb d_Mo_faultOfSizes_240 rfl (lv_at hl 3 rfl) ?_
                            refine lv_lrem hx hb d_Mo_faultOfSizes_241 (km_ne0 (km_size1 c44)) ?_
                            refine lv_lconst (v := 0) hx hb d_Mo_faultOfSizes_242 (by decide) ?_
                            refine kf_lc_ne (tgt := 252) hx hb d_Mo_faultOfSizes_243 d_Mo_faultOfSizes_244 (by decide) (fun c243 => ?_) (fun c243 => ?_)
                            · refine lv_bipush (v := 40) hx hb d_Mo_faultOfSizes_252 (by decide) ?_
                              have hc118 := by first | exact kP_ne c118 | exact kP_eq c118
                              have hc221 := by first | exact kP_ne c221 | exact kP_eq c221
                              exact kf_ir hx hb hr hlocks hP hD hS (by clear hP hD hS hA hE hts hl; unfold km_sz; grind) d_Mo_faultOfSizes_254
                            · refine lv_bipush (v := -2) hx hb d_Mo_faultOfSizes_247 (by decide) ?_
                              refine lv_goto (tgt := 254) hx hb d_Mo_faultOfSizes_249 (by decide) ?_
                              have hc118 := by first | exact kP_ne c118 | exact kP_eq c118
                              have hc221 := by first | exact kP_ne c221 | exact kP_eq c221
                              exact kf_ir hx hb hr hlocks hP hD hS (by clear hP hD hS hA hE hts hl; unfold km_sz; grind) d_Mo_faultOfSizes_254
                      · refine lv_lload hx hb d_Mo_faultOfSizes_178 (lv_at hl 0 rfl) ?_
                        refine lv_ldc2 (v := 512) hx hb hown (hts _ q2_99) d_Mo_faultOfSizes_180 ?_
                        refine kf_lc_eq (tgt := 199) hx hb d_Mo_faultOfSizes_183 d_Mo_faultOfSizes_184 (by decide) (fun c183 => ?_) (fun c183 => ?_)
                        · refine lv_aload_n hx hb d_Mo_faultOfSizes_199 rfl (lv_at hl 4 rfl) ?_
                          refine lv_bipush (v := 40) hx hb d_Mo_faultOfSizes_200 (by decide) ?_
                          refine lv_iconst (v := 4) hx hb d_Mo_faultOfSizes_202 (by decide) ?_
                          refine kf_ro hP hD hS hA [0] rfl (va_runS (As := [.ref h1, .int 40, .int 4]) (rest := []) ⟨hx, hb, hml, hown, hts⟩ (c_Mo_field l D cB cI _ h1 f hf 40 4 (by decide)) ⟨callB_of 3 hts g_Mo_field rfl rfl rfl (hts _ q1_5) (hts _ q2_76) h_Mo_field ⟨Nat.le_of_ble_eq_true rfl, Nat.le_of_ble_eq_true rfl⟩, (hts _ q2_77)⟩ ⟨kf_bl, kf_to hP hD hS hA hE [0] rfl rfl⟩ rfl rfl hl.1 rfl (lv_room (Nat.le_of_ble_eq_true rfl)) d_Mo_faultOfSizes_203 ⟨Nat.zero_le _, Nat.zero_le _⟩) (fun H locs hP hS => ?_)
                          refine W.eq (g2 := F0 m 206 ls [.long (lN (ky_le f 40 4))]) rfl ?_
                          refine lv_lstore (lv' := [(9, .long (lN (ky_le f 40 4))), (7, .long (lN (ky_le f 88 2))), (5, .long (lN (ky_le f 32 4))), (3, .long (kv_size f)), (1, .long (lN (ky_le f 24 4))), (0, .ref h1)]) hx hb d_Mo_faultOfSizes_206 hl (by decide) rfl (fun ls hl => ?_)
                          refine lv_lload hx hb d_Mo_faultOfSizes_208 (lv_at hl 0 rfl) ?_
                          refine lv_ldc2 (v := 16) hx hb hown (hts _ q2_100) d_Mo_faultOfSizes_210 ?_
                          refine lv_ldc2 (v := 8) hx hb hown (hts _ q2_72) d_Mo_faultOfSizes_213 ?_
                          refine lv_lload_n hx hb d_Mo_faultOfSizes_216 rfl (lv_at hl 3 rfl) ?_
                          refine lv_lmul hx hb d_Mo_faultOfSizes_217 ?_
                          refine kf_ro hP hD hS hA [] rfl (va_runS (As := [.long (lN (ky_le f 40 4)), .long 16, .long (8 * (kv_size f))]) (rest := []) ⟨hx, hb, hml, hown, hts⟩ (c_Mo_isIn l D cB cI _ (lN (ky_le f 40 4)) 16 (8 * (kv_size f))) ⟨callB_of 3 hts g_Mo_isIn rfl rfl rfl (hts _ q1_5) (hts _ q2_95) h_Mo_isIn ⟨Nat.le_of_ble_eq_true rfl, Nat.le_of_ble_eq_true rfl⟩, (hts _ q2_96)⟩ ⟨kf_bl, kf_to hP hD hS hA hE [] rfl rfl⟩ rfl rfl hl.1 rfl (lv_room (Nat.le_of_ble_eq_true rfl)) d_Mo_faultOfSizes_218 ⟨Nat.zero_le _, Nat.zero_le _⟩) (fun H locs hP hS => ?_)
                          refine W.eq (g2 := F0 m 221 ls [.int (kP (km_inP (lN (ky_le f 40 4)) 16 (8 * (kv_size f))))]) rfl ?_
                          refine lv_if_eq (tgt := 252) hx hb d_Mo_faultOfSizes_221 (by decide) (fun c221 => ?_) (fun c221 => ?_)
                          · refine lv_bipush (v := 40) hx hb d_Mo_faultOfSizes_252 (by decide) ?_
                            have hc118 := by first | exact kP_ne c118 | exact kP_eq c118
                            have hc221 := by first | exact kP_ne c221 | exact kP_eq c221
                            exact kf_ir hx hb hr hlocks hP hD hS (by clear hP hD hS hA hE hts hl; unfold km_sz; grind) d_Mo_faultOfSizes_254
                          · refine lv_lload hx hb d_Mo_faultOfSizes_224 (lv_at hl 0 rfl) ?_
                            refine lv_ldc2 (v := 8) hx hb hown (hts _ q2_72) d_Mo_faultOfSizes_226 ?_
                            refine lv_lrem hx hb d_Mo_faultOfSizes_229 (by decide) ?_
                            refine lv_lconst (v := 0) hx hb d_Mo_faultOfSizes_230 (by decide) ?_
                            refine kf_lc_ne (tgt := 252) hx hb d_Mo_faultOfSizes_231 d_Mo_faultOfSizes_232 (by decide) (fun c231 => ?_) (fun c231 => ?_)
                            · refine lv_bipush (v := 40) hx hb d_Mo_faultOfSizes_252 (by decide) ?_
                              have hc118 := by first | exact kP_ne c118 | exact kP_eq c118
                              have hc221 := by first | exact kP_ne c221 | exact kP_eq c221
                              exact kf_ir hx hb hr hlocks hP hD hS (by clear hP hD hS hA hE hts hl; unfold km_sz; grind) d_Mo_faultOfSizes_254
                            · refine lv_lload hx hb d_Mo_faultOfSizes_235 (lv_at hl 0 rfl) ?_
                              refine lv_lload hx hb d_Mo_faultOfSizes_237 (lv_at hl 1 rfl) ?_
                              refine lv_lmul hx hb d_Mo_faultOfSizes_239 ?_
                              refine lv_lload_n hx hb d_Mo_faultOfSizes_240 rfl (lv_at hl 3 rfl) ?_
                              refine lv_lrem hx hb d_Mo_faultOfSizes_241 (km_ne0 (km_size1 c44)) ?_
                              refine lv_lconst (v := 0) hx hb d_Mo_faultOfSizes_242 (by decide) ?_
                              refine kf_lc_ne (tgt := 252) hx hb d_Mo_faultOfSizes_243 d_Mo_faultOfSizes_244 (by decide) (fun c243 => ?_) (fun c243 => ?_)
                              · refine lv_bipush (v := 40) hx hb d_Mo_faultOfSizes_252 (by decide) ?_
                                have hc118 := by first | exact kP_ne c118 | exact kP_eq c118
                                have hc221 := by first | exact kP_ne c221 | exact kP_eq c221
                                exact kf_ir hx hb hr hlocks hP hD hS (by clear hP hD hS hA hE hts hl; unfold km_sz; grind) d_Mo_faultOfSizes_254
                              · refine lv_bipush (v := -2) hx hb d_Mo_faultOfSizes_247 (by decide) ?_
                                refine lv_goto (tgt := 254) hx hb d_Mo_faultOfSizes_249 (by decide) ?_
                                have hc118 := by first | exact kP_ne c118 | exact kP_eq c118
                                have hc221 := by first | exact kP_ne c221 | exact kP_eq c221
                                exact kf_ir hx hb hr hlocks hP hD hS (by clear hP hD hS hA hE hts hl; unfold km_sz; grind) d_Mo_faultOfSizes_254
                        · refine lv_lload hx hb d_Mo_faultOfSizes_187 (lv_at hl 0 rfl) ?_
                          refine lv_ldc2 (v := 1024) hx hb hown (hts _ q2_93) d_Mo_faultOfSizes_189 ?_
                          refine kf_lc_eq (tgt := 199) hx hb d_Mo_faultOfSizes_192 d_Mo_faultOfSizes_193 (by decide) (fun c192 => ?_) (fun c192 => ?_)
                          · refine lv_aload_n hx hb d_Mo_faultOfSizes_199 rfl (lv_at hl 4 rfl) ?_
                            refine lv_bipush (v := 40) hx hb d_Mo_faultOfSizes_200 (by decide) ?_
                            refine lv_iconst (v := 4) hx hb d_Mo_faultOfSizes_202 (by decide) ?_
                            refine kf_ro hP hD hS hA [0] rfl (va_runS (As := [.ref h1, .int 40, .int 4]) (rest := []) ⟨hx, hb, hml, hown, hts⟩ (c_Mo_field l D cB cI _ h1 f hf 40 4 (by decide)) ⟨callB_of 3 hts g_Mo_field rfl rfl rfl (hts _ q1_5) (hts _ q2_76) h_Mo_field ⟨Nat.le_of_ble_eq_true rfl, Nat.le_of_ble_eq_true rfl⟩, (hts _ q2_77)⟩ ⟨kf_bl, kf_to hP hD hS hA hE [0] rfl rfl⟩ rfl rfl hl.1 rfl (lv_room (Nat.le_of_ble_eq_true rfl)) d_Mo_faultOfSizes_203 ⟨Nat.zero_le _, Nat.zero_le _⟩) (fun H locs hP hS => ?_)
                            refine W.eq (g2 := F0 m 206 ls [.long (lN (ky_le f 40 4))]) rfl ?_
                            refine lv_lstore (lv' := [(9, .long (lN (ky_le f 40 4))), (7, .long (lN (ky_le f 88 2))), (5, .long (lN (ky_le f 32 4))), (3, .long (kv_size f)), (1, .long (lN (ky_le f 24 4))), (0, .ref h1)]) hx hb d_Mo_faultOfSizes_206 hl (by decide) rfl (fun ls hl => ?_)
                            refine lv_lload hx hb d_Mo_faultOfSizes_208 (lv_at hl 0 rfl) ?_
                            refine lv_ldc2 (v := 16) hx hb hown (hts _ q2_100) d_Mo_faultOfSizes_210 ?_
                            refine lv_ldc2 (v := 8) hx hb hown (hts _ q2_72) d_Mo_faultOfSizes_213 ?_
                            refine lv_lload_n hx hb d_Mo_faultOfSizes_216 rfl (lv_at hl 3 rfl) ?_
                            refine lv_lmul hx hb d_Mo_faultOfSizes_217 ?_
                            refine kf_ro hP hD hS hA [] rfl (va_runS (As := [.long (lN (ky_le f 40 4)), .long 16, .long (8 * (kv_size f))]) (rest := []) ⟨hx, hb, hml, hown, hts⟩ (c_Mo_isIn l D cB cI _ (lN (ky_le f 40 4)) 16 (8 * (kv_size f))) ⟨callB_of 3 hts g_Mo_isIn rfl rfl rfl (hts _ q1_5) (hts _ q2_95) h_Mo_isIn ⟨Nat.le_of_ble_eq_true rfl, Nat.le_of_ble_eq_true rfl⟩, (hts _ q2_96)⟩ ⟨kf_bl, kf_to hP hD hS hA hE [] rfl rfl⟩ rfl rfl hl.1 rfl (lv_room (Nat.le_of_ble_eq_true rfl)) d_Mo_faultOfSizes_218 ⟨Nat.zero_le _, Nat.zero_le _⟩) (fun H locs hP hS => ?_)
                            refine W.eq (g2 := F0 m 221 ls [.int (kP (km_inP (lN (ky_le f 40 4)) 16 (8 * (kv_size f))))]) rfl ?_
                            refine lv_if_eq (tgt := 252) hx hb d_Mo_faultOfSizes_221 (by decide) (fun c221 => ?_) (fun c221 => ?_)
                            · refine lv_bipush (v := 40) hx hb d_Mo_faultOfSizes_252 (by decide) ?_
                              have hc118 := by first | exact kP_ne c118 | exact kP_eq c118
                              have hc221 := by first | exact kP_ne c221 | exact kP_eq c221
                              exact kf_ir hx hb hr hlocks hP hD hS (by clear hP hD hS hA hE hts hl; unfold km_sz; grind) d_Mo_faultOfSizes_254
                            · refine lv_lload hx hb d_Mo_faultOfSizes_224 (lv_at hl 0 rfl) ?_
                              refine lv_ldc2 (v := 8) hx hb hown (hts _ q2_72) d_Mo_faultOfSizes_226 ?_
                              refine lv_lrem hx hb d_Mo_faultOfSizes_229 (by decide) ?_
                              refine lv_lconst (v := 0) hx hb d_Mo_faultOfSizes_230 (by decide) ?_
                              refine kf_lc_ne (tgt := 252) hx hb d_Mo_faultOfSizes_231 d_Mo_faultOfSizes_232 (by decide) (fun c231 => ?_) (fun c231 => ?_)
                              · refine lv_bipush (v := 40) hx hb d_Mo_faultOfSizes_252 (by decide) ?_
                                have hc118 := by first | exact kP_ne c118 | exact kP_eq c118
                                have hc221 := by first | exact kP_ne c221 | exact kP_eq c221
                                exact kf_ir hx hb hr hlocks hP hD hS (by clear hP hD hS hA hE hts hl; unfold km_sz; grind) d_Mo_faultOfSizes_254
                              · refine lv_lload hx hb d_Mo_faultOfSizes_235 (lv_at hl 0 rfl) ?_
                                refine lv_lload hx hb d_Mo_faultOfSizes_237 (lv_at hl 1 rfl) ?_
                                refine lv_lmul hx hb d_Mo_faultOfSizes_239 ?_
                                refine lv_lload_n hx hb d_Mo_faultOfSizes_240 rfl (lv_at hl 3 rfl) ?_
                                refine lv_lrem hx hb d_Mo_faultOfSizes_241 (km_ne0 (km_size1 c44)) ?_
                                refine lv_lconst (v := 0) hx hb d_Mo_faultOfSizes_242 (by decide) ?_
                                refine kf_lc_ne (tgt := 252) hx hb d_Mo_faultOfSizes_243 d_Mo_faultOfSizes_244 (by decide) (fun c243 => ?_) (fun c243 => ?_)
                                · refine lv_bipush (v := 40) hx hb d_Mo_faultOfSizes_252 (by decide) ?_
                                  have hc118 := by first | exact kP_ne c118 | exact kP_eq c118
                                  have hc221 := by first | exact kP_ne c221 | exact kP_eq c221
                                  exact kf_ir hx hb hr hlocks hP hD hS (by clear hP hD hS hA hE hts hl; unfold km_sz; grind) d_Mo_faultOfSizes_254
                                · refine lv_bipush (v := -2) hx hb d_Mo_faultOfSizes_247 (by decide) ?_
                                  refine lv_goto (tgt := 254) hx hb d_Mo_faultOfSizes_249 (by decide) ?_
                                  have hc118 := by first | exact kP_ne c118 | exact kP_eq c118
                                  have hc221 := by first | exact kP_ne c221 | exact kP_eq c221
                                  exact kf_ir hx hb hr hlocks hP hD hS (by clear hP hD hS hA hE hts hl; unfold km_sz; grind) d_Mo_faultOfSizes_254
                          · refine lv_bipush (v := 88) hx hb d_Mo_faultOfSizes_196 (by decide) ?_
                            have hc118 := by first | exact kP_ne c118 | exact kP_eq c118
                            exact kf_ir hx hb hr hlocks hP hD hS (by clear hP hD hS hA hE hts hl; unfold km_sz; grind) d_Mo_faultOfSizes_198
                  · refine lv_bipush (v := 36) hx hb d_Mo_faultOfSizes_148 (by decide) ?_
                    have hc118 := by first | exact kP_ne c118 | exact kP_eq c118
                    exact kf_ir hx hb hr hlocks hP hD hS (by clear hP hD hS hA hE hts hl; unfold km_sz; grind) d_Mo_faultOfSizes_150
                · refine lv_bipush (v := 32) hx hb d_Mo_faultOfSizes_132 (by decide) ?_
                  have hc118 := by first | exact kP_ne c118 | exact kP_eq c118
                  exact kf_ir hx hb hr hlocks hP hD hS (by clear hP hD hS hA hE hts hl; unfold km_sz; grind) d_Mo_faultOfSizes_134
            · refine lv_bipush (v := 20) hx hb d_Mo_faultOfSizes_88 (by decide) ?_
              exact kf_ir hx hb hr hlocks hP hD hS (by clear hP hD hS hA hE hts hl; unfold km_sz; grind) d_Mo_faultOfSizes_90
          · refine lv_lconst (v := 1) hx hb d_Mo_faultOfSizes_79 (by decide) ?_
            refine lv_goto (tgt := 84) hx hb d_Mo_faultOfSizes_80 (by decide) ?_
            refine kf_lc_eq (tgt := 91) hx hb d_Mo_faultOfSizes_84 d_Mo_faultOfSizes_85 (by decide) (fun c84 => ?_) (fun c84 => ?_)
            · refine lv_aload_n hx hb d_Mo_faultOfSizes_91 rfl (lv_at hl 1 rfl) ?_
              refine kf_ro hP hD hS hA [0] rfl (va_runS (As := [.ref h1]) (rest := []) ⟨hx, hb, hml, hown, hts⟩ (c_Mo_sizeOf l D cB cI _ h1 f hf  ) ⟨callB_of 1 hts g_Mo_sizeOf rfl rfl rfl (hts _ q1_5) (hts _ q2_90) h_Mo_sizeOf ⟨Nat.le_of_ble_eq_true rfl, Nat.le_of_ble_eq_true rfl⟩, (hts _ q2_91)⟩ ⟨kf_bl, kf_to hP hD hS hA hE [0] rfl rfl⟩ rfl rfl hl.1 rfl (lv_room (Nat.le_of_ble_eq_true rfl)) d_Mo_faultOfSizes_92 ⟨Nat.zero_le _, Nat.zero_le _⟩) (fun H locs hP hS => ?_)
              refine W.eq (g2 := F0 m 95 ls [.long (kv_size f)]) rfl ?_
              refine lv_lstore_n (lv' := [(3, .long (kv_size f)), (1, .long (lN (ky_le f 24 4))), (0, .ref h1)]) hx hb d_Mo_faultOfSizes_95 rfl hl (by decide) rfl (fun ls hl => ?_)
              refine lv_aload_n hx hb d_Mo_faultOfSizes_96 rfl (lv_at hl 2 rfl) ?_
              refine lv_bipush (v := 32) hx hb d_Mo_faultOfSizes_97 (by decide) ?_
              refine lv_iconst (v := 4) hx hb d_Mo_faultOfSizes_99 (by decide) ?_
              refine kf_ro hP hD hS hA [0] rfl (va_runS (As := [.ref h1, .int 32, .int 4]) (rest := []) ⟨hx, hb, hml, hown, hts⟩ (c_Mo_field l D cB cI _ h1 f hf 32 4 (by decide)) ⟨callB_of 3 hts g_Mo_field rfl rfl rfl (hts _ q1_5) (hts _ q2_76) h_Mo_field ⟨Nat.le_of_ble_eq_true rfl, Nat.le_of_ble_eq_true rfl⟩, (hts _ q2_77)⟩ ⟨kf_bl, kf_to hP hD hS hA hE [0] rfl rfl⟩ rfl rfl hl.1 rfl (lv_room (Nat.le_of_ble_eq_true rfl)) d_Mo_faultOfSizes_100 ⟨Nat.zero_le _, Nat.zero_le _⟩) (fun H locs hP hS => ?_)
              refine W.eq (g2 := F0 m 103 ls [.long (lN (ky_le f 32 4))]) rfl ?_
              refine lv_lstore (lv' := [(5, .long (lN (ky_le f 32 4))), (3, .long (kv_size f)), (1, .long (lN (ky_le f 24 4))), (0, .ref h1)]) hx hb d_Mo_faultOfSizes_103 hl (by decide) rfl (fun ls hl => ?_)
              refine lv_lload hx hb d_Mo_faultOfSizes_105 (lv_at hl 0 rfl) ?_
              refine lv_ldc2 (v := 64) hx hb hown (hts _ q2_94) d_Mo_faultOfSizes_107 ?_
              refine lv_ldc2 (v := 8) hx hb hown (hts _ q2_72) d_Mo_faultOfSizes_110 ?_
              refine lv_lload_n hx hb d_Mo_faultOfSizes_113 rfl (lv_at hl 1 rfl) ?_
              refine lv_lmul hx hb d_Mo_faultOfSizes_114 ?_
              refine kf_ro hP hD hS hA [] rfl (va_runS (As := [.long (lN (ky_le f 32 4)), .long 64, .long (8 * (kv_size f))]) (rest := []) ⟨hx, hb, hml, hown, hts⟩ (c_Mo_isIn l D cB cI _ (lN (ky_le f 32 4)) 64 (8 * (kv_size f))) ⟨callB_of 3 hts g_Mo_isIn rfl rfl rfl (hts _ q1_5) (hts _ q2_95) h_Mo_isIn ⟨Nat.le_of_ble_eq_true rfl, Nat.le_of_ble_eq_true rfl⟩, (hts _ q2_96)⟩ ⟨kf_bl, kf_to hP hD hS hA hE [] rfl rfl⟩ rfl rfl hl.1 rfl (lv_room (Nat.le_of_ble_eq_true rfl)) d_Mo_faultOfSizes_115 ⟨Nat.zero_le _, Nat.zero_le _⟩) (fun H locs hP hS => ?_)
              refine W.eq (g2 := F0 m 118 ls [.int (kP (km_inP (lN (ky_le f 32 4)) 64 (8 * (kv_size f))))]) rfl ?_
              refine lv_if_eq (tgt := 132) hx hb d_Mo_faultOfSizes_118 (by decide) (fun c118 => ?_) (fun c118 => ?_)
              · refine lv_bipush (v := 32) hx hb d_Mo_faultOfSizes_132 (by decide) ?_
                have hc118 := by first | exact kP_ne c118 | exact kP_eq c118
                exact kf_ir hx hb hr hlocks hP hD hS (by clear hP hD hS hA hE hts hl; unfold km_sz; grind) d_Mo_faultOfSizes_134
              · refine lv_lload hx hb d_Mo_faultOfSizes_121 (lv_at hl 0 rfl) ?_
                refine lv_ldc2 (v := 8) hx hb hown (hts _ q2_72) d_Mo_faultOfSizes_123 ?_
                refine lv_lrem hx hb d_Mo_faultOfSizes_126 (by decide) ?_
                refine lv_lconst (v := 0) hx hb d_Mo_faultOfSizes_127 (by decide) ?_
                refine kf_lc_eq (tgt := 135) hx hb d_Mo_faultOfSizes_128 d_Mo_faultOfSizes_129 (by decide) (fun c128 => ?_) (fun c128 => ?_)
                · refine lv_aload_n hx hb d_Mo_faultOfSizes_135 rfl (lv_at hl 3 rfl) ?_
                  refine lv_bipush (v := 36) hx hb d_Mo_faultOfSizes_136 (by decide) ?_
                  refine lv_iconst (v := 4) hx hb d_Mo_faultOfSizes_138 (by decide) ?_
                  refine kf_ro hP hD hS hA [0] rfl (va_runS (As := [.ref h1, .int 36, .int 4]) (rest := []) ⟨hx, hb, hml, hown, hts⟩ (c_Mo_field l D cB cI _ h1 f hf 36 4 (by decide)) ⟨callB_of 3 hts g_Mo_field rfl rfl rfl (hts _ q1_5) (hts _ q2_76) h_Mo_field ⟨Nat.le_of_ble_eq_true rfl, Nat.le_of_ble_eq_true rfl⟩, (hts _ q2_77)⟩ ⟨kf_bl, kf_to hP hD hS hA hE [0] rfl rfl⟩ rfl rfl hl.1 rfl (lv_room (Nat.le_of_ble_eq_true rfl)) d_Mo_faultOfSizes_139 ⟨Nat.zero_le _, Nat.zero_le _⟩) (fun H locs hP hS => ?_)
                  refine W.eq (g2 := F0 m 142 ls [.long (lN (ky_le f 36 4))]) rfl ?_
                  refine lv_lload hx hb d_Mo_faultOfSizes_142 (lv_at hl 0 rfl) ?_
                  refine kf_lc_eq (tgt := 151) hx hb d_Mo_faultOfSizes_144 d_Mo_faultOfSizes_145 (by decide) (fun c144 => ?_) (fun c144 => ?_)
                  · refine lv_aload_n hx hb d_Mo_faultOfSizes_151 rfl (lv_at hl 3 rfl) ?_
                    refine lv_bipush (v := 88) hx hb d_Mo_faultOfSizes_152 (by decide) ?_
                    refine lv_iconst (v := 2) hx hb d_Mo_faultOfSizes_154 (by decide) ?_
                    refine kf_ro hP hD hS hA [0] rfl (va_runS (As := [.ref h1, .int 88, .int 2]) (rest := []) ⟨hx, hb, hml, hown, hts⟩ (c_Mo_field l D cB cI _ h1 f hf 88 2 (by decide)) ⟨callB_of 3 hts g_Mo_field rfl rfl rfl (hts _ q1_5) (hts _ q2_76) h_Mo_field ⟨Nat.le_of_ble_eq_true rfl, Nat.le_of_ble_eq_true rfl⟩, (hts _ q2_77)⟩ ⟨kf_bl, kf_to hP hD hS hA hE [0] rfl rfl⟩ rfl rfl hl.1 rfl (lv_room (Nat.le_of_ble_eq_true rfl)) d_Mo_faultOfSizes_155 ⟨Nat.zero_le _, Nat.zero_le _⟩) (fun H locs hP hS => ?_)
                    refine W.eq (g2 := F0 m 158 ls [.long (lN (ky_le f 88 2))]) rfl ?_
                    refine lv_lstore (lv' := [(7, .long (lN (ky_le f 88 2))), (5, .long (lN (ky_le f 32 4))), (3, .long (kv_size f)), (1, .long (lN (ky_le f 24 4))), (0, .ref h1)]) hx hb d_Mo_faultOfSizes_158 hl (by decide) rfl (fun ls hl => ?_)
                    refine lv_lload hx hb d_Mo_faultOfSizes_160 (lv_at hl 0 rfl) ?_
                    refine lv_ldc2 (v := 128) hx hb hown (hts _ q2_98) d_Mo_faultOfSizes_162 ?_
                    refine kf_lc_eq (tgt := 199) hx hb d_Mo_faultOfSizes_165 d_Mo_faultOfSizes_166 (by decide) (fun c165 => ?_) (fun c165 => ?_)
                    · refine lv_aload_n hx hb d_Mo_faultOfSizes_199 rfl (lv_at hl 4 rfl) ?_
                      refine lv_bipush (v := 40) hx hb d_Mo_faultOfSizes_200 (by decide) ?_
                      refine lv_iconst (v := 4) hx hb d_Mo_faultOfSizes_202 (by decide) ?_
                      refine kf_ro hP hD hS hA [0] rfl (va_runS (As := [.ref h1, .int 40, .int 4]) (rest := []) ⟨hx, hb, hml, hown, hts⟩ (c_Mo_field l D cB cI _ h1 f hf 40 4 (by decide)) ⟨callB_of 3 hts g_Mo_field rfl rfl rfl (hts _ q1_5) (hts _ q2_76) h_Mo_field ⟨Nat.le_of_ble_eq_true rfl, Nat.le_of_ble_eq_true rfl⟩, (hts _ q2_77)⟩ ⟨kf_bl, kf_to hP hD hS hA hE [0] rfl rfl⟩ rfl rfl hl.1 rfl (lv_room (Nat.le_of_ble_eq_true rfl)) d_Mo_faultOfSizes_203 ⟨Nat.zero_le _, Nat.zero_le _⟩) (fun H locs hP hS => ?_)
                      refine W.eq (g2 := F0 m 206 ls [.long (lN (ky_le f 40 4))]) rfl ?_
                      refine lv_lstore (lv' := [(9, .long (lN (ky_le f 40 4))), (7, .long (lN (ky_le f 88 2))), (5, .long (lN (ky_le f 32 4))), (3, .long (kv_size f)), (1, .long (lN (ky_le f 24 4))), (0, .ref h1)]) hx hb d_Mo_faultOfSizes_206 hl (by decide) rfl (fun ls hl => ?_)
                      refine lv_lload hx hb d_Mo_faultOfSizes_208 (lv_at hl 0 rfl) ?_
                      refine lv_ldc2 (v := 16) hx hb hown (hts _ q2_100) d_Mo_faultOfSizes_210 ?_
                      refine lv_ldc2 (v := 8) hx hb hown (hts _ q2_72) d_Mo_faultOfSizes_213 ?_
                      refine lv_lload_n hx hb d_Mo_faultOfSizes_216 rfl (lv_at hl 3 rfl) ?_
                      refine lv_lmul hx hb d_Mo_faultOfSizes_217 ?_
                      refine kf_ro hP hD hS hA [] rfl (va_runS (As := [.long (lN (ky_le f 40 4)), .long 16, .long (8 * (kv_size f))]) (rest := []) ⟨hx, hb, hml, hown, hts⟩ (c_Mo_isIn l D cB cI _ (lN (ky_le f 40 4)) 16 (8 * (kv_size f))) ⟨callB_of 3 hts g_Mo_isIn rfl rfl rfl (hts _ q1_5) (hts _ q2_95) h_Mo_isIn ⟨Nat.le_of_ble_eq_true rfl, Nat.le_of_ble_eq_true rfl⟩, (hts _ q2_96)⟩ ⟨kf_bl, kf_to hP hD hS hA hE [] rfl rfl⟩ rfl rfl hl.1 rfl (lv_room (Nat.le_of_ble_eq_true rfl)) d_Mo_faultOfSizes_218 ⟨Nat.zero_le _, Nat.zero_le _⟩) (fun H locs hP hS => ?_)
                      refine W.eq (g2 := F0 m 221 ls [.int (kP (km_inP (lN (ky_le f 40 4)) 16 (8 * (kv_size f))))]) rfl ?_
                      refine lv_if_eq (tgt := 252) hx hb d_Mo_faultOfSizes_221 (by decide) (fun c221 => ?_) (fun c221 => ?_)
                      · refine lv_bipush (v := 40) hx hb d_Mo_faultOfSizes_252 (by decide) ?_
                        have hc118 := by first | exact kP_ne c118 | exact kP_eq c118
                        have hc221 := by first | exact kP_ne c221 | exact kP_eq c221
                        exact kf_ir hx hb hr hlocks hP hD hS (by clear hP hD hS hA hE hts hl; unfold km_sz; grind) d_Mo_faultOfSizes_254
                      · refine lv_lload hx hb d_Mo_faultOfSizes_224 (lv_at hl 0 rfl) ?_
                        refine lv_ldc2 (v := 8) hx hb hown (hts _ q2_72) d_Mo_faultOfSizes_226 ?_
                        refine lv_lrem hx hb d_Mo_faultOfSizes_229 (by decide) ?_
                        refine lv_lconst (v := 0) hx hb d_Mo_faultOfSizes_230 (by decide) ?_
                        refine kf_lc_ne (tgt := 252) hx hb d_Mo_faultOfSizes_231 d_Mo_faultOfSizes_232 (by decide) (fun c231 => ?_) (fun c231 => ?_)
                        · refine lv_bipush (v := 40) hx hb d_Mo_faultOfSizes_252 (by decide) ?_
                          have hc118 := by first | exact kP_ne c118 | exact kP_eq c118
                          have hc221 := by first | exact kP_ne c221 | exact kP_eq c221
                          exact kf_ir hx hb hr hlocks hP hD hS (by clear hP hD hS hA hE hts hl; unfold km_sz; grind) d_Mo_faultOfSizes_254
                        · refine lv_lload hx hb d_Mo_faultOfSizes_235 (lv_at hl 0 rfl) ?_
                          refine lv_lload hx hb d_Mo_faultOfSizes_237 (lv_at hl 1 rfl) ?_
                          refine lv_lmul hx hb d_Mo_faultOfSizes_239 ?_
                          refine lv_lload_n hx hb d_Mo_faultOfSizes_240 rfl (lv_at hl 3 rfl) ?_
                          refine lv_lrem hx hb d_Mo_faultOfSizes_241 (km_ne0 (km_size1 c44)) ?_
                          refine lv_lconst (v := 0) hx hb d_Mo_faultOfSizes_242 (by decide) ?_
                          refine kf_lc_ne (tgt := 252) hx hb d_Mo_faultOfSizes_243 d_Mo_faultOfSizes_244 (by decide) (fun c243 => ?_) (fun c243 => ?_)
                          · refine lv_bipush (v := 40) hx hb d_Mo_faultOfSizes_252 (by decide) ?_
                            have hc118 := by first | exact kP_ne c118 | exact kP_eq c118
                            have hc221 := by first | exact kP_ne c221 | exact kP_eq c221
                            exact kf_ir hx hb hr hlocks hP hD hS (by clear hP hD hS hA hE hts hl; unfold km_sz; grind) d_Mo_faultOfSizes_254
                          · refine lv_bipush (v := -2) hx hb d_Mo_faultOfSizes_247 (by decide) ?_
                            refine lv_goto (tgt := 254) hx hb d_Mo_faultOfSizes_249 (by decide) ?_
                            have hc118 := by first | exact kP_ne c118 | exact kP_eq c118
                            have hc221 := by first | exact kP_ne c221 | exact kP_eq c221
                            exact kf_ir hx hb hr hlocks hP hD hS (by clear hP hD hS hA hE hts hl; unfold km_sz; grind) d_Mo_faultOfSizes_254
                    · refine lv_lload hx hb d_Mo_faultOfSizes_169 (lv_at hl 0 rfl) ?_
                      refine lv_ldc2 (v := 256) hx hb hown (hts _ q2_79) d_Mo_faultOfSizes_171 ?_
                      refine kf_lc_eq (tgt := 199) hx hb d_Mo_faultOfSizes_174 d_Mo_faultOfSizes_175 (by decide) (fun c174 => ?_) (fun c174 => ?_)
                      · refine lv_aload_n hx hb d_Mo_faultOfSizes_199 rfl (lv_at hl 4 rfl) ?_
                        refine lv_bipush (v := 40) hx hb d_Mo_faultOfSizes_200 (by decide) ?_
                        refine lv_iconst (v := 4) hx hb d_Mo_faultOfSizes_202 (by decide) ?_
                        refine kf_ro hP hD hS hA [0] rfl (va_runS (As := [.ref h1, .int 40, .int 4]) (rest := []) ⟨hx, hb, hml, hown, hts⟩ (c_Mo_field l D cB cI _ h1 f hf 40 4 (by decide)) ⟨callB_of 3 hts g_Mo_field rfl rfl rfl (hts _ q1_5) (hts _ q2_76) h_Mo_field ⟨Nat.le_of_ble_eq_true rfl, Nat.le_of_ble_eq_true rfl⟩, (hts _ q2_77)⟩ ⟨kf_bl, kf_to hP hD hS hA hE [0] rfl rfl⟩ rfl rfl hl.1 rfl (lv_room (Nat.le_of_ble_eq_true rfl)) d_Mo_faultOfSizes_203 ⟨Nat.zero_le _, Nat.zero_le _⟩) (fun H locs hP hS => ?_)
                        refine W.eq (g2 := F0 m 206 ls [.long (lN (ky_le f 40 4))]) rfl ?_
                        refine lv_lstore (lv' := [(9, .long (lN (ky_le f 40 4))), (7, .long (lN (ky_le f 88 2))), (5, .long (lN (ky_le f 32 4))), (3, .long (kv_size f)), (1, .long (lN (ky_le f 24 4))), (0, .ref h1)]) hx hb d_Mo_faultOfSizes_206 hl (by decide) rfl (fun ls hl => ?_)
                        refine lv_lload hx hb d_Mo_faultOfSizes_208 (lv_at hl 0 rfl) ?_
                        refine lv_ldc2 (v := 16) hx hb hown (hts _ q2_100) d_Mo_faultOfSizes_210 ?_
                        refine lv_ldc2 (v := 8) hx hb hown (hts _ q2_72) d_Mo_faultOfSizes_213 ?_
                        refine lv_lload_n hx hb d_Mo_faultOfSizes_216 rfl (lv_at hl 3 rfl) ?_
                        refine lv_lmul hx hb d_Mo_faultOfSizes_217 ?_
                        refine kf_ro hP hD hS hA [] rfl (va_runS (As := [.long (lN (ky_le f 40 4)), .long 16, .long (8 * (kv_size f))]) (rest := []) ⟨hx, hb, hml, hown, hts⟩ (c_Mo_isIn l D cB cI _ (lN (ky_le f 40 4)) 16 (8 * (kv_size f))) ⟨callB_of 3 hts g_Mo_isIn rfl rfl rfl (hts _ q1_5) (hts _ q2_95) h_Mo_isIn ⟨Nat.le_of_ble_eq_true rfl, Nat.le_of_ble_eq_true rfl⟩, (hts _ q2_96)⟩ ⟨kf_bl, kf_to hP hD hS hA hE [] rfl rfl⟩ rfl rfl hl.1 rfl (lv_room (Nat.le_of_ble_eq_true rfl)) d_Mo_faultOfSizes_218 ⟨Nat.zero_le _, Nat.zero_le _⟩) (fun H locs hP hS => ?_)
                        refine W.eq (g2 := F0 m 221 ls [.int (kP (km_inP (lN (ky_le f 40 4)) 16 (8 * (kv_size f))))]) rfl ?_
                        refine lv_if_eq (tgt := 252) hx hb d_Mo_faultOfSizes_221 (by decide) (fun c221 => ?_) (fun c221 => ?_)
                        · refine lv_bipush (v := 40) hx hb d_Mo_faultOfSizes_252 (by decide) ?_
                          have hc118 := by first | exact kP_ne c118 | exact kP_eq c118
                          have hc221 := by first | exact kP_ne c221 | exact kP_eq c221
                          exact kf_ir hx hb hr hlocks hP hD hS (by clear hP hD hS hA hE hts hl; unfold km_sz; grind) d_Mo_faultOfSizes_254
                        · refine lv_lload hx hb d_Mo_faultOfSizes_224 (lv_at hl 0 rfl) ?_
                          refine lv_ldc2 (v := 8) hx hb hown (hts _ q2_72) d_Mo_faultOfSizes_226 ?_
                          refine lv_lrem hx hb d_Mo_faultOfSizes_229 (by decide) ?_
                          refine lv_lconst (v := 0) hx hb d_Mo_faultOfSizes_230 (by decide) ?_
                          refine kf_lc_ne (tgt := 252) hx hb d_Mo_faultOfSizes_231 d_Mo_faultOfSizes_232 (by decide) (fun c231 => ?_) (fun c231 => ?_)
                          · refine lv_bipush (v := 40) hx hb d_Mo_faultOfSizes_252 (by decide) ?_
                            have hc118 := by first | exact kP_ne c118 | exact kP_eq c118
                            have hc221 := by first | exact kP_ne c221 | exact kP_eq c221
                            exact kf_ir hx hb hr hlocks hP hD hS (by clear hP hD hS hA hE hts hl; unfold km_sz; grind) d_Mo_faultOfSizes_254
                          · refine lv_lload hx hb d_Mo_faultOfSizes_235 (lv_at hl 0 rfl) ?_
                            refine lv_lload hx hb d_Mo_faultOfSizes_237 (lv_at hl 1 rfl) ?_
                            refine lv_lmul hx hb d_Mo_faultOfSizes_239 ?_
                            refine lv_lload_n hx hb d_Mo_faultOfSizes_240 rfl (lv_at hl 3 rfl) ?_
                            refine lv_lrem hx hb d_Mo_faultOfSizes_241 (km_ne0 (km_size1 c44)) ?_
                            refine lv_lconst (v := 0) hx hb d_Mo_faultOfSizes_242 (by decide) ?_
                            refine kf_lc_ne (tgt := 252) hx hb d_Mo_faultOfSizes_243 d_Mo_faultOfSizes_244 (by decide) (fun c243 => ?_) (fun c243 => ?_)
                            · refine lv_bipush (v := 40) hx hb d_Mo_faultOfSizes_252 (by decide) ?_
                              have hc118 := by first | exact kP_ne c118 | exact kP_eq c118
                              have hc221 := by first | exact kP_ne c221 | exact kP_eq c221
                              exact kf_ir hx hb hr hlocks hP hD hS (by clear hP hD hS hA hE hts hl; unfold km_sz; grind) d_Mo_faultOfSizes_254
                            · refine lv_bipush (v := -2) hx hb d_Mo_faultOfSizes_247 (by decide) ?_
                              refine lv_goto (tgt := 254) hx hb d_Mo_faultOfSizes_249 (by decide) ?_
                              have hc118 := by first | exact kP_ne c118 | exact kP_eq c118
                              have hc221 := by first | exact kP_ne c221 | exact kP_eq c221
                              exact kf_ir hx hb hr hlocks hP hD hS (by clear hP hD hS hA hE hts hl; unfold km_sz; grind) d_Mo_faultOfSizes_254
                      · refine lv_lload hx hb d_Mo_faultOfSizes_178 (lv_at hl 0 rfl) ?_
                        refine lv_ldc2 (v := 512) hx hb hown (hts _ q2_99) d_Mo_faultOfSizes_180 ?_
                        refine kf_lc_eq (tgt := 199) hx hb d_Mo_faultOfSizes_183 d_Mo_faultOfSizes_184 (by decide) (fun c183 => ?_) (fun c183 => ?_)
                        · refine lv_aload_n hx hb d_Mo_faultOfSizes_199 rfl (lv_at hl 4 rfl) ?_
                          refine lv_bipush (v := 40) hx hb d_Mo_faultOfSizes_200 (by decide) ?_
                          refine lv_iconst (v := 4) hx hb d_Mo_faultOfSizes_202 (by decide) ?_
                          refine kf_ro hP hD hS hA [0] rfl (va_runS (As := [.ref h1, .int 40, .int 4]) (rest := []) ⟨hx, hb, hml, hown, hts⟩ (c_Mo_field l D cB cI _ h1 f hf 40 4 (by decide)) ⟨callB_of 3 hts g_Mo_field rfl rfl rfl (hts _ q1_5) (hts _ q2_76) h_Mo_field ⟨Nat.le_of_ble_eq_true rfl, Nat.le_of_ble_eq_true rfl⟩, (hts _ q2_77)⟩ ⟨kf_bl, kf_to hP hD hS hA hE [0] rfl rfl⟩ rfl rfl hl.1 rfl (lv_room (Nat.le_of_ble_eq_true rfl)) d_Mo_faultOfSizes_203 ⟨Nat.zero_le _, Nat.zero_le _⟩) (fun H locs hP hS => ?_)
                          refine W.eq (g2 := F0 m 206 ls [.long (lN (ky_le f 40 4))]) rfl ?_
                          refine lv_lstore (lv' := [(9, .long (lN (ky_le f 40 4))), (7, .long (lN (ky_le f 88 2))), (5, .long (lN (ky_le f 32 4))), (3, .long (kv_size f)), (1, .long (lN (ky_le f 24 4))), (0, .ref h1)]) hx hb d_Mo_faultOfSizes_206 hl (by decide) rfl (fun ls hl => ?_)
                          refine lv_lload hx hb d_Mo_faultOfSizes_208 (lv_at hl 0 rfl) ?_
                          refine lv_ldc2 (v := 16) hx hb hown (hts _ q2_100) d_Mo_faultOfSizes_210 ?_
                          refine lv_ldc2 (v := 8) hx hb hown (hts _ q2_72) d_Mo_faultOfSizes_213 ?_
                          refine lv_lload_n hx hb d_Mo_faultOfSizes_216 rfl (lv_at hl 3 rfl) ?_
                          refine lv_lmul hx hb d_Mo_faultOfSizes_217 ?_
                          refine kf_ro hP hD hS hA [] rfl (va_runS (As := [.long (lN (ky_le f 40 4)), .long 16, .long (8 * (kv_size f))]) (rest := []) ⟨hx, hb, hml, hown, hts⟩ (c_Mo_isIn l D cB cI _ (lN (ky_le f 40 4)) 16 (8 * (kv_size f))) ⟨callB_of 3 hts g_Mo_isIn rfl rfl rfl (hts _ q1_5) (hts _ q2_95) h_Mo_isIn ⟨Nat.le_of_ble_eq_true rfl, Nat.le_of_ble_eq_true rfl⟩, (hts _ q2_96)⟩ ⟨kf_bl, kf_to hP hD hS hA hE [] rfl rfl⟩ rfl rfl hl.1 rfl (lv_room (Nat.le_of_ble_eq_true rfl)) d_Mo_faultOfSizes_218 ⟨Nat.zero_le _, Nat.zero_le _⟩) (fun H locs hP hS => ?_)
                          refine W.eq (g2 := F0 m 221 ls [.int (kP (km_inP (lN (ky_le f 40 4)) 16 (8 * (kv_size f))))]) rfl ?_
                          refine lv_if_eq (tgt := 252) hx hb d_Mo_faultOfSizes_221 (by decide) (fun c221 => ?_) (fun c221 => ?_)
                          · refine lv_bipush (v := 40) hx hb d_Mo_faultOfSizes_252 (by decide) ?_
                            have hc118 := by first | exact kP_ne c118 | exact kP_eq c118
                            have hc221 := by first | exact kP_ne c221 | exact kP_eq c221
                            exact kf_ir hx hb hr hlocks hP hD hS (by clear hP hD hS hA hE hts hl; unfold km_sz; grind) d_Mo_faultOfSizes_254
                          · refine lv_lload hx hb d_Mo_faultOfSizes_224 (lv_at hl 0 rfl) ?_
                            refine lv_ldc2 (v := 8) hx hb hown (hts _ q2_72) d_Mo_faultOfSizes_226 ?_
                            refine lv_lrem hx hb d_Mo_faultOfSizes_229 (by decide) ?_
                            refine lv_lconst (v := 0) hx hb d_Mo_faultOfSizes_230 (by decide) ?_
                            refine kf_lc_ne (tgt := 252) hx hb d_Mo_faultOfSizes_231 d_Mo_faultOfSizes_232 (by decide) (fun c231 => ?_) (fun c231 => ?_)
                            · refine lv_bipush (v := 40) hx hb d_Mo_faultOfSizes_252 (by decide) ?_
                              have hc118 := by first | exact kP_ne c118 | exact kP_eq c118
                              have hc221 := by first | exact kP_ne c221 | exact kP_eq c221
                              exact kf_ir hx hb hr hlocks hP hD hS (by clear hP hD hS hA hE hts hl; unfold km_sz; grind) d_Mo_faultOfSizes_254
                            · refine lv_lload hx hb d_Mo_faultOfSizes_235 (lv_at hl 0 rfl) ?_
                              refine lv_lload hx hb d_Mo_faultOfSizes_237 (lv_at hl 1 rfl) ?_
                              refine lv_lmul hx hb d_Mo_faultOfSizes_239 ?_
                              refine lv_lload_n hx hb d_Mo_faultOfSizes_240 rfl (lv_at hl 3 rfl) ?_
                              refine lv_lrem hx hb d_Mo_faultOfSizes_241 (km_ne0 (km_size1 c44)) ?_
                              refine lv_lconst (v := 0) hx hb d_Mo_faultOfSizes_242 (by decide) ?_
                              refine kf_lc_ne (tgt := 252) hx hb d_Mo_faultOfSizes_243 d_Mo_faultOfSizes_244 (by decide) (fun c243 => ?_) (fun c243 => ?_)
                              · refine lv_bipush (v := 40) hx hb d_Mo_faultOfSizes_252 (by decide) ?_
                                have hc118 := by first | exact kP_ne c118 | exact kP_eq c118
                                have hc221 := by first | exact kP_ne c221 | exact kP_eq c221
                                exact kf_ir hx hb hr hlocks hP hD hS (by clear hP hD hS hA hE hts hl; unfold km_sz; grind) d_Mo_faultOfSizes_254
                              · refine lv_bipush (v := -2) hx hb d_Mo_faultOfSizes_247 (by decide) ?_
                                refine lv_goto (tgt := 254) hx hb d_Mo_faultOfSizes_249 (by decide) ?_
                                have hc118 := by first | exact kP_ne c118 | exact kP_eq c118
                                have hc221 := by first | exact kP_ne c221 | exact kP_eq c221
                                exact kf_ir hx hb hr hlocks hP hD hS (by clear hP hD hS hA hE hts hl; unfold km_sz; grind) d_Mo_faultOfSizes_254
                        · refine lv_lload hx hb d_Mo_faultOfSizes_187 (lv_at hl 0 rfl) ?_
                          refine lv_ldc2 (v := 1024) hx hb hown (hts _ q2_93) d_Mo_faultOfSizes_189 ?_
                          refine kf_lc_eq (tgt := 199) hx hb d_Mo_faultOfSizes_192 d_Mo_faultOfSizes_193 (by decide) (fun c192 => ?_) (fun c192 => ?_)
                          · refine lv_aload_n hx hb d_Mo_faultOfSizes_199 rfl (lv_at hl 4 rfl) ?_
                            refine lv_bipush (v := 40) hx hb d_Mo_faultOfSizes_200 (by decide) ?_
                            refine lv_iconst (v := 4) hx hb d_Mo_faultOfSizes_202 (by decide) ?_
                            refine kf_ro hP hD hS hA [0] rfl (va_runS (As := [.ref h1, .int 40, .int 4]) (rest := []) ⟨hx, hb, hml, hown, hts⟩ (c_Mo_field l D cB cI _ h1 f hf 40 4 (by decide)) ⟨callB_of 3 hts g_Mo_field rfl rfl rfl (hts _ q1_5) (hts _ q2_76) h_Mo_field ⟨Nat.le_of_ble_eq_true rfl, Nat.le_of_ble_eq_true rfl⟩, (hts _ q2_77)⟩ ⟨kf_bl, kf_to hP hD hS hA hE [0] rfl rfl⟩ rfl rfl hl.1 rfl (lv_room (Nat.le_of_ble_eq_true rfl)) d_Mo_faultOfSizes_203 ⟨Nat.zero_le _, Nat.zero_le _⟩) (fun H locs hP hS => ?_)
                            refine W.eq (g2 := F0 m 206 ls [.long (lN (ky_le f 40 4))]) rfl ?_
                            refine lv_lstore (lv' := [(9, .long (lN (ky_le f 40 4))), (7, .long (lN (ky_le f 88 2))), (5, .long (lN (ky_le f 32 4))), (3, .long (kv_size f)), (1, .long (lN (ky_le f 24 4))), (0, .ref h1)]) hx hb d_Mo_faultOfSizes_206 hl (by decide) rfl (fun ls hl => ?_)
                            refine lv_lload hx hb d_Mo_faultOfSizes_208 (lv_at hl 0 rfl) ?_
                            refine lv_ldc2 (v := 16) hx hb hown (hts _ q2_100) d_Mo_faultOfSizes_210 ?_
                            refine lv_ldc2 (v := 8) hx hb hown (hts _ q2_72) d_Mo_faultOfSizes_213 ?_
                            refine lv_lload_n hx hb d_Mo_faultOfSizes_216 rfl (lv_at hl 3 rfl) ?_
                            refine lv_lmul hx hb d_Mo_faultOfSizes_217 ?_
                            refine kf_ro hP hD hS hA [] rfl (va_runS (As := [.long (lN (ky_le f 40 4)), .long 16, .long (8 * (kv_size f))]) (rest := []) ⟨hx, hb, hml, hown, hts⟩ (c_Mo_isIn l D cB cI _ (lN (ky_le f 40 4)) 16 (8 * (kv_size f))) ⟨callB_of 3 hts g_Mo_isIn rfl rfl rfl (hts _ q1_5) (hts _ q2_95) h_Mo_isIn ⟨Nat.le_of_ble_eq_true rfl, Nat.le_of_ble_eq_true rfl⟩, (hts _ q2_96)⟩ ⟨kf_bl, kf_to hP hD hS hA hE [] rfl rfl⟩ rfl rfl hl.1 rfl (lv_room (Nat.le_of_ble_eq_true rfl)) d_Mo_faultOfSizes_218 ⟨Nat.zero_le _, Nat.zero_le _⟩) (fun H locs hP hS => ?_)
                            refine W.eq (g2 := F0 m 221 ls [.int (kP (km_inP (lN (ky_le f 40 4)) 16 (8 * (kv_size f))))]) rfl ?_
                            refine lv_if_eq (tgt := 252) hx hb d_Mo_faultOfSizes_221 (by decide) (fun c221 => ?_) (fun c221 => ?_)
                            · refine lv_bipush (v := 40) hx hb d_Mo_faultOfSizes_252 (by decide) ?_
                              have hc118 := by first | exact kP_ne c118 | exact kP_eq c118
                              have hc221 := by first | exact kP_ne c221 | exact kP_eq c221
                              exact kf_ir hx hb hr hlocks hP hD hS (by clear hP hD hS hA hE hts hl; unfold km_sz; grind) d_Mo_faultOfSizes_254
                            · refine lv_lload hx hb d_Mo_faultOfSizes_224 (lv_at hl 0 rfl) ?_
                              refine lv_ldc2 (v := 8) hx hb hown (hts _ q2_72) d_Mo_faultOfSizes_226 ?_
                              refine lv_lrem hx hb d_Mo_faultOfSizes_229 (by decide) ?_
                              refine lv_lconst (v := 0) hx hb d_Mo_faultOfSizes_230 (by decide) ?_
                              refine kf_lc_ne (tgt := 252) hx hb d_Mo_faultOfSizes_231 d_Mo_faultOfSizes_232 (by decide) (fun c231 => ?_) (fun c231 => ?_)
                              · refine lv_bipush (v := 40) hx hb d_Mo_faultOfSizes_252 (by decide) ?_
                                have hc118 := by first | exact kP_ne c118 | exact kP_eq c118
                                have hc221 := by first | exact kP_ne c221 | exact kP_eq c221
                                exact kf_ir hx hb hr hlocks hP hD hS (by clear hP hD hS hA hE hts hl; unfold km_sz; grind) d_Mo_faultOfSizes_254
                              · refine lv_lload hx hb d_Mo_faultOfSizes_235 (lv_at hl 0 rfl) ?_
                                refine lv_lload hx hb d_Mo_faultOfSizes_237 (lv_at hl 1 rfl) ?_
                                refine lv_lmul hx hb d_Mo_faultOfSizes_239 ?_
                                refine lv_lload_n hx hb d_Mo_faultOfSizes_240 rfl (lv_at hl 3 rfl) ?_
                                refine lv_lrem hx hb d_Mo_faultOfSizes_241 (km_ne0 (km_size1 c44)) ?_
                                refine lv_lconst (v := 0) hx hb d_Mo_faultOfSizes_242 (by decide) ?_
                                refine kf_lc_ne (tgt := 252) hx hb d_Mo_faultOfSizes_243 d_Mo_faultOfSizes_244 (by decide) (fun c243 => ?_) (fun c243 => ?_)
                                · refine lv_bipush (v := 40) hx hb d_Mo_faultOfSizes_252 (by decide) ?_
                                  have hc118 := by first | exact kP_ne c118 | exact kP_eq c118
                                  have hc221 := by first | exact kP_ne c221 | exact kP_eq c221
                                  exact kf_ir hx hb hr hlocks hP hD hS (by clear hP hD hS hA hE hts hl; unfold km_sz; grind) d_Mo_faultOfSizes_254
                                · refine lv_bipush (v := -2) hx hb d_Mo_faultOfSizes_247 (by decide) ?_
                                  refine lv_goto (tgt := 254) hx hb d_Mo_faultOfSizes_249 (by decide) ?_
                                  have hc118 := by first | exact kP_ne c118 | exact kP_eq c118
                                  have hc221 := by first | exact kP_ne c221 | exact kP_eq c221
                                  exact kf_ir hx hb hr hlocks hP hD hS (by clear hP hD hS hA hE hts hl; unfold km_sz; grind) d_Mo_faultOfSizes_254
                          · refine lv_bipush (v := 88) hx hb d_Mo_faultOfSizes_196 (by decide) ?_
                            have hc118 := by first | exact kP_ne c118 | exact kP_eq c118
                            exact kf_ir hx hb hr hlocks hP hD hS (by clear hP hD hS hA hE hts hl; unfold km_sz; grind) d_Mo_faultOfSizes_198
                  · refine lv_bipush (v := 36) hx hb d_Mo_faultOfSizes_148 (by decide) ?_
                    have hc118 := by first | exact kP_ne c118 | exact kP_eq c118
                    exact kf_ir hx hb hr hlocks hP hD hS (by clear hP hD hS hA hE hts hl; unfold km_sz; grind) d_Mo_faultOfSizes_150
                · refine lv_bipush (v := 32) hx hb d_Mo_faultOfSizes_132 (by decide) ?_
                  have hc118 := by first | exact kP_ne c118 | exact kP_eq c118
                  exact kf_ir hx hb hr hlocks hP hD hS (by clear hP hD hS hA hE hts hl; unfold km_sz; grind) d_Mo_faultOfSizes_134
            · refine lv_bipush (v := 20) hx hb d_Mo_faultOfSizes_88 (by decide) ?_
              exact kf_ir hx hb hr hlocks hP hD hS (by clear hP hD hS hA hE hts hl; unfold km_sz; grind) d_Mo_faultOfSizes_90
        · refine lv_bipush (v := 28) hx hb d_Mo_faultOfSizes_63 (by decide) ?_
          exact kf_ir hx hb hr hlocks hP hD hS (by clear hP hD hS hA hE hts hl; unfold km_sz; grind) d_Mo_faultOfSizes_65
      · refine lv_bipush (v := 24) hx hb d_Mo_faultOfSizes_48 (by decide) ?_
        exact kf_ir hx hb hr hlocks hP hD hS (by clear hP hD hS hA hE hts hl; unfold km_sz; grind) d_Mo_faultOfSizes_50
    · refine lv_bipush (v := 76) hx hb d_Mo_faultOfSizes_29 (by decide) ?_
      exact kf_ir hx hb hr hlocks hP hD hS (by clear hP hD hS hA hE hts hl; unfold km_sz; grind) d_Mo_faultOfSizes_31
  · refine lv_bipush (v := 56) hx hb d_Mo_faultOfSizes_14 (by decide) ?_
    exact kf_ir hx hb hr hlocks hP hD hS (by clear hP hD hS hA hE hts hl; unfold km_sz; grind) d_Mo_faultOfSizes_16
