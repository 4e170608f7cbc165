set_option maxRecDepth 100000 in
set_option maxHeartbeats 4000000 in
theorem c_Row_field (l : Launch) (D : va_G) (cB cI : ClassId) (hz : Nat) (h0 : Nat) (h1 : Nat) (f : Nat → Int32) (p1 : Int32) (p2 : Int32) : kf_Ct l y_Row_field w_Row_field 1 21 0 0 D (kT cB cI) [.ref h0, .int p1, .int p2] [(h0, .inr (0, [.ref h1])), (h1, .inl (cB, 1024, .inl f))] hz (some (.long (ky_fl f p1 p2))) (kf_po D [(h0, .inr (0, [.ref h1])), (h1, .inl (cB, 1024, .inl f))]) := by
  refine kf_of (cc := b_Row_field) (maxL := 6) (ret := (some .long)) (by decide) rfl (Nat.le_of_ble_eq_true rfl) ?_
  intro p e s m below meth c A H locs hx hb hr hml hown hts hlocks hin hP hD hS hA hE ls hl
  have hl : lv_has ls 6 [(0, .ref h0), (1, .int p1), (2, .int p2)] := hl
  refine lv_iload_n hx hb d_Row_field_0 rfl (lv_at hl 1 rfl) ?_
  refine lv_iload_n hx hb d_Row_field_1 rfl (lv_at hl 2 rfl) ?_
  refine kf_ro hP hD hS hA [] rfl (va_runSN (As := [.int p1, .int p2]) (rest := []) ⟨hx, hb, hml, hown, hts⟩ (c_FR_isField l D cB cI _ p1 p2) ⟨va_cnB 2 hts g_FR_isField rfl rfl rfl (hE.2.1 _ q1_92) (hts _ q1_1) h_FR_isField ⟨Nat.le_of_ble_eq_true rfl, Nat.le_of_ble_eq_true rfl⟩, (hts _ q1_93), trivial⟩ ⟨kf_bl, kf_to hP hD hS hA hE [] rfl rfl⟩ rfl rfl hl.1 rfl (lv_room (Nat.le_of_ble_eq_true rfl)) d_Row_field_2 ⟨Nat.zero_le _, Nat.zero_le _⟩) (fun H locs hP hS => ?_)
  refine W.eq (g2 := F0 m 5 ls [.int (kP (ky_isFP p1 p2))]) rfl ?_
  refine lv_if_ne (tgt := 12) hx hb d_Row_field_5 (by decide) (fun c5 => ?_) (fun c5 => ?_)
  · obtain ⟨a, n, rfl, rfl, hn, han⟩ := ky_isF_of (kP_ne c5)
    refine lv_lconst (v := 0) hx hb d_Row_field_12 (by decide) ?_
    refine kf_tl (y := lN (ky_le f (a + n) (n - n))) (by rw [Nat.sub_self]; rfl) ?_
    refine lv_lstore_n (lv' := [(3, .long (lN (ky_le f (a + n) (n - n)))), (0, .ref h0), (1, .int (nI a)), (2, .int (nI n))]) hx hb d_Row_field_13 rfl hl (by decide) rfl (fun ls hl => ?_)
    refine lv_iload_n hx hb d_Row_field_14 rfl (lv_at hl 3 rfl) ?_
    refine lv_iconst (v := 1) hx hb d_Row_field_15 (by decide) ?_
    refine lv_isub hx hb d_Row_field_16 ?_
    refine lv_istore (lv' := [(5, .int ((nI n) - 1)), (3, .long (lN (ky_le f (a + n) (n - n)))), (0, .ref h0), (1, .int (nI a)), (2, .int (nI n))]) hx hb d_Row_field_17 hl (by decide) rfl (fun ls hl => ?_)
    refine kf_loop (σ := Nat) (fun k ls H locs => (k ≤ n) ∧ lv_has ls 6 [(5, .int (nI k - 1)), (3, .long (lN (ky_le f (a + k) (n - k)))), (0, .ref h0), (1, .int (nI a)), (2, .int (nI n))] ∧ va_P D vwCl [(h0, .inr (0, [.ref h1])), (h1, .inl (cB, 1024, .inl f))] H ∧ va_D A [(h0, .inr (0, [.ref h1])), (h1, .inl (cB, 1024, .inl f))] ∧ va_S A s.heap H locs) (fun k => k) n ⟨Nat.le_refl n, lv_sub hl [0, 1, 2, 3, 4] rfl, hP, hD, hS⟩ (fun k ls H locs hI ih => ?_)
    obtain ⟨hk, hl, hP, hD, hS⟩ := hI
    rcases k with _ | k
    · refine lv_iload hx hb d_Row_field_19 (lv_at hl 0 rfl) ?_
      refine lv_if_lt (tgt := 50) hx hb d_Row_field_21 (by decide) (fun c21 => ?_) (fun c21 => absurd (by decide) c21)
      refine lv_lload_n hx hb d_Row_field_50 rfl (lv_at hl 1 rfl) ?_
      exact kf_lr hx hb hr hlocks hP hD hS (by rw [ky_fl_mk f hn han]; rfl) d_Row_field_51
    · refine lv_iload hx hb d_Row_field_19 (lv_at hl 0 rfl) ?_
      refine lv_if_lt (tgt := 50) hx hb d_Row_field_21 (by decide) (fun c21 => absurd c21 (by rw [nI_pred]; exact nI_pos (by omega))) (fun c21 => ?_)
      refine lv_lload_n hx hb d_Row_field_24 rfl (lv_at hl 1 rfl) ?_
      refine lv_bipush (v := 8) hx hb d_Row_field_25 (by decide) ?_
      refine lv_lshl hx hb d_Row_field_27 rfl ?_
      refine lv_aload_n hx hb d_Row_field_28 rfl (lv_at hl 2 rfl) ?_
      refine va_get (D := D) (ci := 0) (v := .ref h1) (C := "FieldRows$Row") (T := F_Row) (N := 1) hx hb hts ku_Row hown hE.1 hP 0 rfl rfl 0 (by decide) (hts _ q1_20) (fun _ h9 => h9) rfl d_Row_field_29 ?_
      refine lv_iload_n hx hb d_Row_field_32 rfl (lv_at hl 3 rfl) ?_
      refine lv_iload hx hb d_Row_field_33 (lv_at hl 0 rfl) ?_
      refine lv_iadd hx hb d_Row_field_35 ?_
      refine kf_ti (y := nI (a + k)) (by rw [nI_pred, nI_add]) ?_
      refine va_bald hx hb hE.1 hP 1 0 rfl rfl (vp_in_nI (by omega) (by decide)) d_Row_field_36 ?_
      refine kf_ti (y := f (a + k)) (by rw [nI_clamp (by omega)]) ?_
      refine lv_sipush (v := 255) hx hb d_Row_field_37 (by decide) ?_
      refine lv_iand hx hb d_Row_field_40 ?_
      refine lv_i2l hx hb d_Row_field_41 rfl ?_
      refine lv_lor hx hb d_Row_field_42 ?_
      refine kf_tl (y := lN (ky_le f (a + k) (n - k))) (by rw [ky_step (ky_le_48 f _ (by omega))]; rw [show n - k = (n - (k + 1)) + 1 by omega]; rfl) ?_
      refine lv_lstore_n (lv' := [(3, .long (lN (ky_le f (a + k) (n - k)))), (5, .int (nI (k + 1) - 1)), (0, .ref h0), (1, .int (nI a)), (2, .int (nI n))]) hx hb d_Row_field_43 rfl hl (by decide) rfl (fun ls hl => ?_)
      refine lv_iinc (v := nI k - 1) (lv' := [(5, .int (nI k - 1)), (3, .long (lN (ky_le f (a + k) (n - k)))), (0, .ref h0), (1, .int (nI a)), (2, .int (nI n))]) hx hb d_Row_field_44 hl (k := 1) rfl (by rw [nI_pred, Int32.sub_eq_add_neg]; rfl) (by decide) rfl (fun ls hl => ?_)
      refine lv_goto (tgt := 19) hx hb d_Row_field_47 (by decide) ?_
      exact ih k _ _ _ (by omega) ⟨by omega, lv_sub hl [0, 1, 2, 3, 4] rfl, hP, hD, hS⟩
  · refine lv_ldc2 (v := -1) hx hb hown (hts _ q1_113) d_Row_field_8 ?_
    exact kf_lr hx hb hr hlocks hP hD hS (by unfold ky_fl; rw [if_neg (kP_eq c5)]) d_Row_field_11

theorem c_Row_fieldL (l : Launch) (D : va_G) (cB cI : ClassId) (hz : Nat) (h0 : Nat) (h1 : Nat) (f : Nat → Int32) (a n : Nat) (hn : n = 1 ∨ n = 2 ∨ n = 4) (han : a + n ≤ 1024) : kf_Ct l y_Row_field w_Row_field 1 21 0 0 D (kT cB cI) [.ref h0, .int (nI a), .int (nI n)] [(h0, .inr (0, [.ref h1])), (h1, .inl (cB, 1024, .inl f))] hz (some (.long (lN (ky_le f a n)))) (kf_po D [(h0, .inr (0, [.ref h1])), (h1, .inl (cB, 1024, .inl f))]) := by
  have h := c_Row_field l D cB cI hz h0 h1 f (nI a) (nI n)
  rw [ky_fl_mk f hn han] at h
  exact h

set_option maxRecDepth 100000 in
set_option maxHeartbeats 4000000 in
theorem c_Row_write (l : Launch) (D : va_G) (cB cI : ClassId) (hz : Nat) (h0 : Nat) (h1 : Nat) (f : Nat → Int32) (p1 : Int32) (p2 : Int32) (p3 : Int64) : kf_Ct l y_Row_write w_Row_write 1 21 0 0 D (kT cB cI) [.ref h0, .int p1, .int p2, .long p3] [(h0, .inr (0, [.ref h1])), (h1, .inl (cB, 1024, .inl f))] hz none (kf_po D [(h0, .inr (0, [.ref h1])), (h1, .inl (cB, 1024, .inl (ky_ww f p1 p2 p3)))]) := by
  refine kf_of (cc := b_Row_write) (maxL := 6) (ret := none) (by decide) rfl (Nat.le_of_ble_eq_true rfl) ?_
  intro p e s m below meth c A H locs hx hb hr hml hown hts hlocks hin hP hD hS hA hE ls hl
  have hl : lv_has ls 6 [(0, .ref h0), (1, .int p1), (2, .int p2), (3, .long p3)] := hl
  refine lv_iload_n hx hb d_Row_write_0 rfl (lv_at hl 1 rfl) ?_
  refine lv_iload_n hx hb d_Row_write_1 rfl (lv_at hl 2 rfl) ?_
  refine kf_ro hP hD hS hA [] rfl (va_runSN (As := [.int p1, .int p2]) (rest := []) ⟨hx, hb, hml, hown, hts⟩ (c_FR_isField l D cB cI _ p1 p2) ⟨va_cnB 2 hts g_FR_isField rfl rfl rfl (hE.2.1 _ q1_92) (hts _ q1_1) h_FR_isField ⟨Nat.le_of_ble_eq_true rfl, Nat.le_of_ble_eq_true rfl⟩, (hts _ q1_93), trivial⟩ ⟨kf_bl, kf_to hP hD hS hA hE [] rfl rfl⟩ rfl rfl hl.1 rfl (lv_room (Nat.le_of_ble_eq_true rfl)) d_Row_write_2 ⟨Nat.zero_le _, Nat.zero_le _⟩) (fun H locs hP hS => ?_)
  refine W.eq (g2 := F0 m 5 ls [.int (kP (ky_isFP p1 p2))]) rfl ?_
  refine lv_if_ne (tgt := 9) hx hb d_Row_write_5 (by decide) (fun c5 => ?_) (fun c5 => ?_)
  · obtain ⟨a, n, rfl, rfl, hn, han⟩ := ky_isF_of (kP_ne c5)
    refine lv_iconst (v := 0) hx hb d_Row_write_9 (by decide) ?_
    refine kf_ti (y := nI 0) (rfl) ?_
    refine lv_istore (lv' := [(5, .int (nI 0)), (0, .ref h0), (1, .int (nI a)), (2, .int (nI n)), (3, .long p3)]) hx hb d_Row_write_10 hl (by decide) rfl (fun ls hl => ?_)
    refine kf_loop (σ := Nat) (fun k ls H locs => (k ≤ n) ∧ lv_has ls 6 [(5, .int (nI k)), (0, .ref h0), (1, .int (nI a)), (2, .int (nI n)), (3, .long p3)] ∧ va_P D vwCl [(h0, .inr (0, [.ref h1])), (h1, .inl (cB, 1024, .inl (ky_wr f a p3 k)))] H ∧ va_D A [(h0, .inr (0, [.ref h1])), (h1, .inl (cB, 1024, .inl (ky_wr f a p3 k)))] ∧ va_S A s.heap H locs) (fun k => n - k) 0 ⟨Nat.zero_le n, lv_sub hl [0, 1, 2, 3, 4] rfl, hP, hD, hS⟩ (fun k ls H locs hI ih => ?_)
    obtain ⟨hk, hl, hP, hD, hS⟩ := hI
    rcases Nat.lt_or_ge k n with hkn | hkn
    · refine lv_iload hx hb d_Row_write_12 (lv_at hl 0 rfl) ?_
      refine lv_iload_n hx hb d_Row_write_14 rfl (lv_at hl 3 rfl) ?_
      refine lv_icmp_ge (tgt := 42) hx hb d_Row_write_15 (by decide) (fun c15 => absurd c15 (nI_ge hkn (by omega))) (fun c15 => ?_)
      refine lv_aload_n hx hb d_Row_write_18 rfl (lv_at hl 1 rfl) ?_
      refine va_get (D := D) (ci := 0) (v := .ref h1) (C := "FieldRows$Row") (T := F_Row) (N := 1) hx hb hts ku_Row hown hE.1 hP 0 rfl rfl 0 (by decide) (hts _ q1_20) (fun _ h9 => h9) rfl d_Row_write_19 ?_
      refine lv_iload_n hx hb d_Row_write_22 rfl (lv_at hl 2 rfl) ?_
      refine lv_iload hx hb d_Row_write_23 (lv_at hl 0 rfl) ?_
      refine lv_iadd hx hb d_Row_write_25 ?_
      refine kf_ti (y := nI (a + k)) (nI_add a k) ?_
      refine lv_lload_n hx hb d_Row_write_26 rfl (lv_at hl 4 rfl) ?_
      refine lv_bipush (v := 8) hx hb d_Row_write_27 (by decide) ?_
      refine lv_iload hx hb d_Row_write_29 (lv_at hl 0 rfl) ?_
      refine lv_imul hx hb d_Row_write_31 ?_
      refine lv_lshr hx hb d_Row_write_32 rfl ?_
      refine lv_l2i hx hb d_Row_write_33 rfl ?_
      refine lv_i2b hx hb d_Row_write_34 rfl ?_
      refine va_bast hx hb hE.1 hP hD hS 1 0 rfl rfl (vp_in_nI (by omega) (by decide)) d_Row_write_35 (fun H locs hP hD hS => ?_)
      have ef : upd (ky_wr f a p3 k) (nI (a + k)).toNatClampNeg (vp_nar .byte (((p3 >>> ((8 * (nI k)).toInt64 &&& 63)).toInt32).toInt8.toInt32)) = ky_wr f a p3 (k + 1) := by rw [nI_clamp (by omega)]; rfl
      rw [ef] at hP hD
      have hP : va_P D vwCl [(h0, .inr (0, [.ref h1])), (h1, .inl (cB, 1024, .inl (ky_wr f a p3 (k + 1))))] H := hP
      have hD : va_D A [(h0, .inr (0, [.ref h1])), (h1, .inl (cB, 1024, .inl (ky_wr f a p3 (k + 1))))] := hD
      refine lv_iinc (v := nI (k + 1)) (lv' := [(5, .int (nI (k + 1))), (0, .ref h0), (1, .int (nI a)), (2, .int (nI n)), (3, .long p3)]) hx hb d_Row_write_36 hl (k := 0) rfl ((nI_succ k).symm) (by decide) rfl (fun ls hl => ?_)
      refine lv_goto (tgt := 12) hx hb d_Row_write_39 (by decide) ?_
      exact ih (k + 1) _ _ _ (by omega) ⟨by omega, lv_sub hl [0, 1, 2, 3, 4] rfl, hP, hD, hS⟩
    · refine lv_iload hx hb d_Row_write_12 (lv_at hl 0 rfl) ?_
      refine lv_iload_n hx hb d_Row_write_14 rfl (lv_at hl 3 rfl) ?_
      refine lv_icmp_ge (tgt := 42) hx hb d_Row_write_15 (by decide) (fun c15 => ?_) (fun c15 => absurd (nI_le hkn (by omega)) c15)
      obtain rfl : k = n := by omega
      exact kf_vr hx hb hr hlocks (by rw [ky_ww_mk f p3 hn han]; exact kf_poAt hP hD) hS d_Row_write_42
  · exact kf_vr hx hb hr hlocks (by unfold ky_ww; rw [if_neg (kP_eq c5)]; exact kf_poAt hP hD) hS d_Row_write_8

theorem c_Row_writeL (l : Launch) (D : va_G) (cB cI : ClassId) (hz : Nat) (h0 : Nat) (h1 : Nat) (f : Nat → Int32) (a n : Nat) (v : Int64) (hn : n = 1 ∨ n = 2 ∨ n = 4) (han : a + n ≤ 1024) : kf_Ct l y_Row_write w_Row_write 1 21 0 0 D (kT cB cI) [.ref h0, .int (nI a), .int (nI n), .long v] [(h0, .inr (0, [.ref h1])), (h1, .inl (cB, 1024, .inl f))] hz none (kf_po D [(h0, .inr (0, [.ref h1])), (h1, .inl (cB, 1024, .inl (ky_wr f a v n)))]) := by
  have h := c_Row_write l D cB cI hz h0 h1 f (nI a) (nI n) v
  rw [ky_ww_mk f v hn han] at h
  exact h

set_option maxRecDepth 100000 in
set_option maxHeartbeats 4000000 in
theorem c_Row_clear (l : Launch) (D : va_G) (cB cI : ClassId) (hz : Nat) (h0 : Nat) (h1 : Nat) (f : Nat → Int32) : kf_Ct l y_Row_clear w_Row_clear 0 0 0 0 D (kT cB cI) [.ref h0] [(h0, .inr (0, [.ref h1])), (h1, .inl (cB, 1024, .inl f))] hz none (kf_po D [(h0, .inr (0, [.ref h1])), (h1, .inl (cB, 1024, .inl (ky_cp f (fun _ => 0) 1024)))]) := by
  refine kf_of (cc := b_Row_clear) (maxL := 2) (ret := none) (by decide) rfl (Nat.le_of_ble_eq_true rfl) ?_
  intro p e s m below meth c A H locs hx hb hr hml hown hts hlocks hin hP hD hS hA hE ls hl
  have hl : lv_has ls 2 [(0, .ref h0)] := hl
  refine lv_iconst (v := 0) hx hb d_Row_clear_0 (by decide) ?_
  refine kf_ti (y := nI 0) (rfl) ?_
  refine lv_istore_n (lv' := [(1, .int (nI 0)), (0, .ref h0)]) hx hb d_Row_clear_1 rfl hl (by decide) rfl (fun ls hl => ?_)
  rw [ky_cp0 f (fun _ => 0)] at hP hD
  refine kf_loop (σ := Nat) (fun k ls H locs => (k ≤ 1024) ∧ lv_has ls 2 [(1, .int (nI k)), (0, .ref h0)] ∧ va_P D vwCl [(h0, .inr (0, [.ref h1])), (h1, .inl (cB, 1024, .inl (ky_cp f (fun _ => 0) k)))] H ∧ va_D A [(h0, .inr (0, [.ref h1])), (h1, .inl (cB, 1024, .inl (ky_cp f (fun _ => 0) k)))] ∧ va_S A s.heap H locs) (fun k => 1024 - k) 0 ⟨Nat.zero_le _, lv_sub hl [0, 1] rfl, hP, hD, hS⟩ (fun k ls H locs hI ih => ?_)
  obtain ⟨hk, hl, hP, hD, hS⟩ := hI
  rcases Nat.lt_or_ge k 1024 with hkn | hkn
  · refine lv_iload_n hx hb d_Row_clear_2 rfl (lv_at hl 0 rfl) ?_
    refine lv_sipush (v := 1024) hx hb d_Row_clear_3 (by decide) ?_
    refine lv_icmp_ge (tgt := 22) hx hb d_Row_clear_6 (by decide) (fun c6 => absurd c6 (nI_ge (a := k) (b := 1024) hkn (by decide))) (fun c6 => ?_)
    refine lv_aload_n hx hb d_Row_clear_9 rfl (lv_at hl 1 rfl) ?_
    refine va_get (D := D) (ci := 0) (v := .ref h1) (C := "FieldRows$Row") (T := F_Row) (N := 1) hx hb hts ku_Row hown hE.1 hP 0 rfl rfl 0 (by decide) (hts _ q1_20) (fun _ h9 => h9) rfl d_Row_clear_10 ?_
    refine lv_iload_n hx hb d_Row_clear_13 rfl (lv_at hl 0 rfl) ?_
    refine lv_iconst (v := 0) hx hb d_Row_clear_14 (by decide) ?_
    refine va_bast hx hb hE.1 hP hD hS 1 0 rfl rfl (vp_in_nI hkn (by decide)) d_Row_clear_15 (fun H locs hP hD hS => ?_)
    have ef : upd (ky_cp f (fun _ => 0) k) (nI k).toNatClampNeg (vp_nar .byte 0) = ky_cp f (fun _ => 0) (k + 1) := by rw [nI_clamp (by omega)]; exact ky_cp_s f (fun _ => 0) k
    rw [ef] at hP hD
    have hP : va_P D vwCl [(h0, .inr (0, [.ref h1])), (h1, .inl (cB, 1024, .inl (ky_cp f (fun _ => 0) (k + 1))))] H := hP
    have hD : va_D A [(h0, .inr (0, [.ref h1])), (h1, .inl (cB, 1024, .inl (ky_cp f (fun _ => 0) (k + 1))))] := hD
    refine lv_iinc (v := nI (k + 1)) (lv' := [(1, .int (nI (k + 1))), (0, .ref h0)]) hx hb d_Row_clear_16 hl (k := 0) rfl ((nI_succ k).symm) (by decide) rfl (fun ls hl => ?_)
    refine lv_goto (tgt := 2) hx hb d_Row_clear_19 (by decide) ?_
    exact ih (k + 1) _ _ _ (by omega) ⟨by omega, lv_sub hl [0, 1] rfl, hP, hD, hS⟩
  · refine lv_iload_n hx hb d_Row_clear_2 rfl (lv_at hl 0 rfl) ?_
    refine lv_sipush (v := 1024) hx hb d_Row_clear_3 (by decide) ?_
    refine lv_icmp_ge (tgt := 22) hx hb d_Row_clear_6 (by decide) (fun c6 => ?_) (fun c6 => absurd (nI_le (a := 1024) (b := k) hkn (by omega)) c6)
    obtain rfl : k = 1024 := by omega
    exact kf_vr hx hb hr hlocks (kf_poAt hP hD) hS d_Row_clear_22

set_option maxRecDepth 100000 in
set_option maxHeartbeats 4000000 in
theorem c_Row_takeAll (l : Launch) (D : va_G) (cB cI : ClassId) (hz : Nat) (h0 : Nat) (h1 : Nat) (f : Nat → Int32) (h2 : Nat) (h3 : Nat) (f2 : Nat → Int32) : kf_Ct l y_Row_takeAll w_Row_takeAll 0 0 0 0 D (kT cB cI) [.ref h0, .ref h2] [(h0, .inr (0, [.ref h1])), (h1, .inl (cB, 1024, .inl f)), (h2, .inr (0, [.ref h3])), (h3, .inl (cB, 1024, .inl f2))] hz none (kf_po D [(h0, .inr (0, [.ref h1])), (h1, .inl (cB, 1024, .inl (ky_cp f f2 1024))), (h2, .inr (0, [.ref h3])), (h3, .inl (cB, 1024, .inl f2))]) := by
  refine kf_of (cc := b_Row_takeAll) (maxL := 3) (ret := none) (by decide) rfl (Nat.le_of_ble_eq_true rfl) ?_
  intro p e s m below meth c A H locs hx hb hr hml hown hts hlocks hin hP hD hS hA hE ls hl
  have hl : lv_has ls 3 [(0, .ref h0), (1, .ref h2)] := hl
  refine lv_iconst (v := 0) hx hb d_Row_takeAll_0 (by decide) ?_
  refine kf_ti (y := nI 0) (rfl) ?_
  refine lv_istore_n (lv' := [(2, .int (nI 0)), (0, .ref h0), (1, .ref h2)]) hx hb d_Row_takeAll_1 rfl hl (by decide) rfl (fun ls hl => ?_)
  rw [ky_cp0 f f2] at hP hD
  refine kf_loop (σ := Nat) (fun k ls H locs => (k ≤ 1024) ∧ lv_has ls 3 [(2, .int (nI k)), (0, .ref h0), (1, .ref h2)] ∧ va_P D vwCl [(h0, .inr (0, [.ref h1])), (h1, .inl (cB, 1024, .inl (ky_cp f f2 k))), (h2, .inr (0, [.ref h3])), (h3, .inl (cB, 1024, .inl f2))] H ∧ va_D A [(h0, .inr (0, [.ref h1])), (h1, .inl (cB, 1024, .inl (ky_cp f f2 k))), (h2, .inr (0, [.ref h3])), (h3, .inl (cB, 1024, .inl f2))] ∧ va_S A s.heap H locs) (fun k => 1024 - k) 0 ⟨Nat.zero_le _, lv_sub hl [0, 1, 2] rfl, hP, hD, hS⟩ (fun k ls H locs hI ih => ?_)
  obtain ⟨hk, hl, hP, hD, hS⟩ := hI
  rcases Nat.lt_or_ge k 1024 with hkn | hkn
  · refine lv_iload_n hx hb d_Row_takeAll_2 rfl (lv_at hl 0 rfl) ?_
    refine lv_sipush (v := 1024) hx hb d_Row_takeAll_3 (by decide) ?_
    refine lv_icmp_ge (tgt := 27) hx hb d_Row_takeAll_6 (by decide) (fun c6 => absurd c6 (nI_ge (a := k) (b := 1024) hkn (by decide))) (fun c6 => ?_)
    refine lv_aload_n hx hb d_Row_takeAll_9 rfl (lv_at hl 1 rfl) ?_
    refine va_get (D := D) (ci := 0) (v := .ref h1) (C := "FieldRows$Row") (T := F_Row) (N := 1) hx hb hts ku_Row hown hE.1 hP 0 rfl rfl 0 (by decide) (hts _ q1_20) (fun _ h9 => h9) rfl d_Row_takeAll_10 ?_
    refine lv_iload_n hx hb d_Row_takeAll_13 rfl (lv_at hl 0 rfl) ?_
    refine lv_aload_n hx hb d_Row_takeAll_14 rfl (lv_at hl 2 rfl) ?_
    refine va_get (D := D) (ci := 0) (v := .ref h3) (C := "FieldRows$Row") (T := F_Row) (N := 1) hx hb hts ku_Row hown hE.1 hP 2 rfl rfl 0 (by decide) (hts _ q1_20) (fun _ h9 => h9) rfl d_Row_takeAll_15 ?_
    refine lv_iload_n hx hb d_Row_takeAll_18 rfl (lv_at hl 0 rfl) ?_
    refine va_bald hx hb hE.1 hP 3 0 rfl rfl (vp_in_nI hkn (by decide)) d_Row_takeAll_19 ?_
    refine kf_ti (y := f2 k) (by rw [nI_clamp (by omega)]) ?_
    refine va_bast hx hb hE.1 hP hD hS 1 0 rfl rfl (vp_in_nI hkn (by decide)) d_Row_takeAll_20 (fun H locs hP hD hS => ?_)
    have ef : upd (ky_cp f f2 k) (nI k).toNatClampNeg (vp_nar .byte (f2 k)) = ky_cp f f2 (k + 1) := by rw [nI_clamp (by omega)]; exact ky_cp_s f f2 k
    rw [ef] at hP hD
    have hP : va_P D vwCl [(h0, .inr (0, [.ref h1])), (h1, .inl (cB, 1024, .inl (ky_cp f f2 (k + 1)))), (h2, .inr (0, [.ref h3])), (h3, .inl (cB, 1024, .inl f2))] H := hP
    have hD : va_D A [(h0, .inr (0, [.ref h1])), (h1, .inl (cB, 1024, .inl (ky_cp f f2 (k + 1)))), (h2, .inr (0, [.ref h3])), (h3, .inl (cB, 1024, .inl f2))] := hD
    refine lv_iinc (v := nI (k + 1)) (lv' := [(2, .int (nI (k + 1))), (0, .ref h0), (1, .ref h2)]) hx hb d_Row_takeAll_21 hl (k := 0) rfl ((nI_succ k).symm) (by decide) rfl (fun ls hl => ?_)
    refine lv_goto (tgt := 2) hx hb d_Row_takeAll_24 (by decide) ?_
    exact ih (k + 1) _ _ _ (by omega) ⟨by omega, lv_sub hl [0, 1, 2] rfl, hP, hD, hS⟩
  · refine lv_iload_n hx hb d_Row_takeAll_2 rfl (lv_at hl 0 rfl) ?_
    refine lv_sipush (v := 1024) hx hb d_Row_takeAll_3 (by decide) ?_
    refine lv_icmp_ge (tgt := 27) hx hb d_Row_takeAll_6 (by decide) (fun c6 => ?_) (fun c6 => absurd (nI_le (a := 1024) (b := k) hkn (by omega)) c6)
    obtain rfl : k = 1024 := by omega
    exact kf_vr hx hb hr hlocks (kf_poAt hP hD) hS d_Row_takeAll_27

set_option maxRecDepth 100000 in
set_option maxHeartbeats 4000000 in
theorem c_Row_writeConstants (l : Launch) (D : va_G) (cB cI : ClassId) (hz : Nat) (h0 : Nat) (h1 : Nat) (f : Nat → Int32) : kf_Ct l y_Row_writeConstants w_Row_writeConstants 2 46 0 0 D (kT cB cI) [.ref h0] [(h0, .inr (0, [.ref h1])), (h1, .inl (cB, 1024, .inl f))] hz none (kf_po D [(h0, .inr (0, [.ref h1])), (h1, .inl (cB, 1024, .inl (ky_wc f)))]) := by
  refine kf_of (cc := b_Row_writeConstants) (maxL := 1) (ret := none) (by decide) rfl (Nat.le_of_ble_eq_true rfl) ?_
  intro p e s m below meth c A H locs hx hb hr hml hown hts hlocks hin hP hD hS hA hE ls hl
  have hl : lv_has ls 1 [(0, .ref h0)] := hl
  refine lv_aload_n hx hb d_Row_writeConstants_0 rfl (lv_at hl 0 rfl) ?_
  refine lv_bipush (v := 54) hx hb d_Row_writeConstants_1 (by decide) ?_
  refine lv_iconst (v := 2) hx hb d_Row_writeConstants_3 (by decide) ?_
  refine lv_ldc2 (v := 65535) hx hb hown (hts _ q1_87) d_Row_writeConstants_4 ?_
  refine kf_kc (wr := []) (w1 := [(h0, .inr (0, [.ref h1])), (h1, .inl (cB, 1024, .inl (ky_wr f 54 65535 2)))]) (ws2 := [(h0, .inr (0, [.ref h1])), (h1, .inl (cB, 1024, .inl (ky_wr f 54 65535 2)))]) hP hD hS hA [0, 1] [] [0, 1] rfl rfl rfl (by decide) rfl rfl (va_runV (As := [.int 54, .int 2, .long 65535]) (rest := []) ⟨hx, hb, hml, hown, hts⟩ (c_Row_writeL l D cB cI _ h0 h1 f 54 2 65535 (by decide) (by decide)) ⟨callB_of 3 hts g_Row_write rfl rfl rfl (hts _ q1_2) (hts _ q1_88) h_Row_write ⟨Nat.le_of_ble_eq_true rfl, Nat.le_of_ble_eq_true rfl⟩, (hts _ q1_89), (hts _ q1_90)⟩ ⟨kf_bl, va_recv hE.1 hP (ci := 0) (q0 := 0) rfl rfl, kf_to hP hD hS hA hE [0, 1] rfl rfl⟩ rfl rfl hl.1 rfl (lv_room (Nat.le_of_ble_eq_true rfl)) d_Row_writeConstants_7 ⟨Nat.zero_le _, Nat.zero_le _⟩) (fun H locs hP hD hS => ?_)
  refine W.eq (g2 := F0 m 10 ls []) rfl ?_
  refine lv_aload_n hx hb d_Row_writeConstants_10 rfl (lv_at hl 0 rfl) ?_
  refine lv_bipush (v := 56) hx hb d_Row_writeConstants_11 (by decide) ?_
  refine lv_iconst (v := 2) hx hb d_Row_writeConstants_13 (by decide) ?_
  refine lv_ldc2 (v := 61267) hx hb hown (hts _ q1_95) d_Row_writeConstants_14 ?_
  refine kf_kc (wr := []) (w1 := [(h0, .inr (0, [.ref h1])), (h1, .inl (cB, 1024, .inl (ky_wr (ky_wr f 54 65535 2) 56 61267 2)))]) (ws2 := [(h0, .inr (0, [.ref h1])), (h1, .inl (cB, 1024, .inl (ky_wr (ky_wr f 54 65535 2) 56 61267 2)))]) hP hD hS hA [0, 1] [] [0, 1] rfl rfl rfl (by decide) rfl rfl (va_runV (As := [.int 56, .int 2, .long 61267]) (rest := []) ⟨hx, hb, hml, hown, hts⟩ (c_Row_writeL l D cB cI _ h0 h1 (ky_wr f 54 65535 2) 56 2 61267 (by decide) (by decide)) ⟨callB_of 3 hts g_Row_write rfl rfl rfl (hts _ q1_2) (hts _ q1_88) h_Row_write ⟨Nat.le_of_ble_eq_true rfl, Nat.le_of_ble_eq_true rfl⟩, (hts _ q1_89), (hts _ q1_90)⟩ ⟨kf_bl, va_recv hE.1 hP (ci := 0) (q0 := 0) rfl rfl, kf_to hP hD hS hA hE [0, 1] rfl rfl⟩ rfl rfl hl.1 rfl (lv_room (Nat.le_of_ble_eq_true rfl)) d_Row_writeConstants_17 ⟨Nat.zero_le _, Nat.zero_le _⟩) (fun H locs hP hD hS => ?_)
  refine W.eq (g2 := F0 m 20 ls []) rfl ?_
  refine lv_aload_n hx hb d_Row_writeConstants_20 rfl (lv_at hl 0 rfl) ?_
  refine lv_bipush (v := 58) hx hb d_Row_writeConstants_21 (by decide) ?_
  refine lv_iconst (v := 2) hx hb d_Row_writeConstants_23 (by decide) ?_
  refine lv_lconst (v := 1) hx hb d_Row_writeConstants_24 (by decide) ?_
  refine kf_kc (wr := []) (w1 := [(h0, .inr (0, [.ref h1])), (h1, .inl (cB, 1024, .inl (ky_wr (ky_wr (ky_wr f 54 65535 2) 56 61267 2) 58 1 2)))]) (ws2 := [(h0, .inr (0, [.ref h1])), (h1, .inl (cB, 1024, .inl (ky_wr (ky_wr (ky_wr f 54 65535 2) 56 61267 2) 58 1 2)))]) hP hD hS hA [0, 1] [] [0, 1] rfl rfl rfl (by decide) rfl rfl (va_runV (As := [.int 58, .int 2, .long 1]) (rest := []) ⟨hx, hb, hml, hown, hts⟩ (c_Row_writeL l D cB cI _ h0 h1 (ky_wr (ky_wr f 54 65535 2) 56 61267 2) 58 2 1 (by decide) (by decide)) ⟨callB_of 3 hts g_Row_write rfl rfl rfl (hts _ q1_2) (hts _ q1_88) h_Row_write ⟨Nat.le_of_ble_eq_true rfl, Nat.le_of_ble_eq_true rfl⟩, (hts _ q1_89), (hts _ q1_90)⟩ ⟨kf_bl, va_recv hE.1 hP (ci := 0) (q0 := 0) rfl rfl, kf_to hP hD hS hA hE [0, 1] rfl rfl⟩ rfl rfl hl.1 rfl (lv_room (Nat.le_of_ble_eq_true rfl)) d_Row_writeConstants_25 ⟨Nat.zero_le _, Nat.zero_le _⟩) (fun H locs hP hD hS => ?_)
  refine W.eq (g2 := F0 m 28 ls []) rfl ?_
  refine lv_aload_n hx hb d_Row_writeConstants_28 rfl (lv_at hl 0 rfl) ?_
  refine lv_bipush (v := 76) hx hb d_Row_writeConstants_29 (by decide) ?_
  refine lv_iconst (v := 4) hx hb d_Row_writeConstants_31 (by decide) ?_
  refine lv_lconst (v := 1) hx hb d_Row_writeConstants_32 (by decide) ?_
  refine kf_kc (wr := []) (w1 := [(h0, .inr (0, [.ref h1])), (h1, .inl (cB, 1024, .inl (ky_wr (ky_wr (ky_wr (ky_wr f 54 65535 2) 56 61267 2) 58 1 2) 76 1 4)))]) (ws2 := [(h0, .inr (0, [.ref h1])), (h1, .inl (cB, 1024, .inl (ky_wr (ky_wr (ky_wr (ky_wr f 54 65535 2) 56 61267 2) 58 1 2) 76 1 4)))]) hP hD hS hA [0, 1] [] [0, 1] rfl rfl rfl (by decide) rfl rfl (va_runV (As := [.int 76, .int 4, .long 1]) (rest := []) ⟨hx, hb, hml, hown, hts⟩ (c_Row_writeL l D cB cI _ h0 h1 (ky_wr (ky_wr (ky_wr f 54 65535 2) 56 61267 2) 58 1 2) 76 4 1 (by decide) (by decide)) ⟨callB_of 3 hts g_Row_write rfl rfl rfl (hts _ q1_2) (hts _ q1_88) h_Row_write ⟨Nat.le_of_ble_eq_true rfl, Nat.le_of_ble_eq_true rfl⟩, (hts _ q1_89), (hts _ q1_90)⟩ ⟨kf_bl, va_recv hE.1 hP (ci := 0) (q0 := 0) rfl rfl, kf_to hP hD hS hA hE [0, 1] rfl rfl⟩ rfl rfl hl.1 rfl (lv_room (Nat.le_of_ble_eq_true rfl)) d_Row_writeConstants_33 ⟨Nat.zero_le _, Nat.zero_le _⟩) (fun H locs hP hD hS => ?_)
  refine W.eq (g2 := F0 m 36 ls []) rfl ?_
  refine lv_aload_n hx hb d_Row_writeConstants_36 rfl (lv_at hl 0 rfl) ?_
  refine lv_bipush (v := 84) hx hb d_Row_writeConstants_37 (by decide) ?_
  refine lv_iconst (v := 4) hx hb d_Row_writeConstants_39 (by decide) ?_
  refine lv_ldc2 (v := 11) hx hb hown (hts _ q1_96) d_Row_writeConstants_40 ?_
  refine kf_kc (wr := []) (w1 := [(h0, .inr (0, [.ref h1])), (h1, .inl (cB, 1024, .inl (ky_wr (ky_wr (ky_wr (ky_wr (ky_wr f 54 65535 2) 56 61267 2) 58 1 2) 76 1 4) 84 11 4)))]) (ws2 := [(h0, .inr (0, [.ref h1])), (h1, .inl (cB, 1024, .inl (ky_wr (ky_wr (ky_wr (ky_wr (ky_wr f 54 65535 2) 56 61267 2) 58 1 2) 76 1 4) 84 11 4)))]) hP hD hS hA [0, 1] [] [0, 1] rfl rfl rfl (by decide) rfl rfl (va_runV (As := [.int 84, .int 4, .long 11]) (rest := []) ⟨hx, hb, hml, hown, hts⟩ (c_Row_writeL l D cB cI _ h0 h1 (ky_wr (ky_wr (ky_wr (ky_wr f 54 65535 2) 56 61267 2) 58 1 2) 76 1 4) 84 4 11 (by decide) (by decide)) ⟨callB_of 3 hts g_Row_write rfl rfl rfl (hts _ q1_2) (hts _ q1_88) h_Row_write ⟨Nat.le_of_ble_eq_true rfl, Nat.le_of_ble_eq_true rfl⟩, (hts _ q1_89), (hts _ q1_90)⟩ ⟨kf_bl, va_recv hE.1 hP (ci := 0) (q0 := 0) rfl rfl, kf_to hP hD hS hA hE [0, 1] rfl rfl⟩ rfl rfl hl.1 rfl (lv_room (Nat.le_of_ble_eq_true rfl)) d_Row_writeConstants_43 ⟨Nat.zero_le _, Nat.zero_le _⟩) (fun H locs hP hD hS => ?_)
  refine W.eq (g2 := F0 m 46 ls []) rfl ?_
  refine lv_aload_n hx hb d_Row_writeConstants_46 rfl (lv_at hl 0 rfl) ?_
  refine lv_bipush (v := 92) hx hb d_Row_writeConstants_47 (by decide) ?_
  refine lv_iconst (v := 4) hx hb d_Row_writeConstants_49 (by decide) ?_
  refine lv_ldc2 (v := 36) hx hb hown (hts _ q1_97) d_Row_writeConstants_50 ?_
  refine kf_kc (wr := []) (w1 := [(h0, .inr (0, [.ref h1])), (h1, .inl (cB, 1024, .inl (ky_wr (ky_wr (ky_wr (ky_wr (ky_wr (ky_wr f 54 65535 2) 56 61267 2) 58 1 2) 76 1 4) 84 11 4) 92 36 4)))]) (ws2 := [(h0, .inr (0, [.ref h1])), (h1, .inl (cB, 1024, .inl (ky_wr (ky_wr (ky_wr (ky_wr (ky_wr (ky_wr f 54 65535 2) 56 61267 2) 58 1 2) 76 1 4) 84 11 4) 92 36 4)))]) hP hD hS hA [0, 1] [] [0, 1] rfl rfl rfl (by decide) rfl rfl (va_runV (As := [.int 92, .int 4, .long 36]) (rest := []) ⟨hx, hb, hml, hown, hts⟩ (c_Row_writeL l D cB cI _ h0 h1 (ky_wr (ky_wr (ky_wr (ky_wr (ky_wr f 54 65535 2) 56 61267 2) 58 1 2) 76 1 4) 84 11 4) 92 4 36 (by decide) (by decide)) ⟨callB_of 3 hts g_Row_write rfl rfl rfl (hts _ q1_2) (hts _ q1_88) h_Row_write ⟨Nat.le_of_ble_eq_true rfl, Nat.le_of_ble_eq_true rfl⟩, (hts _ q1_89), (hts _ q1_90)⟩ ⟨kf_bl, va_recv hE.1 hP (ci := 0) (q0 := 0) rfl rfl, kf_to hP hD hS hA hE [0, 1] rfl rfl⟩ rfl rfl hl.1 rfl (lv_room (Nat.le_of_ble_eq_true rfl)) d_Row_writeConstants_53 ⟨Nat.zero_le _, Nat.zero_le _⟩) (fun H locs hP hD hS => ?_)
  refine W.eq (g2 := F0 m 56 ls []) rfl ?_
  refine lv_aload_n hx hb d_Row_writeConstants_56 rfl (lv_at hl 0 rfl) ?_
  refine lv_bipush (v := 96) hx hb d_Row_writeConstants_57 (by decide) ?_
  refine lv_iconst (v := 4) hx hb d_Row_writeConstants_59 (by decide) ?_
  refine lv_ldc2 (v := 66) hx hb hown (hts _ q1_98) d_Row_writeConstants_60 ?_
  refine kf_kc (wr := []) (w1 := [(h0, .inr (0, [.ref h1])), (h1, .inl (cB, 1024, .inl (ky_wr (ky_wr (ky_wr (ky_wr (ky_wr (ky_wr (ky_wr f 54 65535 2) 56 61267 2) 58 1 2) 76 1 4) 84 11 4) 92 36 4) 96 66 4)))]) (ws2 := [(h0, .inr (0, [.ref h1])), (h1, .inl (cB, 1024, .inl (ky_wr (ky_wr (ky_wr (ky_wr (ky_wr (ky_wr (ky_wr f 54 65535 2) 56 61267 2) 58 1 2) 76 1 4) 84 11 4) 92 36 4) 96 66 4)))]) hP hD hS hA [0, 1] [] [0, 1] rfl rfl rfl (by decide) rfl rfl (va_runV (As := [.int 96, .int 4, .long 66]) (rest := []) ⟨hx, hb, hml, hown, hts⟩ (c_Row_writeL l D cB cI _ h0 h1 (ky_wr (ky_wr (ky_wr (ky_wr (ky_wr (ky_wr f 54 65535 2) 56 61267 2) 58 1 2) 76 1 4) 84 11 4) 92 36 4) 96 4 66 (by decide) (by decide)) ⟨callB_of 3 hts g_Row_write rfl rfl rfl (hts _ q1_2) (hts _ q1_88) h_Row_write ⟨Nat.le_of_ble_eq_true rfl, Nat.le_of_ble_eq_true rfl⟩, (hts _ q1_89), (hts _ q1_90)⟩ ⟨kf_bl, va_recv hE.1 hP (ci := 0) (q0 := 0) rfl rfl, kf_to hP hD hS hA hE [0, 1] rfl rfl⟩ rfl rfl hl.1 rfl (lv_room (Nat.le_of_ble_eq_true rfl)) d_Row_writeConstants_63 ⟨Nat.zero_le _, Nat.zero_le _⟩) (fun H locs hP hD hS => ?_)
  refine W.eq (g2 := F0 m 66 ls []) rfl ?_
  refine lv_aload_n hx hb d_Row_writeConstants_66 rfl (lv_at hl 0 rfl) ?_
  refine lv_bipush (v := 100) hx hb d_Row_writeConstants_67 (by decide) ?_
  refine lv_iconst (v := 4) hx hb d_Row_writeConstants_69 (by decide) ?_
  refine lv_ldc2 (v := 3) hx hb hown (hts _ q1_99) d_Row_writeConstants_70 ?_
  refine kf_kc (wr := []) (w1 := [(h0, .inr (0, [.ref h1])), (h1, .inl (cB, 1024, .inl (ky_wr (ky_wr (ky_wr (ky_wr (ky_wr (ky_wr (ky_wr (ky_wr f 54 65535 2) 56 61267 2) 58 1 2) 76 1 4) 84 11 4) 92 36 4) 96 66 4) 100 3 4)))]) (ws2 := [(h0, .inr (0, [.ref h1])), (h1, .inl (cB, 1024, .inl (ky_wr (ky_wr (ky_wr (ky_wr (ky_wr (ky_wr (ky_wr (ky_wr f 54 65535 2) 56 61267 2) 58 1 2) 76 1 4) 84 11 4) 92 36 4) 96 66 4) 100 3 4)))]) hP hD hS hA [0, 1] [] [0, 1] rfl rfl rfl (by decide) rfl rfl (va_runV (As := [.int 100, .int 4, .long 3]) (rest := []) ⟨hx, hb, hml, hown, hts⟩ (c_Row_writeL l D cB cI _ h0 h1 (ky_wr (ky_wr (ky_wr (ky_wr (ky_wr (ky_wr (ky_wr f 54 65535 2) 56 61267 2) 58 1 2) 76 1 4) 84 11 4) 92 36 4) 96 66 4) 100 4 3 (by decide) (by decide)) ⟨callB_of 3 hts g_Row_write rfl rfl rfl (hts _ q1_2) (hts _ q1_88) h_Row_write ⟨Nat.le_of_ble_eq_true rfl, Nat.le_of_ble_eq_true rfl⟩, (hts _ q1_89), (hts _ q1_90)⟩ ⟨kf_bl, va_recv hE.1 hP (ci := 0) (q0 := 0) rfl rfl, kf_to hP hD hS hA hE [0, 1] rfl rfl⟩ rfl rfl hl.1 rfl (lv_room (Nat.le_of_ble_eq_true rfl)) d_Row_writeConstants_73 ⟨Nat.zero_le _, Nat.zero_le _⟩) (fun H locs hP hD hS => ?_)
  refine W.eq (g2 := F0 m 76 ls []) rfl ?_
  refine lv_aload_n hx hb d_Row_writeConstants_76 rfl (lv_at hl 0 rfl) ?_
  refine lv_sipush (v := 224) hx hb d_Row_writeConstants_77 (by decide) ?_
  refine lv_iconst (v := 4) hx hb d_Row_writeConstants_80 (by decide) ?_
  refine lv_ldc2 (v := 8) hx hb hown (hts _ q1_100) d_Row_writeConstants_81 ?_
  refine kf_kc (wr := []) (w1 := [(h0, .inr (0, [.ref h1])), (h1, .inl (cB, 1024, .inl (ky_wr (ky_wr (ky_wr (ky_wr (ky_wr (ky_wr (ky_wr (ky_wr (ky_wr f 54 65535 2) 56 61267 2) 58 1 2) 76 1 4) 84 11 4) 92 36 4) 96 66 4) 100 3 4) 224 8 4)))]) (ws2 := [(h0, .inr (0, [.ref h1])), (h1, .inl (cB, 1024, .inl (ky_wr (ky_wr (ky_wr (ky_wr (ky_wr (ky_wr (ky_wr (ky_wr (ky_wr f 54 65535 2) 56 61267 2) 58 1 2) 76 1 4) 84 11 4) 92 36 4) 96 66 4) 100 3 4) 224 8 4)))]) hP hD hS hA [0, 1] [] [0, 1] rfl rfl rfl (by decide) rfl rfl (va_runV (As := [.int 224, .int 4, .long 8]) (rest := []) ⟨hx, hb, hml, hown, hts⟩ (c_Row_writeL l D cB cI _ h0 h1 (ky_wr (ky_wr (ky_wr (ky_wr (ky_wr (ky_wr (ky_wr (ky_wr f 54 65535 2) 56 61267 2) 58 1 2) 76 1 4) 84 11 4) 92 36 4) 96 66 4) 100 3 4) 224 4 8 (by decide) (by decide)) ⟨callB_of 3 hts g_Row_write rfl rfl rfl (hts _ q1_2) (hts _ q1_88) h_Row_write ⟨Nat.le_of_ble_eq_true rfl, Nat.le_of_ble_eq_true rfl⟩, (hts _ q1_89), (hts _ q1_90)⟩ ⟨kf_bl, va_recv hE.1 hP (ci := 0) (q0 := 0) rfl rfl, kf_to hP hD hS hA hE [0, 1] rfl rfl⟩ rfl rfl hl.1 rfl (lv_room (Nat.le_of_ble_eq_true rfl)) d_Row_writeConstants_84 ⟨Nat.zero_le _, Nat.zero_le _⟩) (fun H locs hP hD hS => ?_)
  refine W.eq (g2 := F0 m 87 ls []) rfl ?_
  refine lv_aload_n hx hb d_Row_writeConstants_87 rfl (lv_at hl 0 rfl) ?_
  refine lv_sipush (v := 252) hx hb d_Row_writeConstants_88 (by decide) ?_
  refine lv_iconst (v := 1) hx hb d_Row_writeConstants_91 (by decide) ?_
  refine lv_lconst (v := 1) hx hb d_Row_writeConstants_92 (by decide) ?_
  refine kf_kc (wr := []) (w1 := [(h0, .inr (0, [.ref h1])), (h1, .inl (cB, 1024, .inl (ky_wr (ky_wr (ky_wr (ky_wr (ky_wr (ky_wr (ky_wr (ky_wr (ky_wr (ky_wr f 54 65535 2) 56 61267 2) 58 1 2) 76 1 4) 84 11 4) 92 36 4) 96 66 4) 100 3 4) 224 8 4) 252 1 1)))]) (ws2 := [(h0, .inr (0, [.ref h1])), (h1, .inl (cB, 1024, .inl (ky_wr (ky_wr (ky_wr (ky_wr (ky_wr (ky_wr (ky_wr (ky_wr (ky_wr (ky_wr f 54 65535 2) 56 61267 2) 58 1 2) 76 1 4) 84 11 4) 92 36 4) 96 66 4) 100 3 4) 224 8 4) 252 1 1)))]) hP hD hS hA [0, 1] [] [0, 1] rfl rfl rfl (by decide) rfl rfl (va_runV (As := [.int 252, .int 1, .long 1]) (rest := []) ⟨hx, hb, hml, hown, hts⟩ (c_Row_writeL l D cB cI _ h0 h1 (ky_wr (ky_wr (ky_wr (ky_wr (ky_wr (ky_wr (ky_wr (ky_wr (ky_wr f 54 65535 2) 56 61267 2) 58 1 2) 76 1 4) 84 11 4) 92 36 4) 96 66 4) 100 3 4) 224 8 4) 252 1 1 (by decide) (by decide)) ⟨callB_of 3 hts g_Row_write rfl rfl rfl (hts _ q1_2) (hts _ q1_88) h_Row_write ⟨Nat.le_of_ble_eq_true rfl, Nat.le_of_ble_eq_true rfl⟩, (hts _ q1_89), (hts _ q1_90)⟩ ⟨kf_bl, va_recv hE.1 hP (ci := 0) (q0 := 0) rfl rfl, kf_to hP hD hS hA hE [0, 1] rfl rfl⟩ rfl rfl hl.1 rfl (lv_room (Nat.le_of_ble_eq_true rfl)) d_Row_writeConstants_93 ⟨Nat.zero_le _, Nat.zero_le _⟩) (fun H locs hP hD hS => ?_)
  refine W.eq (g2 := F0 m 96 ls []) rfl ?_
  exact kf_vr hx hb hr hlocks (kf_poAt hP hD) hS d_Row_writeConstants_96
