set_option maxRecDepth 100000 in
set_option maxHeartbeats 4000000 in
theorem c_Vol_unlistedFault (l : Launch) (D : va_G) (cB cI : ClassId) (hz : Nat) (p0 : Int32) (p1 : Int64) (p2 : Int64) : kf_Ct l y_Vol_unlistedFault w_Vol_unlistedFault 0 0 0 0 D (kT cB cI) [.int p0, .long p1, .long p2] [] hz (some (.int (kv_unl p0 p1 p2 32))) (kf_po D []) := by
  refine kf_of (cc := b_Vol_unlistedFault) (maxL := 6) (ret := (some .int)) (by decide) rfl (Nat.le_of_ble_eq_true rfl) ?_
  intro p e s m below meth c A H locs hx hb hr hml hown hts hlocks hin hP hD hS hA hE ls hl
  have hl : lv_has ls 6 [(0, .int p0), (1, .long p1), (3, .long p2)] := hl
  refine lv_iconst (v := 0) hx hb d_Vol_unlistedFault_0 (by decide) ?_
  refine kf_ti (y := nI 0) (rfl) ?_
  refine lv_istore (lv' := [(5, .int (nI 0)), (0, .int p0), (1, .long p1), (3, .long p2)]) hx hb d_Vol_unlistedFault_1 hl (by decide) rfl (fun ls hl => ?_)
  refine kf_loop (σ := Nat) (fun k ls H locs => (k ≤ 32) ∧ (kv_unl p0 p1 p2 32 = kv_unl p0 p1 p2 (32 - k)) ∧ lv_has ls 6 [(5, .int (nI k)), (0, .int p0), (1, .long p1), (3, .long p2)] ∧ va_P D vwCl [] H ∧ va_D A [] ∧ va_S A s.heap H locs) (fun k => 32 - k) 0 ⟨Nat.zero_le _, rfl, lv_sub hl [0, 1, 2, 3] rfl, hP, hD, hS⟩ (fun k ls H locs hI ih => ?_)
  obtain ⟨hk, hq, hl, hP, hD, hS⟩ := hI
  rcases Nat.lt_or_ge k 32 with hkn | hkn
  · refine lv_iload hx hb d_Vol_unlistedFault_3 (lv_at hl 0 rfl) ?_
    refine lv_bipush (v := 32) hx hb d_Vol_unlistedFault_5 (by decide) ?_
    refine lv_icmp_ge (tgt := 45) hx hb d_Vol_unlistedFault_7 (by decide) (fun c7 => absurd c7 (nI_ge (a := k) (b := 32) hkn (by decide))) (fun c7 => ?_)
    refine lv_lload_n hx hb d_Vol_unlistedFault_10 rfl (lv_at hl 2 rfl) ?_
    refine lv_lload_n hx hb d_Vol_unlistedFault_11 rfl (lv_at hl 3 rfl) ?_
    refine lv_ldc2 (v := -1) hx hb hown (hts _ q1_196) d_Vol_unlistedFault_12 ?_
    refine lv_lxor hx hb d_Vol_unlistedFault_15 ?_
    refine lv_land hx hb d_Vol_unlistedFault_16 ?_
    refine lv_lconst (v := 1) hx hb d_Vol_unlistedFault_17 (by decide) ?_
    refine lv_iload hx hb d_Vol_unlistedFault_18 (lv_at hl 0 rfl) ?_
    refine lv_lshl hx hb d_Vol_unlistedFault_20 rfl ?_
    refine lv_land hx hb d_Vol_unlistedFault_21 ?_
    refine lv_lconst (v := 0) hx hb d_Vol_unlistedFault_22 (by decide) ?_
    refine kf_lc_eq (tgt := 39) hx hb d_Vol_unlistedFault_23 d_Vol_unlistedFault_24 (by decide) (fun c23 => ?_) (fun c23 => ?_)
    · refine lv_iinc (v := nI (k + 1)) (lv' := [(5, .int (nI (k + 1))), (0, .int p0), (1, .long p1), (3, .long p2)]) hx hb d_Vol_unlistedFault_39 hl (k := 0) rfl ((nI_succ k).symm) (by decide) rfl (fun ls hl => ?_)
      refine lv_goto (tgt := 3) hx hb d_Vol_unlistedFault_42 (by decide) ?_
      exact ih (k + 1) _ _ _ (by omega) ⟨by omega, by rw [hq, show 32 - k = (32 - (k + 1)) + 1 by omega]; show (if kv_ub p1 p2 (31 - (32 - (k + 1))) then _ else _) = _; rw [show 31 - (32 - (k + 1)) = k by omega, if_pos c23], lv_sub hl [0, 1, 2, 3] rfl, hP, hD, hS⟩
    · refine lv_sipush (v := 2000) hx hb d_Vol_unlistedFault_27 (by decide) ?_
      refine lv_bipush (v := 32) hx hb d_Vol_unlistedFault_30 (by decide) ?_
      refine lv_iload_n hx hb d_Vol_unlistedFault_32 rfl (lv_at hl 1 rfl) ?_
      refine lv_imul hx hb d_Vol_unlistedFault_33 ?_
      refine lv_iadd hx hb d_Vol_unlistedFault_34 ?_
      refine lv_iload hx hb d_Vol_unlistedFault_35 (lv_at hl 0 rfl) ?_
      refine lv_iadd hx hb d_Vol_unlistedFault_37 ?_
      exact kf_ir hx hb hr hlocks hP hD hS (by rw [hq, show 32 - k = (32 - (k + 1)) + 1 by omega]; show _ = (if kv_ub p1 p2 (31 - (32 - (k + 1))) then _ else _); rw [show 31 - (32 - (k + 1)) = k by omega, if_neg c23]) d_Vol_unlistedFault_38
  · refine lv_iload hx hb d_Vol_unlistedFault_3 (lv_at hl 0 rfl) ?_
    refine lv_bipush (v := 32) hx hb d_Vol_unlistedFault_5 (by decide) ?_
    refine lv_icmp_ge (tgt := 45) hx hb d_Vol_unlistedFault_7 (by decide) (fun c7 => ?_) (fun c7 => absurd (nI_le (a := 32) (b := k) hkn (by omega)) c7)
    refine lv_bipush (v := -2) hx hb d_Vol_unlistedFault_45 (by decide) ?_
    exact kf_ir hx hb hr hlocks hP hD hS (by rw [hq, show 32 - k = 0 by omega]; rfl) d_Vol_unlistedFault_47

set_option maxRecDepth 100000 in
set_option maxHeartbeats 4000000 in
theorem c_Vol_readNumbers (l : Launch) (D : va_G) (cB cI : ClassId) (hz : Nat) (h0 : Nat) (fi : Int64) (bl : Int64) (fs : Int64) (sh : Int64) (zz : Int64) (gb : Int64) (gf : Int64) (rb : Int64) (fc : Int32) (gc : Int64) (cb : Int64) (rk : Int64) (h1 : Nat) (h2 : Nat) (f : Nat → Int32) : kf_Ct l y_Vol_readNumbers w_Vol_readNumbers 2 46 0 0 D (kT cB cI) [.ref h0, .ref h1] [(h0, .inr (1, [.long fi, .long bl, .long fs, .long sh, .long zz, .long gb, .long gf, .long rb, .int fc, .long gc, .long cb, .long rk])), (h1, .inr (0, [.ref h2])), (h2, .inl (cB, 1024, .inl f))] hz none (kf_po D [(h0, .inr (1, [.long (lN (ky_le f 0 4)), .long (lN (ky_le f 4 4)), .long (lN (ky_le f 20 4)), .long (lN (ky_le f 24 4)), .long (kv_size f), .long (lN (ky_le f 32 4)), .long (lN (ky_le f 40 4)), .long (lN (ky_le f 88 2)), .int (kv_few f), .long (kv_gc f), .long (kv_cb f), .long (kv_rk f)])), (h1, .inr (0, [.ref h2])), (h2, .inl (cB, 1024, .inl f))]) := by
  refine kf_of (cc := b_Vol_readNumbers) (maxL := 2) (ret := none) (by decide) rfl (Nat.le_of_ble_eq_true rfl) ?_
  intro p e s m below meth c A H locs hx hb hr hml hown hts hlocks hin hP hD hS hA hE ls hl
  have hl : lv_has ls 2 [(0, .ref h0), (1, .ref h1)] := hl
  refine lv_aload_n hx hb d_Vol_readNumbers_0 rfl (lv_at hl 0 rfl) ?_
  refine lv_aload_n hx hb d_Vol_readNumbers_1 rfl (lv_at hl 1 rfl) ?_
  refine lv_iconst (v := 0) hx hb d_Vol_readNumbers_2 (by decide) ?_
  refine lv_iconst (v := 4) hx hb d_Vol_readNumbers_3 (by decide) ?_
  refine kf_ro hP hD hS hA [1, 2] rfl (va_runV (As := [.int 0, .int 4]) (rest := [.ref h0]) ⟨hx, hb, hml, hown, hts⟩ (c_Row_fieldL l D cB cI _ h1 h2 f 0 4 (by decide) (by decide)) ⟨callB_of 2 hts g_Row_field rfl rfl rfl (hts _ q1_2) (hts _ q1_109) h_Row_field ⟨Nat.le_of_ble_eq_true rfl, Nat.le_of_ble_eq_true rfl⟩, (hts _ q1_110), (hts _ q1_111)⟩ ⟨kf_bl, va_recv hE.1 hP (ci := 0) (q0 := 1) rfl rfl, kf_to hP hD hS hA hE [1, 2] rfl rfl⟩ rfl rfl hl.1 rfl (lv_room (Nat.le_of_ble_eq_true rfl)) d_Vol_readNumbers_4 ⟨Nat.zero_le _, Nat.zero_le _⟩) (fun H locs hP hS => ?_)
  refine W.eq (g2 := F0 m 7 ls [.long (lN (ky_le f 0 4)), .ref h0]) rfl ?_
  refine va_put (D := D) (ci := 1) (v := .long (lN (ky_le f 0 4))) (ty := .long) (C := "FieldRows$Volume") (T := F_Vol) (N := 12) hx hb hts ku_Vol t_Vol t_Vol_ok n_Vol hown hE.1 hP hD hS 0 rfl rfl 0 (by decide) (hts _ q1_31) (fun _ h9 => h9) rfl (by decide +kernel) (rfl) (rfl) (Nat.le_of_ble_eq_true rfl) d_Vol_readNumbers_7 (fun H locs hP hD hS => ?_)
  have hP : va_P D vwCl [(h0, .inr (1, [.long (lN (ky_le f 0 4)), .long bl, .long fs, .long sh, .long zz, .long gb, .long gf, .long rb, .int fc, .long gc, .long cb, .long rk])), (h1, .inr (0, [.ref h2])), (h2, .inl (cB, 1024, .inl f))] H := hP
  have hD : va_D A [(h0, .inr (1, [.long (lN (ky_le f 0 4)), .long bl, .long fs, .long sh, .long zz, .long gb, .long gf, .long rb, .int fc, .long gc, .long cb, .long rk])), (h1, .inr (0, [.ref h2])), (h2, .inl (cB, 1024, .inl f))] := hD
  refine lv_aload_n hx hb d_Vol_readNumbers_10 rfl (lv_at hl 0 rfl) ?_
  refine lv_aload_n hx hb d_Vol_readNumbers_11 rfl (lv_at hl 1 rfl) ?_
  refine lv_iconst (v := 4) hx hb d_Vol_readNumbers_12 (by decide) ?_
  refine lv_iconst (v := 4) hx hb d_Vol_readNumbers_13 (by decide) ?_
  refine kf_ro hP hD hS hA [1, 2] rfl (va_runV (As := [.int 4, .int 4]) (rest := [.ref h0]) ⟨hx, hb, hml, hown, hts⟩ (c_Row_fieldL l D cB cI _ h1 h2 f 4 4 (by decide) (by decide)) ⟨callB_of 2 hts g_Row_field rfl rfl rfl (hts _ q1_2) (hts _ q1_109) h_Row_field ⟨Nat.le_of_ble_eq_true rfl, Nat.le_of_ble_eq_true rfl⟩, (hts _ q1_110), (hts _ q1_111)⟩ ⟨kf_bl, va_recv hE.1 hP (ci := 0) (q0 := 1) rfl rfl, kf_to hP hD hS hA hE [1, 2] rfl rfl⟩ rfl rfl hl.1 rfl (lv_room (Nat.le_of_ble_eq_true rfl)) d_Vol_readNumbers_14 ⟨Nat.zero_le _, Nat.zero_le _⟩) (fun H locs hP hS => ?_)
  refine W.eq (g2 := F0 m 17 ls [.long (lN (ky_le f 4 4)), .ref h0]) rfl ?_
  refine va_put (D := D) (ci := 1) (v := .long (lN (ky_le f 4 4))) (ty := .long) (C := "FieldRows$Volume") (T := F_Vol) (N := 12) hx hb hts ku_Vol t_Vol t_Vol_ok n_Vol hown hE.1 hP hD hS 0 rfl rfl 1 (by decide) (hts _ q1_33) (fun _ h9 => h9) rfl (by decide +kernel) (rfl) (rfl) (Nat.le_of_ble_eq_true rfl) d_Vol_readNumbers_17 (fun H locs hP hD hS => ?_)
  have hP : va_P D vwCl [(h0, .inr (1, [.long (lN (ky_le f 0 4)), .long (lN (ky_le f 4 4)), .long fs, .long sh, .long zz, .long gb, .long gf, .long rb, .int fc, .long gc, .long cb, .long rk])), (h1, .inr (0, [.ref h2])), (h2, .inl (cB, 1024, .inl f))] H := hP
  have hD : va_D A [(h0, .inr (1, [.long (lN (ky_le f 0 4)), .long (lN (ky_le f 4 4)), .long fs, .long sh, .long zz, .long gb, .long gf, .long rb, .int fc, .long gc, .long cb, .long rk])), (h1, .inr (0, [.ref h2])), (h2, .inl (cB, 1024, .inl f))] := hD
  refine lv_aload_n hx hb d_Vol_readNumbers_20 rfl (lv_at hl 0 rfl) ?_
  refine lv_aload_n hx hb d_Vol_readNumbers_21 rfl (lv_at hl 1 rfl) ?_
  refine lv_bipush (v := 20) hx hb d_Vol_readNumbers_22 (by decide) ?_
  refine lv_iconst (v := 4) hx hb d_Vol_readNumbers_24 (by decide) ?_
  refine kf_ro hP hD hS hA [1, 2] rfl (va_runV (As := [.int 20, .int 4]) (rest := [.ref h0]) ⟨hx, hb, hml, hown, hts⟩ (c_Row_fieldL l D cB cI _ h1 h2 f 20 4 (by decide) (by decide)) ⟨callB_of 2 hts g_Row_field rfl rfl rfl (hts _ q1_2) (hts _ q1_109) h_Row_field ⟨Nat.le_of_ble_eq_true rfl, Nat.le_of_ble_eq_true rfl⟩, (hts _ q1_110), (hts _ q1_111)⟩ ⟨kf_bl, va_recv hE.1 hP (ci := 0) (q0 := 1) rfl rfl, kf_to hP hD hS hA hE [1, 2] rfl rfl⟩ rfl rfl hl.1 rfl (lv_room (Nat.le_of_ble_eq_true rfl)) d_Vol_readNumbers_25 ⟨Nat.zero_le _, Nat.zero_le _⟩) (fun H locs hP hS => ?_)
  refine W.eq (g2 := F0 m 28 ls [.long (lN (ky_le f 20 4)), .ref h0]) rfl ?_
  refine va_put (D := D) (ci := 1) (v := .long (lN (ky_le f 20 4))) (ty := .long) (C := "FieldRows$Volume") (T := F_Vol) (N := 12) hx hb hts ku_Vol t_Vol t_Vol_ok n_Vol hown hE.1 hP hD hS 0 rfl rfl 2 (by decide) (hts _ q1_34) (fun _ h9 => h9) rfl (by decide +kernel) (rfl) (rfl) (Nat.le_of_ble_eq_true rfl) d_Vol_readNumbers_28 (fun H locs hP hD hS => ?_)
  have hP : va_P D vwCl [(h0, .inr (1, [.long (lN (ky_le f 0 4)), .long (lN (ky_le f 4 4)), .long (lN (ky_le f 20 4)), .long sh, .long zz, .long gb, .long gf, .long rb, .int fc, .long gc, .long cb, .long rk])), (h1, .inr (0, [.ref h2])), (h2, .inl (cB, 1024, .inl f))] H := hP
  have hD : va_D A [(h0, .inr (1, [.long (lN (ky_le f 0 4)), .long (lN (ky_le f 4 4)), .long (lN (ky_le f 20 4)), .long sh, .long zz, .long gb, .long gf, .long rb, .int fc, .long gc, .long cb, .long rk])), (h1, .inr (0, [.ref h2])), (h2, .inl (cB, 1024, .inl f))] := hD
  refine lv_aload_n hx hb d_Vol_readNumbers_31 rfl (lv_at hl 0 rfl) ?_
  refine lv_aload_n hx hb d_Vol_readNumbers_32 rfl (lv_at hl 1 rfl) ?_
  refine lv_bipush (v := 24) hx hb d_Vol_readNumbers_33 (by decide) ?_
  refine lv_iconst (v := 4) hx hb d_Vol_readNumbers_35 (by decide) ?_
  refine kf_ro hP hD hS hA [1, 2] rfl (va_runV (As := [.int 24, .int 4]) (rest := [.ref h0]) ⟨hx, hb, hml, hown, hts⟩ (c_Row_fieldL l D cB cI _ h1 h2 f 24 4 (by decide) (by decide)) ⟨callB_of 2 hts g_Row_field rfl rfl rfl (hts _ q1_2) (hts _ q1_109) h_Row_field ⟨Nat.le_of_ble_eq_true rfl, Nat.le_of_ble_eq_true rfl⟩, (hts _ q1_110), (hts _ q1_111)⟩ ⟨kf_bl, va_recv hE.1 hP (ci := 0) (q0 := 1) rfl rfl, kf_to hP hD hS hA hE [1, 2] rfl rfl⟩ rfl rfl hl.1 rfl (lv_room (Nat.le_of_ble_eq_true rfl)) d_Vol_readNumbers_36 ⟨Nat.zero_le _, Nat.zero_le _⟩) (fun H locs hP hS => ?_)
  refine W.eq (g2 := F0 m 39 ls [.long (lN (ky_le f 24 4)), .ref h0]) rfl ?_
  refine va_put (D := D) (ci := 1) (v := .long (lN (ky_le f 24 4))) (ty := .long) (C := "FieldRows$Volume") (T := F_Vol) (N := 12) hx hb hts ku_Vol t_Vol t_Vol_ok n_Vol hown hE.1 hP hD hS 0 rfl rfl 3 (by decide) (hts _ q1_35) (fun _ h9 => h9) rfl (by decide +kernel) (rfl) (rfl) (Nat.le_of_ble_eq_true rfl) d_Vol_readNumbers_39 (fun H locs hP hD hS => ?_)
  have hP : va_P D vwCl [(h0, .inr (1, [.long (lN (ky_le f 0 4)), .long (lN (ky_le f 4 4)), .long (lN (ky_le f 20 4)), .long (lN (ky_le f 24 4)), .long zz, .long gb, .long gf, .long rb, .int fc, .long gc, .long cb, .long rk])), (h1, .inr (0, [.ref h2])), (h2, .inl (cB, 1024, .inl f))] H := hP
  have hD : va_D A [(h0, .inr (1, [.long (lN (ky_le f 0 4)), .long (lN (ky_le f 4 4)), .long (lN (ky_le f 20 4)), .long (lN (ky_le f 24 4)), .long zz, .long gb, .long gf, .long rb, .int fc, .long gc, .long cb, .long rk])), (h1, .inr (0, [.ref h2])), (h2, .inl (cB, 1024, .inl f))] := hD
  refine lv_aload_n hx hb d_Vol_readNumbers_42 rfl (lv_at hl 0 rfl) ?_
  refine lv_ldc2 (v := 1024) hx hb hown (hts _ q1_114) d_Vol_readNumbers_43 ?_
  refine lv_aload_n hx hb d_Vol_readNumbers_46 rfl (lv_at hl 0 rfl) ?_
  refine va_get (D := D) (ci := 1) (v := .long (lN (ky_le f 24 4))) (C := "FieldRows$Volume") (T := F_Vol) (N := 12) hx hb hts ku_Vol hown hE.1 hP 0 rfl rfl 3 (by decide) (hts _ q1_35) (fun _ h9 => h9) rfl d_Vol_readNumbers_47 ?_
  refine lv_l2i hx hb d_Vol_readNumbers_50 rfl ?_
  refine lv_lshl hx hb d_Vol_readNumbers_51 rfl ?_
  refine kf_tl (y := kv_size f) (rfl) ?_
  refine va_put (D := D) (ci := 1) (v := .long (kv_size f)) (ty := .long) (C := "FieldRows$Volume") (T := F_Vol) (N := 12) hx hb hts ku_Vol t_Vol t_Vol_ok n_Vol hown hE.1 hP hD hS 0 rfl rfl 4 (by decide) (hts _ q1_36) (fun _ h9 => h9) rfl (by decide +kernel) (rfl) (rfl) (Nat.le_of_ble_eq_true rfl) d_Vol_readNumbers_52 (fun H locs hP hD hS => ?_)
  have hP : va_P D vwCl [(h0, .inr (1, [.long (lN (ky_le f 0 4)), .long (lN (ky_le f 4 4)), .long (lN (ky_le f 20 4)), .long (lN (ky_le f 24 4)), .long (kv_size f), .long gb, .long gf, .long rb, .int fc, .long gc, .long cb, .long rk])), (h1, .inr (0, [.ref h2])), (h2, .inl (cB, 1024, .inl f))] H := hP
  have hD : va_D A [(h0, .inr (1, [.long (lN (ky_le f 0 4)), .long (lN (ky_le f 4 4)), .long (lN (ky_le f 20 4)), .long (lN (ky_le f 24 4)), .long (kv_size f), .long gb, .long gf, .long rb, .int fc, .long gc, .long cb, .long rk])), (h1, .inr (0, [.ref h2])), (h2, .inl (cB, 1024, .inl f))] := hD
  refine lv_aload_n hx hb d_Vol_readNumbers_55 rfl (lv_at hl 0 rfl) ?_
  refine lv_aload_n hx hb d_Vol_readNumbers_56 rfl (lv_at hl 1 rfl) ?_
  refine lv_bipush (v := 32) hx hb d_Vol_readNumbers_57 (by decide) ?_
  refine lv_iconst (v := 4) hx hb d_Vol_readNumbers_59 (by decide) ?_
  refine kf_ro hP hD hS hA [1, 2] rfl (va_runV (As := [.int 32, .int 4]) (rest := [.ref h0]) ⟨hx, hb, hml, hown, hts⟩ (c_Row_fieldL l D cB cI _ h1 h2 f 32 4 (by decide) (by decide)) ⟨callB_of 2 hts g_Row_field rfl rfl rfl (hts _ q1_2) (hts _ q1_109) h_Row_field ⟨Nat.le_of_ble_eq_true rfl, Nat.le_of_ble_eq_true rfl⟩, (hts _ q1_110), (hts _ q1_111)⟩ ⟨kf_bl, va_recv hE.1 hP (ci := 0) (q0 := 1) rfl rfl, kf_to hP hD hS hA hE [1, 2] rfl rfl⟩ rfl rfl hl.1 rfl (lv_room (Nat.le_of_ble_eq_true rfl)) d_Vol_readNumbers_60 ⟨Nat.zero_le _, Nat.zero_le _⟩) (fun H locs hP hS => ?_)
  refine W.eq (g2 := F0 m 63 ls [.long (lN (ky_le f 32 4)), .ref h0]) rfl ?_
  refine va_put (D := D) (ci := 1) (v := .long (lN (ky_le f 32 4))) (ty := .long) (C := "FieldRows$Volume") (T := F_Vol) (N := 12) hx hb hts ku_Vol t_Vol t_Vol_ok n_Vol hown hE.1 hP hD hS 0 rfl rfl 5 (by decide) (hts _ q1_38) (fun _ h9 => h9) rfl (by decide +kernel) (rfl) (rfl) (Nat.le_of_ble_eq_true rfl) d_Vol_readNumbers_63 (fun H locs hP hD hS => ?_)
  have hP : va_P D vwCl [(h0, .inr (1, [.long (lN (ky_le f 0 4)), .long (lN (ky_le f 4 4)), .long (lN (ky_le f 20 4)), .long (lN (ky_le f 24 4)), .long (kv_size f), .long (lN (ky_le f 32 4)), .long gf, .long rb, .int fc, .long gc, .long cb, .long rk])), (h1, .inr (0, [.ref h2])), (h2, .inl (cB, 1024, .inl f))] H := hP
  have hD : va_D A [(h0, .inr (1, [.long (lN (ky_le f 0 4)), .long (lN (ky_le f 4 4)), .long (lN (ky_le f 20 4)), .long (lN (ky_le f 24 4)), .long (kv_size f), .long (lN (ky_le f 32 4)), .long gf, .long rb, .int fc, .long gc, .long cb, .long rk])), (h1, .inr (0, [.ref h2])), (h2, .inl (cB, 1024, .inl f))] := hD
  refine lv_aload_n hx hb d_Vol_readNumbers_66 rfl (lv_at hl 0 rfl) ?_
  refine lv_aload_n hx hb d_Vol_readNumbers_67 rfl (lv_at hl 1 rfl) ?_
  refine lv_bipush (v := 40) hx hb d_Vol_readNumbers_68 (by decide) ?_
  refine lv_iconst (v := 4) hx hb d_Vol_readNumbers_70 (by decide) ?_
  refine kf_ro hP hD hS hA [1, 2] rfl (va_runV (As := [.int 40, .int 4]) (rest := [.ref h0]) ⟨hx, hb, hml, hown, hts⟩ (c_Row_fieldL l D cB cI _ h1 h2 f 40 4 (by decide) (by decide)) ⟨callB_of 2 hts g_Row_field rfl rfl rfl (hts _ q1_2) (hts _ q1_109) h_Row_field ⟨Nat.le_of_ble_eq_true rfl, Nat.le_of_ble_eq_true rfl⟩, (hts _ q1_110), (hts _ q1_111)⟩ ⟨kf_bl, va_recv hE.1 hP (ci := 0) (q0 := 1) rfl rfl, kf_to hP hD hS hA hE [1, 2] rfl rfl⟩ rfl rfl hl.1 rfl (lv_room (Nat.le_of_ble_eq_true rfl)) d_Vol_readNumbers_71 ⟨Nat.zero_le _, Nat.zero_le _⟩) (fun H locs hP hS => ?_)
  refine W.eq (g2 := F0 m 74 ls [.long (lN (ky_le f 40 4)), .ref h0]) rfl ?_
  refine va_put (D := D) (ci := 1) (v := .long (lN (ky_le f 40 4))) (ty := .long) (C := "FieldRows$Volume") (T := F_Vol) (N := 12) hx hb hts ku_Vol t_Vol t_Vol_ok n_Vol hown hE.1 hP hD hS 0 rfl rfl 6 (by decide) (hts _ q1_39) (fun _ h9 => h9) rfl (by decide +kernel) (rfl) (rfl) (Nat.le_of_ble_eq_true rfl) d_Vol_readNumbers_74 (fun H locs hP hD hS => ?_)
  have hP : va_P D vwCl [(h0, .inr (1, [.long (lN (ky_le f 0 4)), .long (lN (ky_le f 4 4)), .long (lN (ky_le f 20 4)), .long (lN (ky_le f 24 4)), .long (kv_size f), .long (lN (ky_le f 32 4)), .long (lN (ky_le f 40 4)), .long rb, .int fc, .long gc, .long cb, .long rk])), (h1, .inr (0, [.ref h2])), (h2, .inl (cB, 1024, .inl f))] H := hP
  have hD : va_D A [(h0, .inr (1, [.long (lN (ky_le f 0 4)), .long (lN (ky_le f 4 4)), .long (lN (ky_le f 20 4)), .long (lN (ky_le f 24 4)), .long (kv_size f), .long (lN (ky_le f 32 4)), .long (lN (ky_le f 40 4)), .long rb, .int fc, .long gc, .long cb, .long rk])), (h1, .inr (0, [.ref h2])), (h2, .inl (cB, 1024, .inl f))] := hD
  refine lv_aload_n hx hb d_Vol_readNumbers_77 rfl (lv_at hl 0 rfl) ?_
  refine lv_aload_n hx hb d_Vol_readNumbers_78 rfl (lv_at hl 1 rfl) ?_
  refine lv_bipush (v := 88) hx hb d_Vol_readNumbers_79 (by decide) ?_
  refine lv_iconst (v := 2) hx hb d_Vol_readNumbers_81 (by decide) ?_
  refine kf_ro hP hD hS hA [1, 2] rfl (va_runV (As := [.int 88, .int 2]) (rest := [.ref h0]) ⟨hx, hb, hml, hown, hts⟩ (c_Row_fieldL l D cB cI _ h1 h2 f 88 2 (by decide) (by decide)) ⟨callB_of 2 hts g_Row_field rfl rfl rfl (hts _ q1_2) (hts _ q1_109) h_Row_field ⟨Nat.le_of_ble_eq_true rfl, Nat.le_of_ble_eq_true rfl⟩, (hts _ q1_110), (hts _ q1_111)⟩ ⟨kf_bl, va_recv hE.1 hP (ci := 0) (q0 := 1) rfl rfl, kf_to hP hD hS hA hE [1, 2] rfl rfl⟩ rfl rfl hl.1 rfl (lv_room (Nat.le_of_ble_eq_true rfl)) d_Vol_readNumbers_82 ⟨Nat.zero_le _, Nat.zero_le _⟩) (fun H locs hP hS => ?_)
  refine W.eq (g2 := F0 m 85 ls [.long (lN (ky_le f 88 2)), .ref h0]) rfl ?_
  refine va_put (D := D) (ci := 1) (v := .long (lN (ky_le f 88 2))) (ty := .long) (C := "FieldRows$Volume") (T := F_Vol) (N := 12) hx hb hts ku_Vol t_Vol t_Vol_ok n_Vol hown hE.1 hP hD hS 0 rfl rfl 7 (by decide) (hts _ q1_41) (fun _ h9 => h9) rfl (by decide +kernel) (rfl) (rfl) (Nat.le_of_ble_eq_true rfl) d_Vol_readNumbers_85 (fun H locs hP hD hS => ?_)
  have hP : va_P D vwCl [(h0, .inr (1, [.long (lN (ky_le f 0 4)), .long (lN (ky_le f 4 4)), .long (lN (ky_le f 20 4)), .long (lN (ky_le f 24 4)), .long (kv_size f), .long (lN (ky_le f 32 4)), .long (lN (ky_le f 40 4)), .long (lN (ky_le f 88 2)), .int fc, .long gc, .long cb, .long rk])), (h1, .inr (0, [.ref h2])), (h2, .inl (cB, 1024, .inl f))] H := hP
  have hD : va_D A [(h0, .inr (1, [.long (lN (ky_le f 0 4)), .long (lN (ky_le f 4 4)), .long (lN (ky_le f 20 4)), .long (lN (ky_le f 24 4)), .long (kv_size f), .long (lN (ky_le f 32 4)), .long (lN (ky_le f 40 4)), .long (lN (ky_le f 88 2)), .int fc, .long gc, .long cb, .long rk])), (h1, .inr (0, [.ref h2])), (h2, .inl (cB, 1024, .inl f))] := hD
  refine lv_aload_n hx hb d_Vol_readNumbers_88 rfl (lv_at hl 0 rfl) ?_
  refine lv_aload_n hx hb d_Vol_readNumbers_89 rfl (lv_at hl 1 rfl) ?_
  refine lv_bipush (v := 100) hx hb d_Vol_readNumbers_90 (by decide) ?_
  refine lv_iconst (v := 4) hx hb d_Vol_readNumbers_92 (by decide) ?_
  refine kf_ro hP hD hS hA [1, 2] rfl (va_runV (As := [.int 100, .int 4]) (rest := [.ref h0]) ⟨hx, hb, hml, hown, hts⟩ (c_Row_fieldL l D cB cI _ h1 h2 f 100 4 (by decide) (by decide)) ⟨callB_of 2 hts g_Row_field rfl rfl rfl (hts _ q1_2) (hts _ q1_109) h_Row_field ⟨Nat.le_of_ble_eq_true rfl, Nat.le_of_ble_eq_true rfl⟩, (hts _ q1_110), (hts _ q1_111)⟩ ⟨kf_bl, va_recv hE.1 hP (ci := 0) (q0 := 1) rfl rfl, kf_to hP hD hS hA hE [1, 2] rfl rfl⟩ rfl rfl hl.1 rfl (lv_room (Nat.le_of_ble_eq_true rfl)) d_Vol_readNumbers_93 ⟨Nat.zero_le _, Nat.zero_le _⟩) (fun H locs hP hS => ?_)
  refine W.eq (g2 := F0 m 96 ls [.long (lN (ky_le f 100 4)), .ref h0]) rfl ?_
  refine lv_lconst (v := 1) hx hb d_Vol_readNumbers_96 (by decide) ?_
  refine lv_land hx hb d_Vol_readNumbers_97 ?_
  refine lv_lconst (v := 0) hx hb d_Vol_readNumbers_98 (by decide) ?_
  refine kf_lc_eq (tgt := 107) hx hb d_Vol_readNumbers_99 d_Vol_readNumbers_100 (by decide) (fun c99 => ?_) (fun c99 => ?_)
  · refine lv_iconst (v := 0) hx hb d_Vol_readNumbers_107 (by decide) ?_
    refine kf_ti (y := kv_few f) (kP_f (fun q => q c99)) ?_
    refine va_put (D := D) (ci := 1) (v := .int (kv_few f)) (ty := .boolean) (C := "FieldRows$Volume") (T := F_Vol) (N := 12) hx hb hts ku_Vol t_Vol t_Vol_ok n_Vol hown hE.1 hP hD hS 0 rfl rfl 8 (by decide) (hts _ q1_43) (fun _ h9 => h9) rfl (by decide +kernel) (kP_nar) (kP_fit) (Nat.le_of_ble_eq_true rfl) d_Vol_readNumbers_108 (fun H locs hP hD hS => ?_)
    have hP : va_P D vwCl [(h0, .inr (1, [.long (lN (ky_le f 0 4)), .long (lN (ky_le f 4 4)), .long (lN (ky_le f 20 4)), .long (lN (ky_le f 24 4)), .long (kv_size f), .long (lN (ky_le f 32 4)), .long (lN (ky_le f 40 4)), .long (lN (ky_le f 88 2)), .int (kv_few f), .long gc, .long cb, .long rk])), (h1, .inr (0, [.ref h2])), (h2, .inl (cB, 1024, .inl f))] H := hP
    have hD : va_D A [(h0, .inr (1, [.long (lN (ky_le f 0 4)), .long (lN (ky_le f 4 4)), .long (lN (ky_le f 20 4)), .long (lN (ky_le f 24 4)), .long (kv_size f), .long (lN (ky_le f 32 4)), .long (lN (ky_le f 40 4)), .long (lN (ky_le f 88 2)), .int (kv_few f), .long gc, .long cb, .long rk])), (h1, .inr (0, [.ref h2])), (h2, .inl (cB, 1024, .inl f))] := hD
    refine lv_aload_n hx hb d_Vol_readNumbers_111 rfl (lv_at hl 0 rfl) ?_
    refine lv_aload_n hx hb d_Vol_readNumbers_112 rfl (lv_at hl 0 rfl) ?_
    refine va_get (D := D) (ci := 1) (v := .long (lN (ky_le f 4 4))) (C := "FieldRows$Volume") (T := F_Vol) (N := 12) hx hb hts ku_Vol hown hE.1 hP 0 rfl rfl 1 (by decide) (hts _ q1_33) (fun _ h9 => h9) rfl d_Vol_readNumbers_113 ?_
    refine lv_aload_n hx hb d_Vol_readNumbers_116 rfl (lv_at hl 0 rfl) ?_
    refine va_get (D := D) (ci := 1) (v := .long (lN (ky_le f 20 4))) (C := "FieldRows$Volume") (T := F_Vol) (N := 12) hx hb hts ku_Vol hown hE.1 hP 0 rfl rfl 2 (by decide) (hts _ q1_34) (fun _ h9 => h9) rfl d_Vol_readNumbers_117 ?_
    refine lv_lsub hx hb d_Vol_readNumbers_120 ?_
    refine lv_aload_n hx hb d_Vol_readNumbers_121 rfl (lv_at hl 0 rfl) ?_
    refine va_get (D := D) (ci := 1) (v := .long (lN (ky_le f 32 4))) (C := "FieldRows$Volume") (T := F_Vol) (N := 12) hx hb hts ku_Vol hown hE.1 hP 0 rfl rfl 5 (by decide) (hts _ q1_38) (fun _ h9 => h9) rfl d_Vol_readNumbers_122 ?_
    refine kf_ro hP hD hS hA [] rfl (va_runSN (As := [.long ((lN (ky_le f 4 4)) - (lN (ky_le f 20 4))), .long (lN (ky_le f 32 4))]) (rest := [.ref h0]) ⟨hx, hb, hml, hown, hts⟩ (c_FR_quotientUp l D cB cI _ ((lN (ky_le f 4 4)) - (lN (ky_le f 20 4))) (lN (ky_le f 32 4))) ⟨va_cnB 2 hts g_FR_quotientUp rfl rfl rfl (hE.2.1 _ q1_115) (hts _ q1_1) h_FR_quotientUp ⟨Nat.le_of_ble_eq_true rfl, Nat.le_of_ble_eq_true rfl⟩, (hts _ q1_116), trivial⟩ ⟨kf_bl, kf_to hP hD hS hA hE [] rfl rfl⟩ rfl rfl hl.1 rfl (lv_room (Nat.le_of_ble_eq_true rfl)) d_Vol_readNumbers_125 ⟨Nat.zero_le _, Nat.zero_le _⟩) (fun H locs hP hS => ?_)
    refine W.eq (g2 := F0 m 128 ls [.long (ky_qU ((lN (ky_le f 4 4)) - (lN (ky_le f 20 4))) (lN (ky_le f 32 4))), .ref h0]) rfl ?_
    refine kf_tl (y := kv_gc f) (rfl) ?_
    refine va_put (D := D) (ci := 1) (v := .long (kv_gc f)) (ty := .long) (C := "FieldRows$Volume") (T := F_Vol) (N := 12) hx hb hts ku_Vol t_Vol t_Vol_ok n_Vol hown hE.1 hP hD hS 0 rfl rfl 9 (by decide) (hts _ q1_44) (fun _ h9 => h9) rfl (by decide +kernel) (rfl) (rfl) (Nat.le_of_ble_eq_true rfl) d_Vol_readNumbers_128 (fun H locs hP hD hS => ?_)
    have hP : va_P D vwCl [(h0, .inr (1, [.long (lN (ky_le f 0 4)), .long (lN (ky_le f 4 4)), .long (lN (ky_le f 20 4)), .long (lN (ky_le f 24 4)), .long (kv_size f), .long (lN (ky_le f 32 4)), .long (lN (ky_le f 40 4)), .long (lN (ky_le f 88 2)), .int (kv_few f), .long (kv_gc f), .long cb, .long rk])), (h1, .inr (0, [.ref h2])), (h2, .inl (cB, 1024, .inl f))] H := hP
    have hD : va_D A [(h0, .inr (1, [.long (lN (ky_le f 0 4)), .long (lN (ky_le f 4 4)), .long (lN (ky_le f 20 4)), .long (lN (ky_le f 24 4)), .long (kv_size f), .long (lN (ky_le f 32 4)), .long (lN (ky_le f 40 4)), .long (lN (ky_le f 88 2)), .int (kv_few f), .long (kv_gc f), .long cb, .long rk])), (h1, .inr (0, [.ref h2])), (h2, .inl (cB, 1024, .inl f))] := hD
    refine lv_aload_n hx hb d_Vol_readNumbers_131 rfl (lv_at hl 0 rfl) ?_
    refine lv_lconst (v := 1) hx hb d_Vol_readNumbers_132 (by decide) ?_
    refine lv_aload_n hx hb d_Vol_readNumbers_133 rfl (lv_at hl 0 rfl) ?_
    refine va_get (D := D) (ci := 1) (v := .long (kv_gc f)) (C := "FieldRows$Volume") (T := F_Vol) (N := 12) hx hb hts ku_Vol hown hE.1 hP 0 rfl rfl 9 (by decide) (hts _ q1_44) (fun _ h9 => h9) rfl d_Vol_readNumbers_134 ?_
    refine lv_ldc2 (v := 32) hx hb hown (hts _ q1_121) d_Vol_readNumbers_137 ?_
    refine lv_lmul hx hb d_Vol_readNumbers_140 ?_
    refine lv_aload_n hx hb d_Vol_readNumbers_141 rfl (lv_at hl 0 rfl) ?_
    refine va_get (D := D) (ci := 1) (v := .long (kv_size f)) (C := "FieldRows$Volume") (T := F_Vol) (N := 12) hx hb hts ku_Vol hown hE.1 hP 0 rfl rfl 4 (by decide) (hts _ q1_36) (fun _ h9 => h9) rfl d_Vol_readNumbers_142 ?_
    refine kf_ro hP hD hS hA [] rfl (va_runSN (As := [.long ((kv_gc f) * 32), .long (kv_size f)]) (rest := [.long 1, .ref h0]) ⟨hx, hb, hml, hown, hts⟩ (c_FR_quotientUp l D cB cI _ ((kv_gc f) * 32) (kv_size f)) ⟨va_cnB 2 hts g_FR_quotientUp rfl rfl rfl (hE.2.1 _ q1_115) (hts _ q1_1) h_FR_quotientUp ⟨Nat.le_of_ble_eq_true rfl, Nat.le_of_ble_eq_true rfl⟩, (hts _ q1_116), trivial⟩ ⟨kf_bl, kf_to hP hD hS hA hE [] rfl rfl⟩ rfl rfl hl.1 rfl (lv_room (Nat.le_of_ble_eq_true rfl)) d_Vol_readNumbers_145 ⟨Nat.zero_le _, Nat.zero_le _⟩) (fun H locs hP hS => ?_)
    refine W.eq (g2 := F0 m 148 ls [.long (ky_qU ((kv_gc f) * 32) (kv_size f)), .long 1, .ref h0]) rfl ?_
    refine lv_ladd hx hb d_Vol_readNumbers_148 ?_
    refine kf_tl (y := kv_cb f) (rfl) ?_
    refine va_put (D := D) (ci := 1) (v := .long (kv_cb f)) (ty := .long) (C := "FieldRows$Volume") (T := F_Vol) (N := 12) hx hb hts ku_Vol t_Vol t_Vol_ok n_Vol hown hE.1 hP hD hS 0 rfl rfl 10 (by decide) (hts _ q1_46) (fun _ h9 => h9) rfl (by decide +kernel) (rfl) (rfl) (Nat.le_of_ble_eq_true rfl) d_Vol_readNumbers_149 (fun H locs hP hD hS => ?_)
    have hP : va_P D vwCl [(h0, .inr (1, [.long (lN (ky_le f 0 4)), .long (lN (ky_le f 4 4)), .long (lN (ky_le f 20 4)), .long (lN (ky_le f 24 4)), .long (kv_size f), .long (lN (ky_le f 32 4)), .long (lN (ky_le f 40 4)), .long (lN (ky_le f 88 2)), .int (kv_few f), .long (kv_gc f), .long (kv_cb f), .long rk])), (h1, .inr (0, [.ref h2])), (h2, .inl (cB, 1024, .inl f))] H := hP
    have hD : va_D A [(h0, .inr (1, [.long (lN (ky_le f 0 4)), .long (lN (ky_le f 4 4)), .long (lN (ky_le f 20 4)), .long (lN (ky_le f 24 4)), .long (kv_size f), .long (lN (ky_le f 32 4)), .long (lN (ky_le f 40 4)), .long (lN (ky_le f 88 2)), .int (kv_few f), .long (kv_gc f), .long (kv_cb f), .long rk])), (h1, .inr (0, [.ref h2])), (h2, .inl (cB, 1024, .inl f))] := hD
    refine lv_aload_n hx hb d_Vol_readNumbers_152 rfl (lv_at hl 0 rfl) ?_
    refine lv_aload_n hx hb d_Vol_readNumbers_153 rfl (lv_at hl 0 rfl) ?_
    refine va_get (D := D) (ci := 1) (v := .long (lN (ky_le f 40 4))) (C := "FieldRows$Volume") (T := F_Vol) (N := 12) hx hb hts ku_Vol hown hE.1 hP 0 rfl rfl 6 (by decide) (hts _ q1_39) (fun _ h9 => h9) rfl d_Vol_readNumbers_154 ?_
    refine lv_aload_n hx hb d_Vol_readNumbers_157 rfl (lv_at hl 0 rfl) ?_
    refine va_get (D := D) (ci := 1) (v := .long (lN (ky_le f 88 2))) (C := "FieldRows$Volume") (T := F_Vol) (N := 12) hx hb hts ku_Vol hown hE.1 hP 0 rfl rfl 7 (by decide) (hts _ q1_41) (fun _ h9 => h9) rfl d_Vol_readNumbers_158 ?_
    refine lv_lmul hx hb d_Vol_readNumbers_161 ?_
    refine lv_aload_n hx hb d_Vol_readNumbers_162 rfl (lv_at hl 0 rfl) ?_
    refine va_get (D := D) (ci := 1) (v := .long (kv_size f)) (C := "FieldRows$Volume") (T := F_Vol) (N := 12) hx hb hts ku_Vol hown hE.1 hP 0 rfl rfl 4 (by decide) (hts _ q1_36) (fun _ h9 => h9) rfl d_Vol_readNumbers_163 ?_
    refine kf_ro hP hD hS hA [] rfl (va_runSN (As := [.long ((lN (ky_le f 40 4)) * (lN (ky_le f 88 2))), .long (kv_size f)]) (rest := [.ref h0]) ⟨hx, hb, hml, hown, hts⟩ (c_FR_quotientUp l D cB cI _ ((lN (ky_le f 40 4)) * (lN (ky_le f 88 2))) (kv_size f)) ⟨va_cnB 2 hts g_FR_quotientUp rfl rfl rfl (hE.2.1 _ q1_115) (hts _ q1_1) h_FR_quotientUp ⟨Nat.le_of_ble_eq_true rfl, Nat.le_of_ble_eq_true rfl⟩, (hts _ q1_116), trivial⟩ ⟨kf_bl, kf_to hP hD hS hA hE [] rfl rfl⟩ rfl rfl hl.1 rfl (lv_room (Nat.le_of_ble_eq_true rfl)) d_Vol_readNumbers_166 ⟨Nat.zero_le _, Nat.zero_le _⟩) (fun H locs hP hS => ?_)
    refine W.eq (g2 := F0 m 169 ls [.long (ky_qU ((lN (ky_le f 40 4)) * (lN (ky_le f 88 2))) (kv_size f)), .ref h0]) rfl ?_
    refine kf_tl (y := kv_rk f) (rfl) ?_
    refine va_put (D := D) (ci := 1) (v := .long (kv_rk f)) (ty := .long) (C := "FieldRows$Volume") (T := F_Vol) (N := 12) hx hb hts ku_Vol t_Vol t_Vol_ok n_Vol hown hE.1 hP hD hS 0 rfl rfl 11 (by decide) (hts _ q1_47) (fun _ h9 => h9) rfl (by decide +kernel) (rfl) (rfl) (Nat.le_of_ble_eq_true rfl) d_Vol_readNumbers_169 (fun H locs hP hD hS => ?_)
    have hP : va_P D vwCl [(h0, .inr (1, [.long (lN (ky_le f 0 4)), .long (lN (ky_le f 4 4)), .long (lN (ky_le f 20 4)), .long (lN (ky_le f 24 4)), .long (kv_size f), .long (lN (ky_le f 32 4)), .long (lN (ky_le f 40 4)), .long (lN (ky_le f 88 2)), .int (kv_few f), .long (kv_gc f), .long (kv_cb f), .long (kv_rk f)])), (h1, .inr (0, [.ref h2])), (h2, .inl (cB, 1024, .inl f))] H := hP
    have hD : va_D A [(h0, .inr (1, [.long (lN (ky_le f 0 4)), .long (lN (ky_le f 4 4)), .long (lN (ky_le f 20 4)), .long (lN (ky_le f 24 4)), .long (kv_size f), .long (lN (ky_le f 32 4)), .long (lN (ky_le f 40 4)), .long (lN (ky_le f 88 2)), .int (kv_few f), .long (kv_gc f), .long (kv_cb f), .long (kv_rk f)])), (h1, .inr (0, [.ref h2])), (h2, .inl (cB, 1024, .inl f))] := hD
    exact kf_vr hx hb hr hlocks (kf_poAt hP hD) hS d_Vol_readNumbers_172
  · refine lv_iconst (v := 1) hx hb d_Vol_readNumbers_103 (by decide) ?_
    refine lv_goto (tgt := 108) hx hb d_Vol_readNumbers_104 (by decide) ?_
    refine kf_ti (y := kv_few f) (kP_t c99) ?_
    refine va_put (D := D) (ci := 1) (v := .int (kv_few f)) (ty := .boolean) (C := "FieldRows$Volume") (T := F_Vol) (N := 12) hx hb hts ku_Vol t_Vol t_Vol_ok n_Vol hown hE.1 hP hD hS 0 rfl rfl 8 (by decide) (hts _ q1_43) (fun _ h9 => h9) rfl (by decide +kernel) (kP_nar) (kP_fit) (Nat.le_of_ble_eq_true rfl) d_Vol_readNumbers_108 (fun H locs hP hD hS => ?_)
    have hP : va_P D vwCl [(h0, .inr (1, [.long (lN (ky_le f 0 4)), .long (lN (ky_le f 4 4)), .long (lN (ky_le f 20 4)), .long (lN (ky_le f 24 4)), .long (kv_size f), .long (lN (ky_le f 32 4)), .long (lN (ky_le f 40 4)), .long (lN (ky_le f 88 2)), .int (kv_few f), .long gc, .long cb, .long rk])), (h1, .inr (0, [.ref h2])), (h2, .inl (cB, 1024, .inl f))] H := hP
    have hD : va_D A [(h0, .inr (1, [.long (lN (ky_le f 0 4)), .long (lN (ky_le f 4 4)), .long (lN (ky_le f 20 4)), .long (lN (ky_le f 24 4)), .long (kv_size f), .long (lN (ky_le f 32 4)), .long (lN (ky_le f 40 4)), .long (lN (ky_le f 88 2)), .int (kv_few f), .long gc, .long cb, .long rk])), (h1, .inr (0, [.ref h2])), (h2, .inl (cB, 1024, .inl f))] := hD
    refine lv_aload_n hx hb d_Vol_readNumbers_111 rfl (lv_at hl 0 rfl) ?_
    refine lv_aload_n hx hb d_Vol_readNumbers_112 rfl (lv_at hl 0 rfl) ?_
    refine va_get (D := D) (ci := 1) (v := .long (lN (ky_le f 4 4))) (C := "FieldRows$Volume") (T := F_Vol) (N := 12) hx hb hts ku_Vol hown hE.1 hP 0 rfl rfl 1 (by decide) (hts _ q1_33) (fun _ h9 => h9) rfl d_Vol_readNumbers_113 ?_
    refine lv_aload_n hx hb d_Vol_readNumbers_116 rfl (lv_at hl 0 rfl) ?_
    refine va_get (D := D) (ci := 1) (v := .long (lN (ky_le f 20 4))) (C := "FieldRows$Volume") (T := F_Vol) (N := 12) hx hb hts ku_Vol hown hE.1 hP 0 rfl rfl 2 (by decide) (hts _ q1_34) (fun _ h9 => h9) rfl d_Vol_readNumbers_117 ?_
    refine lv_lsub hx hb d_Vol_readNumbers_120 ?_
    refine lv_aload_n hx hb d_Vol_readNumbers_121 rfl (lv_at hl 0 rfl) ?_
    refine va_get (D := D) (ci := 1) (v := .long (lN (ky_le f 32 4))) (C := "FieldRows$Volume") (T := F_Vol) (N := 12) hx hb hts ku_Vol hown hE.1 hP 0 rfl rfl 5 (by decide) (hts _ q1_38) (fun _ h9 => h9) rfl d_Vol_readNumbers_122 ?_
    refine kf_ro hP hD hS hA [] rfl (va_runSN (As := [.long ((lN (ky_le f 4 4)) - (lN (ky_le f 20 4))), .long (lN (ky_le f 32 4))]) (rest := [.ref h0]) ⟨hx, hb, hml, hown, hts⟩ (c_FR_quotientUp l D cB cI _ ((lN (ky_le f 4 4)) - (lN (ky_le f 20 4))) (lN (ky_le f 32 4))) ⟨va_cnB 2 hts g_FR_quotientUp rfl rfl rfl (hE.2.1 _ q1_115) (hts _ q1_1) h_FR_quotientUp ⟨Nat.le_of_ble_eq_true rfl, Nat.le_of_ble_eq_true rfl⟩, (hts _ q1_116), trivial⟩ ⟨kf_bl, kf_to hP hD hS hA hE [] rfl rfl⟩ rfl rfl hl.1 rfl (lv_room (Nat.le_of_ble_eq_true rfl)) d_Vol_readNumbers_125 ⟨Nat.zero_le _, Nat.zero_le _⟩) (fun H locs hP hS => ?_)
    refine W.eq (g2 := F0 m 128 ls [.long (ky_qU ((lN (ky_le f 4 4)) - (lN (ky_le f 20 4))) (lN (ky_le f 32 4))), .ref h0]) rfl ?_
    refine kf_tl (y := kv_gc f) (rfl) ?_
    refine va_put (D := D) (ci := 1) (v := .long (kv_gc f)) (ty := .long) (C := "FieldRows$Volume") (T := F_Vol) (N := 12) hx hb hts ku_Vol t_Vol t_Vol_ok n_Vol hown hE.1 hP hD hS 0 rfl rfl 9 (by decide) (hts _ q1_44) (fun _ h9 => h9) rfl (by decide +kernel) (rfl) (rfl) (Nat.le_of_ble_eq_true rfl) d_Vol_readNumbers_128 (fun H locs hP hD hS => ?_)
    have hP : va_P D vwCl [(h0, .inr (1, [.long (lN (ky_le f 0 4)), .long (lN (ky_le f 4 4)), .long (lN (ky_le f 20 4)), .long (lN (ky_le f 24 4)), .long (kv_size f), .long (lN (ky_le f 32 4)), .long (lN (ky_le f 40 4)), .long (lN (ky_le f 88 2)), .int (kv_few f), .long (kv_gc f), .long cb, .long rk])), (h1, .inr (0, [.ref h2])), (h2, .inl (cB, 1024, .inl f))] H := hP
    have hD : va_D A [(h0, .inr (1, [.long (lN (ky_le f 0 4)), .long (lN (ky_le f 4 4)), .long (lN (ky_le f 20 4)), .long (lN (ky_le f 24 4)), .long (kv_size f), .long (lN (ky_le f 32 4)), .long (lN (ky_le f 40 4)), .long (lN (ky_le f 88 2)), .int (kv_few f), .long (kv_gc f), .long cb, .long rk])), (h1, .inr (0, [.ref h2])), (h2, .inl (cB, 1024, .inl f))] := hD
    refine lv_aload_n hx hb d_Vol_readNumbers_131 rfl (lv_at hl 0 rfl) ?_
    refine lv_lconst (v := 1) hx hb d_Vol_readNumbers_132 (by decide) ?_
    refine lv_aload_n hx hb d_Vol_readNumbers_133 rfl (lv_at hl 0 rfl) ?_
    refine va_get (D := D) (ci := 1) (v := .long (kv_gc f)) (C := "FieldRows$Volume") (T := F_Vol) (N := 12) hx hb hts ku_Vol hown hE.1 hP 0 rfl rfl 9 (by decide) (hts _ q1_44) (fun _ h9 => h9) rfl d_Vol_readNumbers_134 ?_
    refine lv_ldc2 (v := 32) hx hb hown (hts _ q1_121) d_Vol_readNumbers_137 ?_
    refine lv_lmul hx hb d_Vol_readNumbers_140 ?_
    refine lv_aload_n hx hb d_Vol_readNumbers_141 rfl (lv_at hl 0 rfl) ?_
    refine va_get (D := D) (ci := 1) (v := .long (kv_size f)) (C := "FieldRows$Volume") (T := F_Vol) (N := 12) hx hb hts ku_Vol hown hE.1 hP 0 rfl rfl 4 (by decide) (hts _ q1_36) (fun _ h9 => h9) rfl d_Vol_readNumbers_142 ?_
    refine kf_ro hP hD hS hA [] rfl (va_runSN (As := [.long ((kv_gc f) * 32), .long (kv_size f)]) (rest := [.long 1, .ref h0]) ⟨hx, hb, hml, hown, hts⟩ (c_FR_quotientUp l D cB cI _ ((kv_gc f) * 32) (kv_size f)) ⟨va_cnB 2 hts g_FR_quotientUp rfl rfl rfl (hE.2.1 _ q1_115) (hts _ q1_1) h_FR_quotientUp ⟨Nat.le_of_ble_eq_true rfl, Nat.le_of_ble_eq_true rfl⟩, (hts _ q1_116), trivial⟩ ⟨kf_bl, kf_to hP hD hS hA hE [] rfl rfl⟩ rfl rfl hl.1 rfl (lv_room (Nat.le_of_ble_eq_true rfl)) d_Vol_readNumbers_145 ⟨Nat.zero_le _, Nat.zero_le _⟩) (fun H locs hP hS => ?_)
    refine W.eq (g2 := F0 m 148 ls [.long (ky_qU ((kv_gc f) * 32) (kv_size f)), .long 1, .ref h0]) rfl ?_
    refine lv_ladd hx hb d_Vol_readNumbers_148 ?_
    refine kf_tl (y := kv_cb f) (rfl) ?_
    refine va_put (D := D) (ci := 1) (v := .long (kv_cb f)) (ty := .long) (C := "FieldRows$Volume") (T := F_Vol) (N := 12) hx hb hts ku_Vol t_Vol t_Vol_ok n_Vol hown hE.1 hP hD hS 0 rfl rfl 10 (by decide) (hts _ q1_46) (fun _ h9 => h9) rfl (by decide +kernel) (rfl) (rfl) (Nat.le_of_ble_eq_true rfl) d_Vol_readNumbers_149 (fun H locs hP hD hS => ?_)
    have hP : va_P D vwCl [(h0, .inr (1, [.long (lN (ky_le f 0 4)), .long (lN (ky_le f 4 4)), .long (lN (ky_le f 20 4)), .long (lN (ky_le f 24 4)), .long (kv_size f), .long (lN (ky_le f 32 4)), .long (lN (ky_le f 40 4)), .long (lN (ky_le f 88 2)), .int (kv_few f), .long (kv_gc f), .long (kv_cb f), .long rk])), (h1, .inr (0, [.ref h2])), (h2, .inl (cB, 1024, .inl f))] H := hP
    have hD : va_D A [(h0, .inr (1, [.long (lN (ky_le f 0 4)), .long (lN (ky_le f 4 4)), .long (lN (ky_le f 20 4)), .long (lN (ky_le f 24 4)), .long (kv_size f), .long (lN (ky_le f 32 4)), .long (lN (ky_le f 40 4)), .long (lN (ky_le f 88 2)), .int (kv_few f), .long (kv_gc f), .long (kv_cb f), .long rk])), (h1, .inr (0, [.ref h2])), (h2, .inl (cB, 1024, .inl f))] := hD
    refine lv_aload_n hx hb d_Vol_readNumbers_152 rfl (lv_at hl 0 rfl) ?_
    refine lv_aload_n hx hb d_Vol_readNumbers_153 rfl (lv_at hl 0 rfl) ?_
    refine va_get (D := D) (ci := 1) (v := .long (lN (ky_le f 40 4))) (C := "FieldRows$Volume") (T := F_Vol) (N := 12) hx hb hts ku_Vol hown hE.1 hP 0 rfl rfl 6 (by decide) (hts _ q1_39) (fun _ h9 => h9) rfl d_Vol_readNumbers_154 ?_
    refine lv_aload_n hx hb d_Vol_readNumbers_157 rfl (lv_at hl 0 rfl) ?_
    refine va_get (D := D) (ci := 1) (v := .long (lN (ky_le f 88 2))) (C := "FieldRows$Volume") (T := F_Vol) (N := 12) hx hb hts ku_Vol hown hE.1 hP 0 rfl rfl 7 (by decide) (hts _ q1_41) (fun _ h9 => h9) rfl d_Vol_readNumbers_158 ?_
    refine lv_lmul hx hb d_Vol_readNumbers_161 ?_
    refine lv_aload_n hx hb d_Vol_readNumbers_162 rfl (lv_at hl 0 rfl) ?_
    refine va_get (D := D) (ci := 1) (v := .long (kv_size f)) (C := "FieldRows$Volume") (T := F_Vol) (N := 12) hx hb hts ku_Vol hown hE.1 hP 0 rfl rfl 4 (by decide) (hts _ q1_36) (fun _ h9 => h9) rfl d_Vol_readNumbers_163 ?_
    refine kf_ro hP hD hS hA [] rfl (va_runSN (As := [.long ((lN (ky_le f 40 4)) * (lN (ky_le f 88 2))), .long (kv_size f)]) (rest := [.ref h0]) ⟨hx, hb, hml, hown, hts⟩ (c_FR_quotientUp l D cB cI _ ((lN (ky_le f 40 4)) * (lN (ky_le f 88 2))) (kv_size f)) ⟨va_cnB 2 hts g_FR_quotientUp rfl rfl rfl (hE.2.1 _ q1_115) (hts _ q1_1) h_FR_quotientUp ⟨Nat.le_of_ble_eq_true rfl, Nat.le_of_ble_eq_true rfl⟩, (hts _ q1_116), trivial⟩ ⟨kf_bl, kf_to hP hD hS hA hE [] rfl rfl⟩ rfl rfl hl.1 rfl (lv_room (Nat.le_of_ble_eq_true rfl)) d_Vol_readNumbers_166 ⟨Nat.zero_le _, Nat.zero_le _⟩) (fun H locs hP hS => ?_)
    refine W.eq (g2 := F0 m 169 ls [.long (ky_qU ((lN (ky_le f 40 4)) * (lN (ky_le f 88 2))) (kv_size f)), .ref h0]) rfl ?_
    refine kf_tl (y := kv_rk f) (rfl) ?_
    refine va_put (D := D) (ci := 1) (v := .long (kv_rk f)) (ty := .long) (C := "FieldRows$Volume") (T := F_Vol) (N := 12) hx hb hts ku_Vol t_Vol t_Vol_ok n_Vol hown hE.1 hP hD hS 0 rfl rfl 11 (by decide) (hts _ q1_47) (fun _ h9 => h9) rfl (by decide +kernel) (rfl) (rfl) (Nat.le_of_ble_eq_true rfl) d_Vol_readNumbers_169 (fun H locs hP hD hS => ?_)
    have hP : va_P D vwCl [(h0, .inr (1, [.long (lN (ky_le f 0 4)), .long (lN (ky_le f 4 4)), .long (lN (ky_le f 20 4)), .long (lN (ky_le f 24 4)), .long (kv_size f), .long (lN (ky_le f 32 4)), .long (lN (ky_le f 40 4)), .long (lN (ky_le f 88 2)), .int (kv_few f), .long (kv_gc f), .long (kv_cb f), .long (kv_rk f)])), (h1, .inr (0, [.ref h2])), (h2, .inl (cB, 1024, .inl f))] H := hP
    have hD : va_D A [(h0, .inr (1, [.long (lN (ky_le f 0 4)), .long (lN (ky_le f 4 4)), .long (lN (ky_le f 20 4)), .long (lN (ky_le f 24 4)), .long (kv_size f), .long (lN (ky_le f 32 4)), .long (lN (ky_le f 40 4)), .long (lN (ky_le f 88 2)), .int (kv_few f), .long (kv_gc f), .long (kv_cb f), .long (kv_rk f)])), (h1, .inr (0, [.ref h2])), (h2, .inl (cB, 1024, .inl f))] := hD
    exact kf_vr hx hb hr hlocks (kf_poAt hP hD) hS d_Vol_readNumbers_172

set_option maxRecDepth 100000 in
set_option maxHeartbeats 4000000 in
theorem c_Vol_faultOfForm (l : Launch) (D : va_G) (cB cI : ClassId) (hz : Nat) (h0 : Nat) (fi : Int64) (bl : Int64) (fs : Int64) (sh : Int64) (zz : Int64) (gb : Int64) (gf : Int64) (rb : Int64) (fc : Int32) (gc : Int64) (cb : Int64) (rk : Int64) (h1 : Nat) (h2 : Nat) (f : Nat → Int32) : kf_Ct l y_Vol_faultOfForm w_Vol_faultOfForm 2 46 0 0 D (kT cB cI) [.ref h0, .ref h1] [(h0, .inr (1, [.long fi, .long bl, .long fs, .long sh, .long zz, .long gb, .long gf, .long rb, .int fc, .long gc, .long cb, .long rk])), (h1, .inr (0, [.ref h2])), (h2, .inl (cB, 1024, .inl f))] hz (some (.int (kv_form f sh fs))) (kf_po D [(h0, .inr (1, [.long fi, .long bl, .long fs, .long sh, .long zz, .long gb, .long gf, .long rb, .int fc, .long gc, .long cb, .long rk])), (h1, .inr (0, [.ref h2])), (h2, .inl (cB, 1024, .inl f))]) := by
  refine kf_of (cc := b_Vol_faultOfForm) (maxL := 2) (ret := (some .int)) (by decide) rfl (Nat.le_of_ble_eq_true rfl) ?_
  intro p e s m below meth c A H locs hx hb hr hml hown hts hlocks hin hP hD hS hA hE ls hl
  have hl : lv_has ls 2 [(0, .ref h0), (1, .ref h1)] := hl
  refine lv_aload_n hx hb d_Vol_faultOfForm_0 rfl (lv_at hl 1 rfl) ?_
  refine lv_bipush (v := 56) hx hb d_Vol_faultOfForm_1 (by decide) ?_
  refine lv_iconst (v := 2) hx hb d_Vol_faultOfForm_3 (by decide) ?_
  refine kf_ro hP hD hS hA [1, 2] rfl (va_runV (As := [.int 56, .int 2]) (rest := []) ⟨hx, hb, hml, hown, hts⟩ (c_Row_fieldL l D cB cI _ h1 h2 f 56 2 (by decide) (by decide)) ⟨callB_of 2 hts g_Row_field rfl rfl rfl (hts _ q1_2) (hts _ q1_109) h_Row_field ⟨Nat.le_of_ble_eq_true rfl, Nat.le_of_ble_eq_true rfl⟩, (hts _ q1_110), (hts _ q1_111)⟩ ⟨kf_bl, va_recv hE.1 hP (ci := 0) (q0 := 1) rfl rfl, kf_to hP hD hS hA hE [1, 2] rfl rfl⟩ rfl rfl hl.1 rfl (lv_room (Nat.le_of_ble_eq_true rfl)) d_Vol_faultOfForm_4 ⟨Nat.zero_le _, Nat.zero_le _⟩) (fun H locs hP hS => ?_)
  refine W.eq (g2 := F0 m 7 ls [.long (lN (ky_le f 56 2))]) rfl ?_
  refine lv_ldc2 (v := 61267) hx hb hown (hts _ q1_131) d_Vol_faultOfForm_7 ?_
  refine kf_lc_eq (tgt := 17) hx hb d_Vol_faultOfForm_10 d_Vol_faultOfForm_11 (by decide) (fun c10 => ?_) (fun c10 => ?_)
  · refine lv_aload_n hx hb d_Vol_faultOfForm_17 rfl (lv_at hl 1 rfl) ?_
    refine lv_bipush (v := 76) hx hb d_Vol_faultOfForm_18 (by decide) ?_
    refine lv_iconst (v := 4) hx hb d_Vol_faultOfForm_20 (by decide) ?_
    refine kf_ro hP hD hS hA [1, 2] rfl (va_runV (As := [.int 76, .int 4]) (rest := []) ⟨hx, hb, hml, hown, hts⟩ (c_Row_fieldL l D cB cI _ h1 h2 f 76 4 (by decide) (by decide)) ⟨callB_of 2 hts g_Row_field rfl rfl rfl (hts _ q1_2) (hts _ q1_109) h_Row_field ⟨Nat.le_of_ble_eq_true rfl, Nat.le_of_ble_eq_true rfl⟩, (hts _ q1_110), (hts _ q1_111)⟩ ⟨kf_bl, va_recv hE.1 hP (ci := 0) (q0 := 1) rfl rfl, kf_to hP hD hS hA hE [1, 2] rfl rfl⟩ rfl rfl hl.1 rfl (lv_room (Nat.le_of_ble_eq_true rfl)) d_Vol_faultOfForm_21 ⟨Nat.zero_le _, Nat.zero_le _⟩) (fun H locs hP hS => ?_)
    refine W.eq (g2 := F0 m 24 ls [.long (lN (ky_le f 76 4))]) rfl ?_
    refine lv_lconst (v := 1) hx hb d_Vol_faultOfForm_24 (by decide) ?_
    refine kf_lc_eq (tgt := 32) hx hb d_Vol_faultOfForm_25 d_Vol_faultOfForm_26 (by decide) (fun c25 => ?_) (fun c25 => ?_)
    · refine lv_aload_n hx hb d_Vol_faultOfForm_32 rfl (lv_at hl 0 rfl) ?_
      refine va_get (D := D) (ci := 1) (v := .long sh) (C := "FieldRows$Volume") (T := F_Vol) (N := 12) hx hb hts ku_Vol hown hE.1 hP 0 rfl rfl 3 (by decide) (hts _ q1_35) (fun _ h9 => h9) rfl d_Vol_faultOfForm_33 ?_
      refine lv_ldc2 (v := 2) hx hb hown (hts _ q1_132) d_Vol_faultOfForm_36 ?_
      refine kf_lc_le (tgt := 46) hx hb d_Vol_faultOfForm_39 d_Vol_faultOfForm_40 (by decide) (fun c39 => ?_) (fun c39 => ?_)
      · refine lv_aload_n hx hb d_Vol_faultOfForm_46 rfl (lv_at hl 1 rfl) ?_
        refine lv_bipush (v := 28) hx hb d_Vol_faultOfForm_47 (by decide) ?_
        refine lv_iconst (v := 4) hx hb d_Vol_faultOfForm_49 (by decide) ?_
        refine kf_ro hP hD hS hA [1, 2] rfl (va_runV (As := [.int 28, .int 4]) (rest := []) ⟨hx, hb, hml, hown, hts⟩ (c_Row_fieldL l D cB cI _ h1 h2 f 28 4 (by decide) (by decide)) ⟨callB_of 2 hts g_Row_field rfl rfl rfl (hts _ q1_2) (hts _ q1_109) h_Row_field ⟨Nat.le_of_ble_eq_true rfl, Nat.le_of_ble_eq_true rfl⟩, (hts _ q1_110), (hts _ q1_111)⟩ ⟨kf_bl, va_recv hE.1 hP (ci := 0) (q0 := 1) rfl rfl, kf_to hP hD hS hA hE [1, 2] rfl rfl⟩ rfl rfl hl.1 rfl (lv_room (Nat.le_of_ble_eq_true rfl)) d_Vol_faultOfForm_50 ⟨Nat.zero_le _, Nat.zero_le _⟩) (fun H locs hP hS => ?_)
        refine W.eq (g2 := F0 m 53 ls [.long (lN (ky_le f 28 4))]) rfl ?_
        refine lv_aload_n hx hb d_Vol_faultOfForm_53 rfl (lv_at hl 0 rfl) ?_
        refine va_get (D := D) (ci := 1) (v := .long sh) (C := "FieldRows$Volume") (T := F_Vol) (N := 12) hx hb hts ku_Vol hown hE.1 hP 0 rfl rfl 3 (by decide) (hts _ q1_35) (fun _ h9 => h9) rfl d_Vol_faultOfForm_54 ?_
        refine kf_lc_eq (tgt := 64) hx hb d_Vol_faultOfForm_57 d_Vol_faultOfForm_58 (by decide) (fun c57 => ?_) (fun c57 => ?_)
        · refine lv_aload_n hx hb d_Vol_faultOfForm_64 rfl (lv_at hl 0 rfl) ?_
          refine va_get (D := D) (ci := 1) (v := .long fs) (C := "FieldRows$Volume") (T := F_Vol) (N := 12) hx hb hts ku_Vol hown hE.1 hP 0 rfl rfl 2 (by decide) (hts _ q1_34) (fun _ h9 => h9) rfl d_Vol_faultOfForm_65 ?_
          refine lv_aload_n hx hb d_Vol_faultOfForm_68 rfl (lv_at hl 0 rfl) ?_
          refine va_get (D := D) (ci := 1) (v := .long sh) (C := "FieldRows$Volume") (T := F_Vol) (N := 12) hx hb hts ku_Vol hown hE.1 hP 0 rfl rfl 3 (by decide) (hts _ q1_35) (fun _ h9 => h9) rfl d_Vol_faultOfForm_69 ?_
          refine kf_ro hP hD hS hA [] rfl (va_runSN (As := [.long sh]) (rest := [.long fs]) ⟨hx, hb, hml, hown, hts⟩ (c_FR_firstFor l D cB cI _ sh) ⟨va_cnB 1 hts g_FR_firstFor rfl rfl rfl (hE.2.1 _ q1_133) (hts _ q1_1) h_FR_firstFor ⟨Nat.le_of_ble_eq_true rfl, Nat.le_of_ble_eq_true rfl⟩, (hts _ q1_103), trivial⟩ ⟨kf_bl, kf_to hP hD hS hA hE [] rfl rfl⟩ rfl rfl hl.1 rfl (lv_room (Nat.le_of_ble_eq_true rfl)) d_Vol_faultOfForm_72 ⟨Nat.zero_le _, Nat.zero_le _⟩) (fun H locs hP hS => ?_)
          refine W.eq (g2 := F0 m 75 ls [.int (kP (sh = 0)), .long fs]) rfl ?_
          refine lv_i2l hx hb d_Vol_faultOfForm_75 rfl ?_
          refine kf_lc_ne (tgt := 85) hx hb d_Vol_faultOfForm_76 d_Vol_faultOfForm_77 (by decide) (fun c76 => ?_) (fun c76 => ?_)
          · refine lv_bipush (v := 20) hx hb d_Vol_faultOfForm_85 (by decide) ?_
            exact kf_ir hx hb hr hlocks hP hD hS (by simp [kv_form, c10, c25, c39, c57, c76]) d_Vol_faultOfForm_87
          · refine lv_bipush (v := -2) hx hb d_Vol_faultOfForm_80 (by decide) ?_
            refine lv_goto (tgt := 87) hx hb d_Vol_faultOfForm_82 (by decide) ?_
            exact kf_ir hx hb hr hlocks hP hD hS (by simp [kv_form, c10, c25, c39, c57, c76]) d_Vol_faultOfForm_87
        · refine lv_bipush (v := 28) hx hb d_Vol_faultOfForm_61 (by decide) ?_
          exact kf_ir hx hb hr hlocks hP hD hS (by simp [kv_form, c10, c25, c39, c57]) d_Vol_faultOfForm_63
      · refine lv_bipush (v := 24) hx hb d_Vol_faultOfForm_43 (by decide) ?_
        exact kf_ir hx hb hr hlocks hP hD hS (by simp [kv_form, c10, c25, c39]) d_Vol_faultOfForm_45
    · refine lv_bipush (v := 76) hx hb d_Vol_faultOfForm_29 (by decide) ?_
      exact kf_ir hx hb hr hlocks hP hD hS (by simp [kv_form, c10, c25]) d_Vol_faultOfForm_31
  · refine lv_bipush (v := 56) hx hb d_Vol_faultOfForm_14 (by decide) ?_
    exact kf_ir hx hb hr hlocks hP hD hS (by simp [kv_form, c10]) d_Vol_faultOfForm_16

set_option maxRecDepth 100000 in
set_option maxHeartbeats 4000000 in
theorem c_Vol_faultOfGroupSizes (l : Launch) (D : va_G) (cB cI : ClassId) (hz : Nat) (h0 : Nat) (fi : Int64) (bl : Int64) (fs : Int64) (sh : Int64) (zz : Int64) (gb : Int64) (gf : Int64) (rb : Int64) (fc : Int32) (gc : Int64) (cb : Int64) (rk : Int64) (h1 : Nat) (h2 : Nat) (f : Nat → Int32) : kf_Ct l y_Vol_faultOfGroupSizes w_Vol_faultOfGroupSizes 2 46 0 0 D (kT cB cI) [.ref h0, .ref h1] [(h0, .inr (1, [.long fi, .long bl, .long fs, .long sh, .long zz, .long gb, .long gf, .long rb, .int fc, .long gc, .long cb, .long rk])), (h1, .inr (0, [.ref h2])), (h2, .inl (cB, 1024, .inl f))] hz (some (.int (kv_gs f zz gb rb gf rk))) (kf_po D [(h0, .inr (1, [.long fi, .long bl, .long fs, .long sh, .long zz, .long gb, .long gf, .long rb, .int fc, .long gc, .long cb, .long rk])), (h1, .inr (0, [.ref h2])), (h2, .inl (cB, 1024, .inl f))]) := by
  refine kf_of (cc := b_Vol_faultOfGroupSizes) (maxL := 5) (ret := (some .int)) (by decide) rfl (Nat.le_of_ble_eq_true rfl) ?_
  intro p e s m below meth c A H locs hx hb hr hml hown hts hlocks hin hP hD hS hA hE ls hl
  have hl : lv_has ls 5 [(0, .ref h0), (1, .ref h1)] := hl
  refine lv_ldc2 (v := 8) hx hb hown (hts _ q1_138) d_Vol_faultOfGroupSizes_0 ?_
  refine lv_aload_n hx hb d_Vol_faultOfGroupSizes_3 rfl (lv_at hl 0 rfl) ?_
  refine va_get (D := D) (ci := 1) (v := .long zz) (C := "FieldRows$Volume") (T := F_Vol) (N := 12) hx hb hts ku_Vol hown hE.1 hP 0 rfl rfl 4 (by decide) (hts _ q1_36) (fun _ h9 => h9) rfl d_Vol_faultOfGroupSizes_4 ?_
  refine lv_lmul hx hb d_Vol_faultOfGroupSizes_7 ?_
  refine lv_lstore_n (lv' := [(2, .long (8 * zz)), (0, .ref h0), (1, .ref h1)]) hx hb d_Vol_faultOfGroupSizes_8 rfl hl (by decide) rfl (fun ls hl => ?_)
  refine lv_aload_n hx hb d_Vol_faultOfGroupSizes_9 rfl (lv_at hl 1 rfl) ?_
  refine va_get (D := D) (ci := 1) (v := .long gb) (C := "FieldRows$Volume") (T := F_Vol) (N := 12) hx hb hts ku_Vol hown hE.1 hP 0 rfl rfl 5 (by decide) (hts _ q1_38) (fun _ h9 => h9) rfl d_Vol_faultOfGroupSizes_10 ?_
  refine lv_ldc2 (v := 64) hx hb hown (hts _ q1_139) d_Vol_faultOfGroupSizes_13 ?_
  refine lv_lload_n hx hb d_Vol_faultOfGroupSizes_16 rfl (lv_at hl 0 rfl) ?_
  refine kf_ro hP hD hS hA [] rfl (va_runSN (As := [.long gb, .long 64, .long (8 * zz)]) (rest := []) ⟨hx, hb, hml, hown, hts⟩ (c_FR_isEightfold l D cB cI _ gb 64 (8 * zz)) ⟨va_cnB 3 hts g_FR_isEightfold rfl rfl rfl (hE.2.1 _ q1_140) (hts _ q1_1) h_FR_isEightfold ⟨Nat.le_of_ble_eq_true rfl, Nat.le_of_ble_eq_true rfl⟩, (hts _ q1_141), trivial⟩ ⟨kf_bl, kf_to hP hD hS hA hE [] rfl rfl⟩ rfl rfl hl.1 rfl (lv_room (Nat.le_of_ble_eq_true rfl)) d_Vol_faultOfGroupSizes_17 ⟨Nat.zero_le _, Nat.zero_le _⟩) (fun H locs hP hS => ?_)
  refine W.eq (g2 := F0 m 20 ls [.int (kP (ky_e8P gb 64 (8 * zz)))]) rfl ?_
  refine lv_if_ne (tgt := 26) hx hb d_Vol_faultOfGroupSizes_20 (by decide) (fun c20 => ?_) (fun c20 => ?_)
  · refine lv_aload_n hx hb d_Vol_faultOfGroupSizes_26 rfl (lv_at hl 2 rfl) ?_
    refine lv_bipush (v := 36) hx hb d_Vol_faultOfGroupSizes_27 (by decide) ?_
    refine lv_iconst (v := 4) hx hb d_Vol_faultOfGroupSizes_29 (by decide) ?_
    refine kf_ro hP hD hS hA [1, 2] rfl (va_runV (As := [.int 36, .int 4]) (rest := []) ⟨hx, hb, hml, hown, hts⟩ (c_Row_fieldL l D cB cI _ h1 h2 f 36 4 (by decide) (by decide)) ⟨callB_of 2 hts g_Row_field rfl rfl rfl (hts _ q1_2) (hts _ q1_109) h_Row_field ⟨Nat.le_of_ble_eq_true rfl, Nat.le_of_ble_eq_true rfl⟩, (hts _ q1_110), (hts _ q1_111)⟩ ⟨kf_bl, va_recv hE.1 hP (ci := 0) (q0 := 1) rfl rfl, kf_to hP hD hS hA hE [1, 2] rfl rfl⟩ rfl rfl hl.1 rfl (lv_room (Nat.le_of_ble_eq_true rfl)) d_Vol_faultOfGroupSizes_30 ⟨Nat.zero_le _, Nat.zero_le _⟩) (fun H locs hP hS => ?_)
    refine W.eq (g2 := F0 m 33 ls [.long (lN (ky_le f 36 4))]) rfl ?_
    refine lv_aload_n hx hb d_Vol_faultOfGroupSizes_33 rfl (lv_at hl 1 rfl) ?_
    refine va_get (D := D) (ci := 1) (v := .long gb) (C := "FieldRows$Volume") (T := F_Vol) (N := 12) hx hb hts ku_Vol hown hE.1 hP 0 rfl rfl 5 (by decide) (hts _ q1_38) (fun _ h9 => h9) rfl d_Vol_faultOfGroupSizes_34 ?_
    refine kf_lc_eq (tgt := 44) hx hb d_Vol_faultOfGroupSizes_37 d_Vol_faultOfGroupSizes_38 (by decide) (fun c37 => ?_) (fun c37 => ?_)
    · refine lv_aload_n hx hb d_Vol_faultOfGroupSizes_44 rfl (lv_at hl 1 rfl) ?_
      refine va_get (D := D) (ci := 1) (v := .long rb) (C := "FieldRows$Volume") (T := F_Vol) (N := 12) hx hb hts ku_Vol hown hE.1 hP 0 rfl rfl 7 (by decide) (hts _ q1_41) (fun _ h9 => h9) rfl d_Vol_faultOfGroupSizes_45 ?_
      refine kf_ro hP hD hS hA [] rfl (va_runSN (As := [.long rb]) (rest := []) ⟨hx, hb, hml, hown, hts⟩ (c_FR_isRecordLength l D cB cI _ rb) ⟨va_cnB 1 hts g_FR_isRecordLength rfl rfl rfl (hE.2.1 _ q1_144) (hts _ q1_1) h_FR_isRecordLength ⟨Nat.le_of_ble_eq_true rfl, Nat.le_of_ble_eq_true rfl⟩, (hts _ q1_145), trivial⟩ ⟨kf_bl, kf_to hP hD hS hA hE [] rfl rfl⟩ rfl rfl hl.1 rfl (lv_room (Nat.le_of_ble_eq_true rfl)) d_Vol_faultOfGroupSizes_48 ⟨Nat.zero_le _, Nat.zero_le _⟩) (fun H locs hP hS => ?_)
      refine W.eq (g2 := F0 m 51 ls [.int (kP (ky_rlP rb))]) rfl ?_
      refine lv_if_ne (tgt := 57) hx hb d_Vol_faultOfGroupSizes_51 (by decide) (fun c51 => ?_) (fun c51 => ?_)
      · refine lv_aload_n hx hb d_Vol_faultOfGroupSizes_57 rfl (lv_at hl 1 rfl) ?_
        refine va_get (D := D) (ci := 1) (v := .long rk) (C := "FieldRows$Volume") (T := F_Vol) (N := 12) hx hb hts ku_Vol hown hE.1 hP 0 rfl rfl 11 (by decide) (hts _ q1_47) (fun _ h9 => h9) rfl d_Vol_faultOfGroupSizes_58 ?_
        refine lv_aload_n hx hb d_Vol_faultOfGroupSizes_61 rfl (lv_at hl 1 rfl) ?_
        refine va_get (D := D) (ci := 1) (v := .long zz) (C := "FieldRows$Volume") (T := F_Vol) (N := 12) hx hb hts ku_Vol hown hE.1 hP 0 rfl rfl 4 (by decide) (hts _ q1_36) (fun _ h9 => h9) rfl d_Vol_faultOfGroupSizes_62 ?_
        refine lv_lmul hx hb d_Vol_faultOfGroupSizes_65 ?_
        refine lv_aload_n hx hb d_Vol_faultOfGroupSizes_66 rfl (lv_at hl 1 rfl) ?_
        refine va_get (D := D) (ci := 1) (v := .long gf) (C := "FieldRows$Volume") (T := F_Vol) (N := 12) hx hb hts ku_Vol hown hE.1 hP 0 rfl rfl 6 (by decide) (hts _ q1_39) (fun _ h9 => h9) rfl d_Vol_faultOfGroupSizes_67 ?_
        refine lv_aload_n hx hb d_Vol_faultOfGroupSizes_70 rfl (lv_at hl 1 rfl) ?_
        refine va_get (D := D) (ci := 1) (v := .long rb) (C := "FieldRows$Volume") (T := F_Vol) (N := 12) hx hb hts ku_Vol hown hE.1 hP 0 rfl rfl 7 (by decide) (hts _ q1_41) (fun _ h9 => h9) rfl d_Vol_faultOfGroupSizes_71 ?_
        refine lv_lmul hx hb d_Vol_faultOfGroupSizes_74 ?_
        refine kf_lc_ne (tgt := 83) hx hb d_Vol_faultOfGroupSizes_75 d_Vol_faultOfGroupSizes_76 (by decide) (fun c75 => ?_) (fun c75 => ?_)
        · refine lv_iconst (v := 0) hx hb d_Vol_faultOfGroupSizes_83 (by decide) ?_
          refine lv_istore (lv' := [(4, .int 0), (2, .long (8 * zz)), (0, .ref h0), (1, .ref h1)]) hx hb d_Vol_faultOfGroupSizes_84 hl (by decide) rfl (fun ls hl => ?_)
          refine lv_aload_n hx hb d_Vol_faultOfGroupSizes_86 rfl (lv_at hl 2 rfl) ?_
          refine va_get (D := D) (ci := 1) (v := .long gf) (C := "FieldRows$Volume") (T := F_Vol) (N := 12) hx hb hts ku_Vol hown hE.1 hP 0 rfl rfl 6 (by decide) (hts _ q1_39) (fun _ h9 => h9) rfl d_Vol_faultOfGroupSizes_87 ?_
          refine lv_ldc2 (v := 16) hx hb hown (hts _ q1_151) d_Vol_faultOfGroupSizes_90 ?_
          refine lv_lload_n hx hb d_Vol_faultOfGroupSizes_93 rfl (lv_at hl 1 rfl) ?_
          refine kf_ro hP hD hS hA [] rfl (va_runSN (As := [.long gf, .long 16, .long (8 * zz)]) (rest := []) ⟨hx, hb, hml, hown, hts⟩ (c_FR_isEightfold l D cB cI _ gf 16 (8 * zz)) ⟨va_cnB 3 hts g_FR_isEightfold rfl rfl rfl (hE.2.1 _ q1_140) (hts _ q1_1) h_FR_isEightfold ⟨Nat.le_of_ble_eq_true rfl, Nat.le_of_ble_eq_true rfl⟩, (hts _ q1_141), trivial⟩ ⟨kf_bl, kf_to hP hD hS hA hE [] rfl rfl⟩ rfl rfl hl.1 rfl (lv_room (Nat.le_of_ble_eq_true rfl)) d_Vol_faultOfGroupSizes_94 ⟨Nat.zero_le _, Nat.zero_le _⟩) (fun H locs hP hS => ?_)
          refine W.eq (g2 := F0 m 97 ls [.int (kP (ky_e8P gf 16 (8 * zz)))]) rfl ?_
          refine lv_if_eq (tgt := 110) hx hb d_Vol_faultOfGroupSizes_97 (by decide) (fun c97 => ?_) (fun c97 => ?_)
          · refine lv_bipush (v := 40) hx hb d_Vol_faultOfGroupSizes_110 (by decide) ?_
            have h20 := by first | exact kP_ne c20 | exact kP_eq c20
            have h51 := by first | exact kP_ne c51 | exact kP_eq c51
            have h97 := by first | exact kP_ne c97 | exact kP_eq c97
            exact kf_ir hx hb hr hlocks hP hD hS (by unfold kv_gs; grind) d_Vol_faultOfGroupSizes_112
          · refine lv_iload hx hb d_Vol_faultOfGroupSizes_100 (lv_at hl 0 rfl) ?_
            refine lv_if_eq (tgt := 110) hx hb d_Vol_faultOfGroupSizes_102 (by decide) (fun c102 => ?_) (fun c102 => absurd rfl c102)
            refine lv_bipush (v := 40) hx hb d_Vol_faultOfGroupSizes_110 (by decide) ?_
            have h20 := by first | exact kP_ne c20 | exact kP_eq c20
            have h51 := by first | exact kP_ne c51 | exact kP_eq c51
            have h97 := by first | exact kP_ne c97 | exact kP_eq c97
            exact kf_ir hx hb hr hlocks hP hD hS (by unfold kv_gs; grind) d_Vol_faultOfGroupSizes_112
        · refine lv_iconst (v := 1) hx hb d_Vol_faultOfGroupSizes_79 (by decide) ?_
          refine lv_goto (tgt := 84) hx hb d_Vol_faultOfGroupSizes_80 (by decide) ?_
          refine lv_istore (lv' := [(4, .int 1), (2, .long (8 * zz)), (0, .ref h0), (1, .ref h1)]) hx hb d_Vol_faultOfGroupSizes_84 hl (by decide) rfl (fun ls hl => ?_)
          refine lv_aload_n hx hb d_Vol_faultOfGroupSizes_86 rfl (lv_at hl 2 rfl) ?_
          refine va_get (D := D) (ci := 1) (v := .long gf) (C := "FieldRows$Volume") (T := F_Vol) (N := 12) hx hb hts ku_Vol hown hE.1 hP 0 rfl rfl 6 (by decide) (hts _ q1_39) (fun _ h9 => h9) rfl d_Vol_faultOfGroupSizes_87 ?_
          refine lv_ldc2 (v := 16) hx hb hown (hts _ q1_151) d_Vol_faultOfGroupSizes_90 ?_
          refine lv_lload_n hx hb d_Vol_faultOfGroupSizes_93 rfl (lv_at hl 1 rfl) ?_
          refine kf_ro hP hD hS hA [] rfl (va_runSN (As := [.long gf, .long 16, .long (8 * zz)]) (rest := []) ⟨hx, hb, hml, hown, hts⟩ (c_FR_isEightfold l D cB cI _ gf 16 (8 * zz)) ⟨va_cnB 3 hts g_FR_isEightfold rfl rfl rfl (hE.2.1 _ q1_140) (hts _ q1_1) h_FR_isEightfold ⟨Nat.le_of_ble_eq_true rfl, Nat.le_of_ble_eq_true rfl⟩, (hts _ q1_141), trivial⟩ ⟨kf_bl, kf_to hP hD hS hA hE [] rfl rfl⟩ rfl rfl hl.1 rfl (lv_room (Nat.le_of_ble_eq_true rfl)) d_Vol_faultOfGroupSizes_94 ⟨Nat.zero_le _, Nat.zero_le _⟩) (fun H locs hP hS => ?_)
          refine W.eq (g2 := F0 m 97 ls [.int (kP (ky_e8P gf 16 (8 * zz)))]) rfl ?_
          refine lv_if_eq (tgt := 110) hx hb d_Vol_faultOfGroupSizes_97 (by decide) (fun c97 => ?_) (fun c97 => ?_)
          · refine lv_bipush (v := 40) hx hb d_Vol_faultOfGroupSizes_110 (by decide) ?_
            have h20 := by first | exact kP_ne c20 | exact kP_eq c20
            have h51 := by first | exact kP_ne c51 | exact kP_eq c51
            have h97 := by first | exact kP_ne c97 | exact kP_eq c97
            exact kf_ir hx hb hr hlocks hP hD hS (by unfold kv_gs; grind) d_Vol_faultOfGroupSizes_112
          · refine lv_iload hx hb d_Vol_faultOfGroupSizes_100 (lv_at hl 0 rfl) ?_
            refine lv_if_eq (tgt := 110) hx hb d_Vol_faultOfGroupSizes_102 (by decide) (fun c102 => absurd c102 (by decide)) (fun c102 => ?_)
            refine lv_bipush (v := -2) hx hb d_Vol_faultOfGroupSizes_105 (by decide) ?_
            refine lv_goto (tgt := 112) hx hb d_Vol_faultOfGroupSizes_107 (by decide) ?_
            have h20 := by first | exact kP_ne c20 | exact kP_eq c20
            have h51 := by first | exact kP_ne c51 | exact kP_eq c51
            have h97 := by first | exact kP_ne c97 | exact kP_eq c97
            exact kf_ir hx hb hr hlocks hP hD hS (by unfold kv_gs; grind) d_Vol_faultOfGroupSizes_112
      · refine lv_bipush (v := 88) hx hb d_Vol_faultOfGroupSizes_54 (by decide) ?_
        have h20 := by first | exact kP_ne c20 | exact kP_eq c20
        have h51 := by first | exact kP_ne c51 | exact kP_eq c51
        exact kf_ir hx hb hr hlocks hP hD hS (by unfold kv_gs; grind) d_Vol_faultOfGroupSizes_56
    · refine lv_bipush (v := 36) hx hb d_Vol_faultOfGroupSizes_41 (by decide) ?_
      have h20 := by first | exact kP_ne c20 | exact kP_eq c20
      exact kf_ir hx hb hr hlocks hP hD hS (by unfold kv_gs; grind) d_Vol_faultOfGroupSizes_43
  · refine lv_bipush (v := 32) hx hb d_Vol_faultOfGroupSizes_23 (by decide) ?_
    have h20 := by first | exact kP_ne c20 | exact kP_eq c20
    exact kf_ir hx hb hr hlocks hP hD hS (by unfold kv_gs; grind) d_Vol_faultOfGroupSizes_25

set_option maxRecDepth 100000 in
set_option maxHeartbeats 4000000 in
theorem c_Vol_everyGroupHasRoom (l : Launch) (D : va_G) (cB cI : ClassId) (hz : Nat) (h0 : Nat) (fi : Int64) (bl : Int64) (fs : Int64) (sh : Int64) (zz : Int64) (gb : Int64) (gf : Int64) (rb : Int64) (fc : Int32) (gc : Int64) (cb : Int64) (rk : Int64) : kf_Ct l y_Vol_everyGroupHasRoom w_Vol_everyGroupHasRoom 3 67 0 0 D (kT cB cI) [.ref h0] [(h0, .inr (1, [.long fi, .long bl, .long fs, .long sh, .long zz, .long gb, .long gf, .long rb, .int fc, .long gc, .long cb, .long rk]))] hz (some (.int (kP (kv_rmP bl fs gb gc cb rk fc)))) (kf_po D [(h0, .inr (1, [.long fi, .long bl, .long fs, .long sh, .long zz, .long gb, .long gf, .long rb, .int fc, .long gc, .long cb, .long rk]))]) := by
  refine kf_of (cc := b_Vol_everyGroupHasRoom) (maxL := 2) (ret := (some .boolean)) (by decide) rfl (Nat.le_of_ble_eq_true rfl) ?_
  intro p e s m below meth c A H locs hx hb hr hml hown hts hlocks hin hP hD hS hA hE ls hl
  have hl : lv_has ls 2 [(0, .ref h0)] := hl
  refine lv_aload_n hx hb d_Vol_everyGroupHasRoom_0 rfl (lv_at hl 0 rfl) ?_
  refine va_get (D := D) (ci := 1) (v := .long bl) (C := "FieldRows$Volume") (T := F_Vol) (N := 12) hx hb hts ku_Vol hown hE.1 hP 0 rfl rfl 1 (by decide) (hts _ q1_33) (fun _ h9 => h9) rfl d_Vol_everyGroupHasRoom_1 ?_
  refine lv_aload_n hx hb d_Vol_everyGroupHasRoom_4 rfl (lv_at hl 0 rfl) ?_
  refine va_get (D := D) (ci := 1) (v := .long fs) (C := "FieldRows$Volume") (T := F_Vol) (N := 12) hx hb hts ku_Vol hown hE.1 hP 0 rfl rfl 2 (by decide) (hts _ q1_34) (fun _ h9 => h9) rfl d_Vol_everyGroupHasRoom_5 ?_
  refine kf_lc_le (tgt := 34) hx hb d_Vol_everyGroupHasRoom_8 d_Vol_everyGroupHasRoom_9 (by decide) (fun c8 => ?_) (fun c8 => ?_)
  · refine lv_iconst (v := 0) hx hb d_Vol_everyGroupHasRoom_34 (by decide) ?_
    exact kf_zr hx hb hr hlocks hP hD hS (kP_f (by grind)) (kP_nar) d_Vol_everyGroupHasRoom_35
  · refine lv_aload_n hx hb d_Vol_everyGroupHasRoom_12 rfl (lv_at hl 0 rfl) ?_
    refine va_get (D := D) (ci := 1) (v := .long bl) (C := "FieldRows$Volume") (T := F_Vol) (N := 12) hx hb hts ku_Vol hown hE.1 hP 0 rfl rfl 1 (by decide) (hts _ q1_33) (fun _ h9 => h9) rfl d_Vol_everyGroupHasRoom_13 ?_
    refine lv_ldc2 (v := 16777216) hx hb hown (hts _ q1_156) d_Vol_everyGroupHasRoom_16 ?_
    refine kf_lc_gt (tgt := 34) hx hb d_Vol_everyGroupHasRoom_19 d_Vol_everyGroupHasRoom_20 (by decide) (fun c19 => ?_) (fun c19 => ?_)
    · refine lv_iconst (v := 0) hx hb d_Vol_everyGroupHasRoom_34 (by decide) ?_
      exact kf_zr hx hb hr hlocks hP hD hS (kP_f (by grind)) (kP_nar) d_Vol_everyGroupHasRoom_35
    · refine lv_aload_n hx hb d_Vol_everyGroupHasRoom_23 rfl (lv_at hl 0 rfl) ?_
      refine va_get (D := D) (ci := 1) (v := .long gc) (C := "FieldRows$Volume") (T := F_Vol) (N := 12) hx hb hts ku_Vol hown hE.1 hP 0 rfl rfl 9 (by decide) (hts _ q1_44) (fun _ h9 => h9) rfl d_Vol_everyGroupHasRoom_24 ?_
      refine lv_ldc2 (v := 64) hx hb hown (hts _ q1_139) d_Vol_everyGroupHasRoom_27 ?_
      refine kf_lc_le (tgt := 36) hx hb d_Vol_everyGroupHasRoom_30 d_Vol_everyGroupHasRoom_31 (by decide) (fun c30 => ?_) (fun c30 => ?_)
      · refine lv_iconst (v := 0) hx hb d_Vol_everyGroupHasRoom_36 (by decide) ?_
        refine kf_ti (y := nI 0) (rfl) ?_
        refine lv_istore_n (lv' := [(1, .int (nI 0)), (0, .ref h0)]) hx hb d_Vol_everyGroupHasRoom_37 rfl hl (by decide) rfl (fun ls hl => ?_)
        have h64 := kv_64 c30
        refine kf_loop (σ := Nat) (fun k ls H locs => (k ≤ 64) ∧ (∀ j, j < k → ky_bc fc cb (lN j) + 2 + rk < ky_min gb (bl - (fs + lN j * gb))) ∧ lv_has ls 2 [(1, .int (nI k)), (0, .ref h0)] ∧ va_P D vwCl [(h0, .inr (1, [.long fi, .long bl, .long fs, .long sh, .long zz, .long gb, .long gf, .long rb, .int fc, .long gc, .long cb, .long rk]))] H ∧ va_D A [(h0, .inr (1, [.long fi, .long bl, .long fs, .long sh, .long zz, .long gb, .long gf, .long rb, .int fc, .long gc, .long cb, .long rk]))] ∧ va_S A s.heap H locs) (fun k => 64 - k) 0 ⟨Nat.zero_le _, fun j hj => absurd hj (Nat.not_lt_zero j), lv_sub hl [0, 1] rfl, hP, hD, hS⟩ (fun k ls H locs hI ih => ?_)
        obtain ⟨hk, hno, hl, hP, hD, hS⟩ := hI
        refine lv_iload_n hx hb d_Vol_everyGroupHasRoom_38 rfl (lv_at hl 0 rfl) ?_
        refine lv_i2l hx hb d_Vol_everyGroupHasRoom_39 rfl ?_
        refine kf_tl (y := lN k) (nI_l (by omega)) ?_
        refine lv_aload_n hx hb d_Vol_everyGroupHasRoom_40 rfl (lv_at hl 1 rfl) ?_
        refine va_get (D := D) (ci := 1) (v := .long gc) (C := "FieldRows$Volume") (T := F_Vol) (N := 12) hx hb hts ku_Vol hown hE.1 hP 0 rfl rfl 9 (by decide) (hts _ q1_44) (fun _ h9 => h9) rfl d_Vol_everyGroupHasRoom_41 ?_
        refine kf_lc_ge (tgt := 72) hx hb d_Vol_everyGroupHasRoom_44 d_Vol_everyGroupHasRoom_45 (by decide) (fun c44 => ?_) (fun c44 => ?_)
        · refine lv_iconst (v := 1) hx hb d_Vol_everyGroupHasRoom_72 (by decide) ?_
          exact kf_zr hx hb hr hlocks hP hD hS (kP_t ⟨c8, c19, c30, fun j hj => hno j (Nat.lt_of_lt_of_le hj ((kv_le (by omega)).mp c44))⟩) (kP_nar) d_Vol_everyGroupHasRoom_73
        · have hkg : k < gc.toInt.toNat := Nat.lt_of_not_le (fun q => c44 ((kv_le (by omega)).mpr q))
          refine lv_aload_n hx hb d_Vol_everyGroupHasRoom_48 rfl (lv_at hl 1 rfl) ?_
          refine lv_iload_n hx hb d_Vol_everyGroupHasRoom_49 rfl (lv_at hl 0 rfl) ?_
          refine lv_i2l hx hb d_Vol_everyGroupHasRoom_50 rfl ?_
          refine kf_tl (y := lN k) (nI_l (by omega)) ?_
          refine kf_ro hP hD hS hA [0] rfl (va_runV (As := [.long (lN k)]) (rest := []) ⟨hx, hb, hml, hown, hts⟩ (c_Vol_groupLength l D cB cI _ h0 fi bl fs sh zz gb gf rb fc gc cb rk (lN k)) ⟨callB_of 1 hts g_Vol_groupLength rfl rfl rfl (hts _ q1_3) (hts _ q1_157) h_Vol_groupLength ⟨Nat.le_of_ble_eq_true rfl, Nat.le_of_ble_eq_true rfl⟩, (hts _ q1_158), (hts _ q1_159)⟩ ⟨kf_bl, va_recv hE.1 hP (ci := 1) (q0 := 0) rfl rfl, kf_to hP hD hS hA hE [0] rfl rfl⟩ rfl rfl hl.1 rfl (lv_room (Nat.le_of_ble_eq_true rfl)) d_Vol_everyGroupHasRoom_51 ⟨Nat.zero_le _, Nat.zero_le _⟩) (fun H locs hP hS => ?_)
          refine W.eq (g2 := F0 m 54 ls [.long (ky_min gb (bl - (fs + (lN k) * gb)))]) rfl ?_
          refine lv_aload_n hx hb d_Vol_everyGroupHasRoom_54 rfl (lv_at hl 1 rfl) ?_
          refine lv_iload_n hx hb d_Vol_everyGroupHasRoom_55 rfl (lv_at hl 0 rfl) ?_
          refine lv_i2l hx hb d_Vol_everyGroupHasRoom_56 rfl ?_
          refine kf_tl (y := lN k) (nI_l (by omega)) ?_
          refine kf_ro hP hD hS hA [0] rfl (va_runV (As := [.long (lN k)]) (rest := [.long (ky_min gb (bl - (fs + (lN k) * gb)))]) ⟨hx, hb, hml, hown, hts⟩ (c_Vol_fixedBlocks l D cB cI _ h0 fi bl fs sh zz gb gf rb fc gc cb rk (lN k)) ⟨callB_of 1 hts g_Vol_fixedBlocks rfl rfl rfl (hts _ q1_3) (hts _ q1_168) h_Vol_fixedBlocks ⟨Nat.le_of_ble_eq_true rfl, Nat.le_of_ble_eq_true rfl⟩, (hts _ q1_169), (hts _ q1_170)⟩ ⟨kf_bl, va_recv hE.1 hP (ci := 1) (q0 := 0) rfl rfl, kf_to hP hD hS hA hE [0] rfl rfl⟩ rfl rfl hl.1 rfl (lv_room (Nat.le_of_ble_eq_true rfl)) d_Vol_everyGroupHasRoom_57 ⟨Nat.zero_le _, Nat.zero_le _⟩) (fun H locs hP hS => ?_)
          refine W.eq (g2 := F0 m 60 ls [.long (ky_bc fc cb (lN k) + 2 + rk), .long (ky_min gb (bl - (fs + (lN k) * gb)))]) rfl ?_
          refine kf_lc_gt (tgt := 66) hx hb d_Vol_everyGroupHasRoom_60 d_Vol_everyGroupHasRoom_61 (by decide) (fun c60 => ?_) (fun c60 => ?_)
          · refine lv_iinc (v := nI (k + 1)) (lv' := [(1, .int (nI (k + 1))), (0, .ref h0)]) hx hb d_Vol_everyGroupHasRoom_66 hl (k := 0) rfl ((nI_succ k).symm) (by decide) rfl (fun ls hl => ?_)
            refine lv_goto (tgt := 38) hx hb d_Vol_everyGroupHasRoom_69 (by decide) ?_
            exact ih (k + 1) _ _ _ (by omega) ⟨by omega, fun j hj => by rcases (show j < k ∨ j = k by omega) with q | rfl; exact hno j q; exact c60, lv_sub hl [0, 1] rfl, hP, hD, hS⟩
          · refine lv_iconst (v := 0) hx hb d_Vol_everyGroupHasRoom_64 (by decide) ?_
            exact kf_zr hx hb hr hlocks hP hD hS (kP_f (fun q => c60 (q.2.2.2 k hkg))) (kP_nar) d_Vol_everyGroupHasRoom_65
      · refine lv_iconst (v := 0) hx hb d_Vol_everyGroupHasRoom_34 (by decide) ?_
        exact kf_zr hx hb hr hlocks hP hD hS (kP_f (by grind)) (kP_nar) d_Vol_everyGroupHasRoom_35

set_option maxRecDepth 100000 in
set_option maxHeartbeats 4000000 in
theorem c_Vol_faultOfCounts (l : Launch) (D : va_G) (cB cI : ClassId) (hz : Nat) (h0 : Nat) (fi : Int64) (bl : Int64) (fs : Int64) (sh : Int64) (zz : Int64) (gb : Int64) (gf : Int64) (rb : Int64) (fc : Int32) (gc : Int64) (cb : Int64) (rk : Int64) (h1 : Nat) (h2 : Nat) (f : Nat → Int32) : kf_Ct l y_Vol_faultOfCounts w_Vol_faultOfCounts 2 46 0 0 D (kT cB cI) [.ref h0, .ref h1] [(h0, .inr (1, [.long fi, .long bl, .long fs, .long sh, .long zz, .long gb, .long gf, .long rb, .int fc, .long gc, .long cb, .long rk])), (h1, .inr (0, [.ref h2])), (h2, .inl (cB, 1024, .inl f))] hz (some (.int (kv_ct f fi bl gf gc fc))) (kf_po D [(h0, .inr (1, [.long fi, .long bl, .long fs, .long sh, .long zz, .long gb, .long gf, .long rb, .int fc, .long gc, .long cb, .long rk])), (h1, .inr (0, [.ref h2])), (h2, .inl (cB, 1024, .inl f))]) := by
  refine kf_of (cc := b_Vol_faultOfCounts) (maxL := 8) (ret := (some .int)) (by decide) rfl (Nat.le_of_ble_eq_true rfl) ?_
  intro p e s m below meth c A H locs hx hb hr hml hown hts hlocks hin hP hD hS hA hE ls hl
  have hl : lv_has ls 8 [(0, .ref h0), (1, .ref h1)] := hl
  refine lv_aload_n hx hb d_Vol_faultOfCounts_0 rfl (lv_at hl 0 rfl) ?_
  refine va_get (D := D) (ci := 1) (v := .long fi) (C := "FieldRows$Volume") (T := F_Vol) (N := 12) hx hb hts ku_Vol hown hE.1 hP 0 rfl rfl 0 (by decide) (hts _ q1_31) (fun _ h9 => h9) rfl d_Vol_faultOfCounts_1 ?_
  refine lv_aload_n hx hb d_Vol_faultOfCounts_4 rfl (lv_at hl 0 rfl) ?_
  refine va_get (D := D) (ci := 1) (v := .long gc) (C := "FieldRows$Volume") (T := F_Vol) (N := 12) hx hb hts ku_Vol hown hE.1 hP 0 rfl rfl 9 (by decide) (hts _ q1_44) (fun _ h9 => h9) rfl d_Vol_faultOfCounts_5 ?_
  refine lv_aload_n hx hb d_Vol_faultOfCounts_8 rfl (lv_at hl 0 rfl) ?_
  refine va_get (D := D) (ci := 1) (v := .long gf) (C := "FieldRows$Volume") (T := F_Vol) (N := 12) hx hb hts ku_Vol hown hE.1 hP 0 rfl rfl 6 (by decide) (hts _ q1_39) (fun _ h9 => h9) rfl d_Vol_faultOfCounts_9 ?_
  refine lv_lmul hx hb d_Vol_faultOfCounts_12 ?_
  refine kf_lc_eq (tgt := 19) hx hb d_Vol_faultOfCounts_13 d_Vol_faultOfCounts_14 (by decide) (fun c13 => ?_) (fun c13 => ?_)
  · refine lv_aload_n hx hb d_Vol_faultOfCounts_19 rfl (lv_at hl 1 rfl) ?_
    refine lv_bipush (v := 8) hx hb d_Vol_faultOfCounts_20 (by decide) ?_
    refine lv_iconst (v := 4) hx hb d_Vol_faultOfCounts_22 (by decide) ?_
    refine kf_ro hP hD hS hA [1, 2] rfl (va_runV (As := [.int 8, .int 4]) (rest := []) ⟨hx, hb, hml, hown, hts⟩ (c_Row_fieldL l D cB cI _ h1 h2 f 8 4 (by decide) (by decide)) ⟨callB_of 2 hts g_Row_field rfl rfl rfl (hts _ q1_2) (hts _ q1_109) h_Row_field ⟨Nat.le_of_ble_eq_true rfl, Nat.le_of_ble_eq_true rfl⟩, (hts _ q1_110), (hts _ q1_111)⟩ ⟨kf_bl, va_recv hE.1 hP (ci := 0) (q0 := 1) rfl rfl, kf_to hP hD hS hA hE [1, 2] rfl rfl⟩ rfl rfl hl.1 rfl (lv_room (Nat.le_of_ble_eq_true rfl)) d_Vol_faultOfCounts_23 ⟨Nat.zero_le _, Nat.zero_le _⟩) (fun H locs hP hS => ?_)
    refine W.eq (g2 := F0 m 26 ls [.long (lN (ky_le f 8 4))]) rfl ?_
    refine lv_aload_n hx hb d_Vol_faultOfCounts_26 rfl (lv_at hl 0 rfl) ?_
    refine va_get (D := D) (ci := 1) (v := .long bl) (C := "FieldRows$Volume") (T := F_Vol) (N := 12) hx hb hts ku_Vol hown hE.1 hP 0 rfl rfl 1 (by decide) (hts _ q1_33) (fun _ h9 => h9) rfl d_Vol_faultOfCounts_27 ?_
    refine kf_lc_le (tgt := 37) hx hb d_Vol_faultOfCounts_30 d_Vol_faultOfCounts_31 (by decide) (fun c30 => ?_) (fun c30 => ?_)
    · refine lv_aload_n hx hb d_Vol_faultOfCounts_37 rfl (lv_at hl 1 rfl) ?_
      refine lv_bipush (v := 12) hx hb d_Vol_faultOfCounts_38 (by decide) ?_
      refine lv_iconst (v := 4) hx hb d_Vol_faultOfCounts_40 (by decide) ?_
      refine kf_ro hP hD hS hA [1, 2] rfl (va_runV (As := [.int 12, .int 4]) (rest := []) ⟨hx, hb, hml, hown, hts⟩ (c_Row_fieldL l D cB cI _ h1 h2 f 12 4 (by decide) (by decide)) ⟨callB_of 2 hts g_Row_field rfl rfl rfl (hts _ q1_2) (hts _ q1_109) h_Row_field ⟨Nat.le_of_ble_eq_true rfl, Nat.le_of_ble_eq_true rfl⟩, (hts _ q1_110), (hts _ q1_111)⟩ ⟨kf_bl, va_recv hE.1 hP (ci := 0) (q0 := 1) rfl rfl, kf_to hP hD hS hA hE [1, 2] rfl rfl⟩ rfl rfl hl.1 rfl (lv_room (Nat.le_of_ble_eq_true rfl)) d_Vol_faultOfCounts_41 ⟨Nat.zero_le _, Nat.zero_le _⟩) (fun H locs hP hS => ?_)
      refine W.eq (g2 := F0 m 44 ls [.long (lN (ky_le f 12 4))]) rfl ?_
      refine lv_aload_n hx hb d_Vol_faultOfCounts_44 rfl (lv_at hl 0 rfl) ?_
      refine va_get (D := D) (ci := 1) (v := .long bl) (C := "FieldRows$Volume") (T := F_Vol) (N := 12) hx hb hts ku_Vol hown hE.1 hP 0 rfl rfl 1 (by decide) (hts _ q1_33) (fun _ h9 => h9) rfl d_Vol_faultOfCounts_45 ?_
      refine kf_lc_le (tgt := 55) hx hb d_Vol_faultOfCounts_48 d_Vol_faultOfCounts_49 (by decide) (fun c48 => ?_) (fun c48 => ?_)
      · refine lv_aload_n hx hb d_Vol_faultOfCounts_55 rfl (lv_at hl 1 rfl) ?_
        refine lv_bipush (v := 16) hx hb d_Vol_faultOfCounts_56 (by decide) ?_
        refine lv_iconst (v := 4) hx hb d_Vol_faultOfCounts_58 (by decide) ?_
        refine kf_ro hP hD hS hA [1, 2] rfl (va_runV (As := [.int 16, .int 4]) (rest := []) ⟨hx, hb, hml, hown, hts⟩ (c_Row_fieldL l D cB cI _ h1 h2 f 16 4 (by decide) (by decide)) ⟨callB_of 2 hts g_Row_field rfl rfl rfl (hts _ q1_2) (hts _ q1_109) h_Row_field ⟨Nat.le_of_ble_eq_true rfl, Nat.le_of_ble_eq_true rfl⟩, (hts _ q1_110), (hts _ q1_111)⟩ ⟨kf_bl, va_recv hE.1 hP (ci := 0) (q0 := 1) rfl rfl, kf_to hP hD hS hA hE [1, 2] rfl rfl⟩ rfl rfl hl.1 rfl (lv_room (Nat.le_of_ble_eq_true rfl)) d_Vol_faultOfCounts_59 ⟨Nat.zero_le _, Nat.zero_le _⟩) (fun H locs hP hS => ?_)
        refine W.eq (g2 := F0 m 62 ls [.long (lN (ky_le f 16 4))]) rfl ?_
        refine lv_aload_n hx hb d_Vol_faultOfCounts_62 rfl (lv_at hl 0 rfl) ?_
        refine va_get (D := D) (ci := 1) (v := .long fi) (C := "FieldRows$Volume") (T := F_Vol) (N := 12) hx hb hts ku_Vol hown hE.1 hP 0 rfl rfl 0 (by decide) (hts _ q1_31) (fun _ h9 => h9) rfl d_Vol_faultOfCounts_63 ?_
        refine kf_lc_le (tgt := 73) hx hb d_Vol_faultOfCounts_66 d_Vol_faultOfCounts_67 (by decide) (fun c66 => ?_) (fun c66 => ?_)
        · refine lv_aload_n hx hb d_Vol_faultOfCounts_73 rfl (lv_at hl 1 rfl) ?_
          refine lv_bipush (v := 58) hx hb d_Vol_faultOfCounts_74 (by decide) ?_
          refine lv_iconst (v := 2) hx hb d_Vol_faultOfCounts_76 (by decide) ?_
          refine kf_ro hP hD hS hA [1, 2] rfl (va_runV (As := [.int 58, .int 2]) (rest := []) ⟨hx, hb, hml, hown, hts⟩ (c_Row_fieldL l D cB cI _ h1 h2 f 58 2 (by decide) (by decide)) ⟨callB_of 2 hts g_Row_field rfl rfl rfl (hts _ q1_2) (hts _ q1_109) h_Row_field ⟨Nat.le_of_ble_eq_true rfl, Nat.le_of_ble_eq_true rfl⟩, (hts _ q1_110), (hts _ q1_111)⟩ ⟨kf_bl, va_recv hE.1 hP (ci := 0) (q0 := 1) rfl rfl, kf_to hP hD hS hA hE [1, 2] rfl rfl⟩ rfl rfl hl.1 rfl (lv_room (Nat.le_of_ble_eq_true rfl)) d_Vol_faultOfCounts_77 ⟨Nat.zero_le _, Nat.zero_le _⟩) (fun H locs hP hS => ?_)
          refine W.eq (g2 := F0 m 80 ls [.long (lN (ky_le f 58 2))]) rfl ?_
          refine lv_lstore_n (lv' := [(2, .long (lN (ky_le f 58 2))), (0, .ref h0), (1, .ref h1)]) hx hb d_Vol_faultOfCounts_80 rfl hl (by decide) rfl (fun ls hl => ?_)
          refine lv_lload_n hx hb d_Vol_faultOfCounts_81 rfl (lv_at hl 0 rfl) ?_
          refine lv_lconst (v := 1) hx hb d_Vol_faultOfCounts_82 (by decide) ?_
          refine kf_lc_eq (tgt := 98) hx hb d_Vol_faultOfCounts_83 d_Vol_faultOfCounts_84 (by decide) (fun c83 => ?_) (fun c83 => ?_)
          · refine lv_aload_n hx hb d_Vol_faultOfCounts_98 rfl (lv_at hl 2 rfl) ?_
            refine lv_bipush (v := 84) hx hb d_Vol_faultOfCounts_99 (by decide) ?_
            refine lv_iconst (v := 4) hx hb d_Vol_faultOfCounts_101 (by decide) ?_
            refine kf_ro hP hD hS hA [1, 2] rfl (va_runV (As := [.int 84, .int 4]) (rest := []) ⟨hx, hb, hml, hown, hts⟩ (c_Row_fieldL l D cB cI _ h1 h2 f 84 4 (by decide) (by decide)) ⟨callB_of 2 hts g_Row_field rfl rfl rfl (hts _ q1_2) (hts _ q1_109) h_Row_field ⟨Nat.le_of_ble_eq_true rfl, Nat.le_of_ble_eq_true rfl⟩, (hts _ q1_110), (hts _ q1_111)⟩ ⟨kf_bl, va_recv hE.1 hP (ci := 0) (q0 := 1) rfl rfl, kf_to hP hD hS hA hE [1, 2] rfl rfl⟩ rfl rfl hl.1 rfl (lv_room (Nat.le_of_ble_eq_true rfl)) d_Vol_faultOfCounts_102 ⟨Nat.zero_le _, Nat.zero_le _⟩) (fun H locs hP hS => ?_)
            refine W.eq (g2 := F0 m 105 ls [.long (lN (ky_le f 84 4))]) rfl ?_
            refine lv_lstore (lv' := [(4, .long (lN (ky_le f 84 4))), (2, .long (lN (ky_le f 58 2))), (0, .ref h0), (1, .ref h1)]) hx hb d_Vol_faultOfCounts_105 hl (by decide) rfl (fun ls hl => ?_)
            refine lv_lload hx hb d_Vol_faultOfCounts_107 (lv_at hl 0 rfl) ?_
            refine lv_ldc2 (v := 11) hx hb hown (hts _ q1_187) d_Vol_faultOfCounts_109 ?_
            refine kf_lc_lt (tgt := 126) hx hb d_Vol_faultOfCounts_112 d_Vol_faultOfCounts_113 (by decide) (fun c112 => ?_) (fun c112 => ?_)
            · refine lv_bipush (v := 84) hx hb d_Vol_faultOfCounts_126 (by decide) ?_
              exact kf_ir hx hb hr hlocks hP hD hS (by unfold kv_ct; grind) d_Vol_faultOfCounts_128
            · refine lv_lload hx hb d_Vol_faultOfCounts_116 (lv_at hl 0 rfl) ?_
              refine lv_aload_n hx hb d_Vol_faultOfCounts_118 rfl (lv_at hl 2 rfl) ?_
              refine va_get (D := D) (ci := 1) (v := .long fi) (C := "FieldRows$Volume") (T := F_Vol) (N := 12) hx hb hts ku_Vol hown hE.1 hP 0 rfl rfl 0 (by decide) (hts _ q1_31) (fun _ h9 => h9) rfl d_Vol_faultOfCounts_119 ?_
              refine kf_lc_le (tgt := 129) hx hb d_Vol_faultOfCounts_122 d_Vol_faultOfCounts_123 (by decide) (fun c122 => ?_) (fun c122 => ?_)
              · refine lv_aload_n hx hb d_Vol_faultOfCounts_129 rfl (lv_at hl 3 rfl) ?_
                refine lv_bipush (v := 90) hx hb d_Vol_faultOfCounts_130 (by decide) ?_
                refine lv_iconst (v := 2) hx hb d_Vol_faultOfCounts_132 (by decide) ?_
                refine kf_ro hP hD hS hA [1, 2] rfl (va_runV (As := [.int 90, .int 2]) (rest := []) ⟨hx, hb, hml, hown, hts⟩ (c_Row_fieldL l D cB cI _ h1 h2 f 90 2 (by decide) (by decide)) ⟨callB_of 2 hts g_Row_field rfl rfl rfl (hts _ q1_2) (hts _ q1_109) h_Row_field ⟨Nat.le_of_ble_eq_true rfl, Nat.le_of_ble_eq_true rfl⟩, (hts _ q1_110), (hts _ q1_111)⟩ ⟨kf_bl, va_recv hE.1 hP (ci := 0) (q0 := 1) rfl rfl, kf_to hP hD hS hA hE [1, 2] rfl rfl⟩ rfl rfl hl.1 rfl (lv_room (Nat.le_of_ble_eq_true rfl)) d_Vol_faultOfCounts_133 ⟨Nat.zero_le _, Nat.zero_le _⟩) (fun H locs hP hS => ?_)
                refine W.eq (g2 := F0 m 136 ls [.long (lN (ky_le f 90 2))]) rfl ?_
                refine lv_lstore (lv' := [(6, .long (lN (ky_le f 90 2))), (4, .long (lN (ky_le f 84 4))), (2, .long (lN (ky_le f 58 2))), (0, .ref h0), (1, .ref h1)]) hx hb d_Vol_faultOfCounts_136 hl (by decide) rfl (fun ls hl => ?_)
                refine lv_lload hx hb d_Vol_faultOfCounts_138 (lv_at hl 0 rfl) ?_
                refine lv_aload_n hx hb d_Vol_faultOfCounts_140 rfl (lv_at hl 3 rfl) ?_
                refine va_get (D := D) (ci := 1) (v := .long gc) (C := "FieldRows$Volume") (T := F_Vol) (N := 12) hx hb hts ku_Vol hown hE.1 hP 0 rfl rfl 9 (by decide) (hts _ q1_44) (fun _ h9 => h9) rfl d_Vol_faultOfCounts_141 ?_
                refine kf_lc_ge (tgt := 162) hx hb d_Vol_faultOfCounts_144 d_Vol_faultOfCounts_145 (by decide) (fun c144 => ?_) (fun c144 => ?_)
                · refine lv_bipush (v := 90) hx hb d_Vol_faultOfCounts_162 (by decide) ?_
                  exact kf_ir hx hb hr hlocks hP hD hS (by unfold kv_ct; grind) d_Vol_faultOfCounts_164
                · refine lv_aload_n hx hb d_Vol_faultOfCounts_148 rfl (lv_at hl 3 rfl) ?_
                  refine lv_lload hx hb d_Vol_faultOfCounts_149 (lv_at hl 0 rfl) ?_
                  refine kf_ro hP hD hS hA [0] rfl (va_runV (As := [.long (lN (ky_le f 90 2))]) (rest := []) ⟨hx, hb, hml, hown, hts⟩ (c_Vol_hasCopy l D cB cI _ h0 fi bl fs sh zz gb gf rb fc gc cb rk (lN (ky_le f 90 2))) ⟨callB_of 1 hts g_Vol_hasCopy rfl rfl rfl (hts _ q1_3) (hts _ q1_176) h_Vol_hasCopy ⟨Nat.le_of_ble_eq_true rfl, Nat.le_of_ble_eq_true rfl⟩, (hts _ q1_177), (hts _ q1_178)⟩ ⟨kf_bl, va_recv hE.1 hP (ci := 1) (q0 := 0) rfl rfl, kf_to hP hD hS hA hE [0] rfl rfl⟩ rfl rfl hl.1 rfl (lv_room (Nat.le_of_ble_eq_true rfl)) d_Vol_faultOfCounts_151 ⟨Nat.zero_le _, Nat.zero_le _⟩) (fun H locs hP hS => ?_)
                  refine W.eq (g2 := F0 m 154 ls [.int (kP (ky_hcP fc (lN (ky_le f 90 2))))]) rfl ?_
                  refine lv_if_eq (tgt := 162) hx hb d_Vol_faultOfCounts_154 (by decide) (fun c154 => ?_) (fun c154 => ?_)
                  · refine lv_bipush (v := 90) hx hb d_Vol_faultOfCounts_162 (by decide) ?_
                    have h154 := by first | exact kP_ne c154 | exact kP_eq c154
                    exact kf_ir hx hb hr hlocks hP hD hS (by unfold kv_ct; grind) d_Vol_faultOfCounts_164
                  · refine lv_bipush (v := -2) hx hb d_Vol_faultOfCounts_157 (by decide) ?_
                    refine lv_goto (tgt := 164) hx hb d_Vol_faultOfCounts_159 (by decide) ?_
                    have h154 := by first | exact kP_ne c154 | exact kP_eq c154
                    exact kf_ir hx hb hr hlocks hP hD hS (by unfold kv_ct; grind) d_Vol_faultOfCounts_164
              · refine lv_bipush (v := 84) hx hb d_Vol_faultOfCounts_126 (by decide) ?_
                exact kf_ir hx hb hr hlocks hP hD hS (by unfold kv_ct; grind) d_Vol_faultOfCounts_128
          · refine lv_lload_n hx hb d_Vol_faultOfCounts_87 rfl (lv_at hl 0 rfl) ?_
            refine lv_ldc2 (v := 3) hx hb hown (hts _ q1_186) d_Vol_faultOfCounts_88 ?_
            refine kf_lc_eq (tgt := 98) hx hb d_Vol_faultOfCounts_91 d_Vol_faultOfCounts_92 (by decide) (fun c91 => ?_) (fun c91 => ?_)
            · refine lv_aload_n hx hb d_Vol_faultOfCounts_98 rfl (lv_at hl 2 rfl) ?_
              refine lv_bipush (v := 84) hx hb d_Vol_faultOfCounts_99 (by decide) ?_
              refine lv_iconst (v := 4) hx hb d_Vol_faultOfCounts_101 (by decide) ?_
              refine kf_ro hP hD hS hA [1, 2] rfl (va_runV (As := [.int 84, .int 4]) (rest := []) ⟨hx, hb, hml, hown, hts⟩ (c_Row_fieldL l D cB cI _ h1 h2 f 84 4 (by decide) (by decide)) ⟨callB_of 2 hts g_Row_field rfl rfl rfl (hts _ q1_2) (hts _ q1_109) h_Row_field ⟨Nat.le_of_ble_eq_true rfl, Nat.le_of_ble_eq_true rfl⟩, (hts _ q1_110), (hts _ q1_111)⟩ ⟨kf_bl, va_recv hE.1 hP (ci := 0) (q0 := 1) rfl rfl, kf_to hP hD hS hA hE [1, 2] rfl rfl⟩ rfl rfl hl.1 rfl (lv_room (Nat.le_of_ble_eq_true rfl)) d_Vol_faultOfCounts_102 ⟨Nat.zero_le _, Nat.zero_le _⟩) (fun H locs hP hS => ?_)
              refine W.eq (g2 := F0 m 105 ls [.long (lN (ky_le f 84 4))]) rfl ?_
              refine lv_lstore (lv' := [(4, .long (lN (ky_le f 84 4))), (2, .long (lN (ky_le f 58 2))), (0, .ref h0), (1, .ref h1)]) hx hb d_Vol_faultOfCounts_105 hl (by decide) rfl (fun ls hl => ?_)
              refine lv_lload hx hb d_Vol_faultOfCounts_107 (lv_at hl 0 rfl) ?_
              refine lv_ldc2 (v := 11) hx hb hown (hts _ q1_187) d_Vol_faultOfCounts_109 ?_
              refine kf_lc_lt (tgt := 126) hx hb d_Vol_faultOfCounts_112 d_Vol_faultOfCounts_113 (by decide) (fun c112 => ?_) (fun c112 => ?_)
              · refine lv_bipush (v := 84) hx hb d_Vol_faultOfCounts_126 (by decide) ?_
                exact kf_ir hx hb hr hlocks hP hD hS (by unfold kv_ct; grind) d_Vol_faultOfCounts_128
              · refine lv_lload hx hb d_Vol_faultOfCounts_116 (lv_at hl 0 rfl) ?_
                refine lv_aload_n hx hb d_Vol_faultOfCounts_118 rfl (lv_at hl 2 rfl) ?_
                refine va_get (D := D) (ci := 1) (v := .long fi) (C := "FieldRows$Volume") (T := F_Vol) (N := 12) hx hb hts ku_Vol hown hE.1 hP 0 rfl rfl 0 (by decide) (hts _ q1_31) (fun _ h9 => h9) rfl d_Vol_faultOfCounts_119 ?_
                refine kf_lc_le (tgt := 129) hx hb d_Vol_faultOfCounts_122 d_Vol_faultOfCounts_123 (by decide) (fun c122 => ?_) (fun c122 => ?_)
                · refine lv_aload_n hx hb d_Vol_faultOfCounts_129 rfl (lv_at hl 3 rfl) ?_
                  refine lv_bipush (v := 90) hx hb d_Vol_faultOfCounts_130 (by decide) ?_
                  refine lv_iconst (v := 2) hx hb d_Vol_faultOfCounts_132 (by decide) ?_
                  refine kf_ro hP hD hS hA [1, 2] rfl (va_runV (As := [.int 90, .int 2]) (rest := []) ⟨hx, hb, hml, hown, hts⟩ (c_Row_fieldL l D cB cI _ h1 h2 f 90 2 (by decide) (by decide)) ⟨callB_of 2 hts g_Row_field rfl rfl rfl (hts _ q1_2) (hts _ q1_109) h_Row_field ⟨Nat.le_of_ble_eq_true rfl, Nat.le_of_ble_eq_true rfl⟩, (hts _ q1_110), (hts _ q1_111)⟩ ⟨kf_bl, va_recv hE.1 hP (ci := 0) (q0 := 1) rfl rfl, kf_to hP hD hS hA hE [1, 2] rfl rfl⟩ rfl rfl hl.1 rfl (lv_room (Nat.le_of_ble_eq_true rfl)) d_Vol_faultOfCounts_133 ⟨Nat.zero_le _, Nat.zero_le _⟩) (fun H locs hP hS => ?_)
                  refine W.eq (g2 := F0 m 136 ls [.long (lN (ky_le f 90 2))]) rfl ?_
                  refine lv_lstore (lv' := [(6, .long (lN (ky_le f 90 2))), (4, .long (lN (ky_le f 84 4))), (2, .long (lN (ky_le f 58 2))), (0, .ref h0), (1, .ref h1)]) hx hb d_Vol_faultOfCounts_136 hl (by decide) rfl (fun ls hl => ?_)
                  refine lv_lload hx hb d_Vol_faultOfCounts_138 (lv_at hl 0 rfl) ?_
                  refine lv_aload_n hx hb d_Vol_faultOfCounts_140 rfl (lv_at hl 3 rfl) ?_
                  refine va_get (D := D) (ci := 1) (v := .long gc) (C := "FieldRows$Volume") (T := F_Vol) (N := 12) hx hb hts ku_Vol hown hE.1 hP 0 rfl rfl 9 (by decide) (hts _ q1_44) (fun _ h9 => h9) rfl d_Vol_faultOfCounts_141 ?_
                  refine kf_lc_ge (tgt := 162) hx hb d_Vol_faultOfCounts_144 d_Vol_faultOfCounts_145 (by decide) (fun c144 => ?_) (fun c144 => ?_)
                  · refine lv_bipush (v := 90) hx hb d_Vol_faultOfCounts_162 (by decide) ?_
                    exact kf_ir hx hb hr hlocks hP hD hS (by unfold kv_ct; grind) d_Vol_faultOfCounts_164
                  · refine lv_aload_n hx hb d_Vol_faultOfCounts_148 rfl (lv_at hl 3 rfl) ?_
                    refine lv_lload hx hb d_Vol_faultOfCounts_149 (lv_at hl 0 rfl) ?_
                    refine kf_ro hP hD hS hA [0] rfl (va_runV (As := [.long (lN (ky_le f 90 2))]) (rest := []) ⟨hx, hb, hml, hown, hts⟩ (c_Vol_hasCopy l D cB cI _ h0 fi bl fs sh zz gb gf rb fc gc cb rk (lN (ky_le f 90 2))) ⟨callB_of 1 hts g_Vol_hasCopy rfl rfl rfl (hts _ q1_3) (hts _ q1_176) h_Vol_hasCopy ⟨Nat.le_of_ble_eq_true rfl, Nat.le_of_ble_eq_true rfl⟩, (hts _ q1_177), (hts _ q1_178)⟩ ⟨kf_bl, va_recv hE.1 hP (ci := 1) (q0 := 0) rfl rfl, kf_to hP hD hS hA hE [0] rfl rfl⟩ rfl rfl hl.1 rfl (lv_room (Nat.le_of_ble_eq_true rfl)) d_Vol_faultOfCounts_151 ⟨Nat.zero_le _, Nat.zero_le _⟩) (fun H locs hP hS => ?_)
                    refine W.eq (g2 := F0 m 154 ls [.int (kP (ky_hcP fc (lN (ky_le f 90 2))))]) rfl ?_
                    refine lv_if_eq (tgt := 162) hx hb d_Vol_faultOfCounts_154 (by decide) (fun c154 => ?_) (fun c154 => ?_)
                    · refine lv_bipush (v := 90) hx hb d_Vol_faultOfCounts_162 (by decide) ?_
                      have h154 := by first | exact kP_ne c154 | exact kP_eq c154
                      exact kf_ir hx hb hr hlocks hP hD hS (by unfold kv_ct; grind) d_Vol_faultOfCounts_164
                    · refine lv_bipush (v := -2) hx hb d_Vol_faultOfCounts_157 (by decide) ?_
                      refine lv_goto (tgt := 164) hx hb d_Vol_faultOfCounts_159 (by decide) ?_
                      have h154 := by first | exact kP_ne c154 | exact kP_eq c154
                      exact kf_ir hx hb hr hlocks hP hD hS (by unfold kv_ct; grind) d_Vol_faultOfCounts_164
                · refine lv_bipush (v := 84) hx hb d_Vol_faultOfCounts_126 (by decide) ?_
                  exact kf_ir hx hb hr hlocks hP hD hS (by unfold kv_ct; grind) d_Vol_faultOfCounts_128
            · refine lv_bipush (v := 58) hx hb d_Vol_faultOfCounts_95 (by decide) ?_
              exact kf_ir hx hb hr hlocks hP hD hS (by unfold kv_ct; grind) d_Vol_faultOfCounts_97
        · refine lv_bipush (v := 16) hx hb d_Vol_faultOfCounts_70 (by decide) ?_
          exact kf_ir hx hb hr hlocks hP hD hS (by unfold kv_ct; grind) d_Vol_faultOfCounts_72
      · refine lv_bipush (v := 12) hx hb d_Vol_faultOfCounts_52 (by decide) ?_
        exact kf_ir hx hb hr hlocks hP hD hS (by unfold kv_ct; grind) d_Vol_faultOfCounts_54
    · refine lv_bipush (v := 8) hx hb d_Vol_faultOfCounts_34 (by decide) ?_
      exact kf_ir hx hb hr hlocks hP hD hS (by unfold kv_ct; grind) d_Vol_faultOfCounts_36
  · refine lv_iconst (v := 0) hx hb d_Vol_faultOfCounts_17 (by decide) ?_
    exact kf_ir hx hb hr hlocks hP hD hS (by unfold kv_ct; grind) d_Vol_faultOfCounts_18

set_option maxRecDepth 100000 in
set_option maxHeartbeats 4000000 in
theorem c_Vol_faultOfFeatures (l : Launch) (D : va_G) (cB cI : ClassId) (hz : Nat) (h0 : Nat) (fi : Int64) (bl : Int64) (fs : Int64) (sh : Int64) (zz : Int64) (gb : Int64) (gf : Int64) (rb : Int64) (fc : Int32) (gc : Int64) (cb : Int64) (rk : Int64) (h1 : Nat) (h2 : Nat) (f : Nat → Int32) : kf_Ct l y_Vol_faultOfFeatures w_Vol_faultOfFeatures 2 46 0 0 D (kT cB cI) [.ref h0, .ref h1] [(h0, .inr (1, [.long fi, .long bl, .long fs, .long sh, .long zz, .long gb, .long gf, .long rb, .int fc, .long gc, .long cb, .long rk])), (h1, .inr (0, [.ref h2])), (h2, .inl (cB, 1024, .inl f))] hz (some (.int (kv_ft f))) (kf_po D [(h0, .inr (1, [.long fi, .long bl, .long fs, .long sh, .long zz, .long gb, .long gf, .long rb, .int fc, .long gc, .long cb, .long rk])), (h1, .inr (0, [.ref h2])), (h2, .inl (cB, 1024, .inl f))]) := by
  refine kf_of (cc := b_Vol_faultOfFeatures) (maxL := 5) (ret := (some .int)) (by decide) rfl (Nat.le_of_ble_eq_true rfl) ?_
  intro p e s m below meth c A H locs hx hb hr hml hown hts hlocks hin hP hD hS hA hE ls hl
  have hl : lv_has ls 5 [(0, .ref h0), (1, .ref h1)] := hl
  refine lv_aload_n hx hb d_Vol_faultOfFeatures_0 rfl (lv_at hl 1 rfl) ?_
  refine lv_bipush (v := 96) hx hb d_Vol_faultOfFeatures_1 (by decide) ?_
  refine lv_iconst (v := 4) hx hb d_Vol_faultOfFeatures_3 (by decide) ?_
  refine kf_ro hP hD hS hA [1, 2] rfl (va_runV (As := [.int 96, .int 4]) (rest := []) ⟨hx, hb, hml, hown, hts⟩ (c_Row_fieldL l D cB cI _ h1 h2 f 96 4 (by decide) (by decide)) ⟨callB_of 2 hts g_Row_field rfl rfl rfl (hts _ q1_2) (hts _ q1_109) h_Row_field ⟨Nat.le_of_ble_eq_true rfl, Nat.le_of_ble_eq_true rfl⟩, (hts _ q1_110), (hts _ q1_111)⟩ ⟨kf_bl, va_recv hE.1 hP (ci := 0) (q0 := 1) rfl rfl, kf_to hP hD hS hA hE [1, 2] rfl rfl⟩ rfl rfl hl.1 rfl (lv_room (Nat.le_of_ble_eq_true rfl)) d_Vol_faultOfFeatures_4 ⟨Nat.zero_le _, Nat.zero_le _⟩) (fun H locs hP hS => ?_)
  refine W.eq (g2 := F0 m 7 ls [.long (lN (ky_le f 96 4))]) rfl ?_
  refine lv_lstore_n (lv' := [(2, .long (lN (ky_le f 96 4))), (0, .ref h0), (1, .ref h1)]) hx hb d_Vol_faultOfFeatures_7 rfl hl (by decide) rfl (fun ls hl => ?_)
  refine lv_iconst (v := 0) hx hb d_Vol_faultOfFeatures_8 (by decide) ?_
  refine lv_aload_n hx hb d_Vol_faultOfFeatures_9 rfl (lv_at hl 2 rfl) ?_
  refine lv_bipush (v := 92) hx hb d_Vol_faultOfFeatures_10 (by decide) ?_
  refine lv_iconst (v := 4) hx hb d_Vol_faultOfFeatures_12 (by decide) ?_
  refine kf_ro hP hD hS hA [1, 2] rfl (va_runV (As := [.int 92, .int 4]) (rest := [.int 0]) ⟨hx, hb, hml, hown, hts⟩ (c_Row_fieldL l D cB cI _ h1 h2 f 92 4 (by decide) (by decide)) ⟨callB_of 2 hts g_Row_field rfl rfl rfl (hts _ q1_2) (hts _ q1_109) h_Row_field ⟨Nat.le_of_ble_eq_true rfl, Nat.le_of_ble_eq_true rfl⟩, (hts _ q1_110), (hts _ q1_111)⟩ ⟨kf_bl, va_recv hE.1 hP (ci := 0) (q0 := 1) rfl rfl, kf_to hP hD hS hA hE [1, 2] rfl rfl⟩ rfl rfl hl.1 rfl (lv_room (Nat.le_of_ble_eq_true rfl)) d_Vol_faultOfFeatures_13 ⟨Nat.zero_le _, Nat.zero_le _⟩) (fun H locs hP hS => ?_)
  refine W.eq (g2 := F0 m 16 ls [.long (lN (ky_le f 92 4)), .int 0]) rfl ?_
  refine lv_ldc2 (v := 36) hx hb hown (hts _ q1_192) d_Vol_faultOfFeatures_16 ?_
  refine kf_ro hP hD hS hA [] rfl (va_runS (As := [.int 0, .long (lN (ky_le f 92 4)), .long 36]) (rest := []) ⟨hx, hb, hml, hown, hts⟩ (c_Vol_unlistedFault l D cB cI _ 0 (lN (ky_le f 92 4)) 36) ⟨callB_of 3 hts g_Vol_unlistedFault rfl rfl rfl (hts _ q1_3) (hts _ q1_193) h_Vol_unlistedFault ⟨Nat.le_of_ble_eq_true rfl, Nat.le_of_ble_eq_true rfl⟩, (hts _ q1_194)⟩ ⟨kf_bl, kf_to hP hD hS hA hE [] rfl rfl⟩ rfl rfl hl.1 rfl (lv_room (Nat.le_of_ble_eq_true rfl)) d_Vol_faultOfFeatures_19 ⟨Nat.zero_le _, Nat.zero_le _⟩) (fun H locs hP hS => ?_)
  refine W.eq (g2 := F0 m 22 ls [.int (kv_unl 0 (lN (ky_le f 92 4)) 36 32)]) rfl ?_
  refine lv_istore (lv' := [(4, .int (kv_unl 0 (lN (ky_le f 92 4)) 36 32)), (2, .long (lN (ky_le f 96 4))), (0, .ref h0), (1, .ref h1)]) hx hb d_Vol_faultOfFeatures_22 hl (by decide) rfl (fun ls hl => ?_)
  refine lv_iload hx hb d_Vol_faultOfFeatures_24 (lv_at hl 0 rfl) ?_
  refine lv_bipush (v := -2) hx hb d_Vol_faultOfFeatures_26 (by decide) ?_
  refine lv_icmp_ne (tgt := 41) hx hb d_Vol_faultOfFeatures_28 (by decide) (fun c28 => ?_) (fun c28 => ?_)
  · refine lv_iload hx hb d_Vol_faultOfFeatures_41 (lv_at hl 0 rfl) ?_
    refine lv_bipush (v := -2) hx hb d_Vol_faultOfFeatures_43 (by decide) ?_
    refine lv_icmp_ne (tgt := 64) hx hb d_Vol_faultOfFeatures_45 (by decide) (fun c45 => ?_) (fun c45 => absurd c45 c28)
    refine lv_iload hx hb d_Vol_faultOfFeatures_64 (lv_at hl 0 rfl) ?_
    refine lv_bipush (v := -2) hx hb d_Vol_faultOfFeatures_66 (by decide) ?_
    refine lv_icmp_ne (tgt := 88) hx hb d_Vol_faultOfFeatures_68 (by decide) (fun c68 => ?_) (fun c68 => absurd c68 c28)
    refine lv_iload hx hb d_Vol_faultOfFeatures_88 (lv_at hl 0 rfl) ?_
    exact kf_ir hx hb hr hlocks hP hD hS (by unfold kv_ft; grind) d_Vol_faultOfFeatures_90
  · refine lv_iconst (v := 1) hx hb d_Vol_faultOfFeatures_31 (by decide) ?_
    refine lv_lload_n hx hb d_Vol_faultOfFeatures_32 rfl (lv_at hl 1 rfl) ?_
    refine lv_ldc2 (v := 70) hx hb hown (hts _ q1_197) d_Vol_faultOfFeatures_33 ?_
    refine kf_ro hP hD hS hA [] rfl (va_runS (As := [.int 1, .long (lN (ky_le f 96 4)), .long 70]) (rest := []) ⟨hx, hb, hml, hown, hts⟩ (c_Vol_unlistedFault l D cB cI _ 1 (lN (ky_le f 96 4)) 70) ⟨callB_of 3 hts g_Vol_unlistedFault rfl rfl rfl (hts _ q1_3) (hts _ q1_193) h_Vol_unlistedFault ⟨Nat.le_of_ble_eq_true rfl, Nat.le_of_ble_eq_true rfl⟩, (hts _ q1_194)⟩ ⟨kf_bl, kf_to hP hD hS hA hE [] rfl rfl⟩ rfl rfl hl.1 rfl (lv_room (Nat.le_of_ble_eq_true rfl)) d_Vol_faultOfFeatures_36 ⟨Nat.zero_le _, Nat.zero_le _⟩) (fun H locs hP hS => ?_)
    refine W.eq (g2 := F0 m 39 ls [.int (kv_unl 1 (lN (ky_le f 96 4)) 70 32)]) rfl ?_
    refine lv_istore (lv' := [(4, .int (kv_unl 1 (lN (ky_le f 96 4)) 70 32)), (2, .long (lN (ky_le f 96 4))), (0, .ref h0), (1, .ref h1)]) hx hb d_Vol_faultOfFeatures_39 hl (by decide) rfl (fun ls hl => ?_)
    refine lv_iload hx hb d_Vol_faultOfFeatures_41 (lv_at hl 0 rfl) ?_
    refine lv_bipush (v := -2) hx hb d_Vol_faultOfFeatures_43 (by decide) ?_
    refine lv_icmp_ne (tgt := 64) hx hb d_Vol_faultOfFeatures_45 (by decide) (fun c45 => ?_) (fun c45 => ?_)
    · refine lv_iload hx hb d_Vol_faultOfFeatures_64 (lv_at hl 0 rfl) ?_
      refine lv_bipush (v := -2) hx hb d_Vol_faultOfFeatures_66 (by decide) ?_
      refine lv_icmp_ne (tgt := 88) hx hb d_Vol_faultOfFeatures_68 (by decide) (fun c68 => ?_) (fun c68 => absurd c68 c45)
      refine lv_iload hx hb d_Vol_faultOfFeatures_88 (lv_at hl 0 rfl) ?_
      exact kf_ir hx hb hr hlocks hP hD hS (by unfold kv_ft; grind) d_Vol_faultOfFeatures_90
    · refine lv_lload_n hx hb d_Vol_faultOfFeatures_48 rfl (lv_at hl 1 rfl) ?_
      refine lv_ldc2 (v := 66) hx hb hown (hts _ q1_198) d_Vol_faultOfFeatures_49 ?_
      refine lv_land hx hb d_Vol_faultOfFeatures_52 ?_
      refine lv_ldc2 (v := 66) hx hb hown (hts _ q1_198) d_Vol_faultOfFeatures_53 ?_
      refine kf_lc_eq (tgt := 64) hx hb d_Vol_faultOfFeatures_56 d_Vol_faultOfFeatures_57 (by decide) (fun c56 => ?_) (fun c56 => ?_)
      · refine lv_iload hx hb d_Vol_faultOfFeatures_64 (lv_at hl 0 rfl) ?_
        refine lv_bipush (v := -2) hx hb d_Vol_faultOfFeatures_66 (by decide) ?_
        refine lv_icmp_ne (tgt := 88) hx hb d_Vol_faultOfFeatures_68 (by decide) (fun c68 => absurd c45 c68) (fun c68 => ?_)
        refine lv_iconst (v := 2) hx hb d_Vol_faultOfFeatures_71 (by decide) ?_
        refine lv_aload_n hx hb d_Vol_faultOfFeatures_72 rfl (lv_at hl 3 rfl) ?_
        refine lv_bipush (v := 100) hx hb d_Vol_faultOfFeatures_73 (by decide) ?_
        refine lv_iconst (v := 4) hx hb d_Vol_faultOfFeatures_75 (by decide) ?_
        refine kf_ro hP hD hS hA [1, 2] rfl (va_runV (As := [.int 100, .int 4]) (rest := [.int 2]) ⟨hx, hb, hml, hown, hts⟩ (c_Row_fieldL l D cB cI _ h1 h2 f 100 4 (by decide) (by decide)) ⟨callB_of 2 hts g_Row_field rfl rfl rfl (hts _ q1_2) (hts _ q1_109) h_Row_field ⟨Nat.le_of_ble_eq_true rfl, Nat.le_of_ble_eq_true rfl⟩, (hts _ q1_110), (hts _ q1_111)⟩ ⟨kf_bl, va_recv hE.1 hP (ci := 0) (q0 := 1) rfl rfl, kf_to hP hD hS hA hE [1, 2] rfl rfl⟩ rfl rfl hl.1 rfl (lv_room (Nat.le_of_ble_eq_true rfl)) d_Vol_faultOfFeatures_76 ⟨Nat.zero_le _, Nat.zero_le _⟩) (fun H locs hP hS => ?_)
        refine W.eq (g2 := F0 m 79 ls [.long (lN (ky_le f 100 4)), .int 2]) rfl ?_
        refine lv_ldc2 (v := 3) hx hb hown (hts _ q1_186) d_Vol_faultOfFeatures_79 ?_
        refine kf_ro hP hD hS hA [] rfl (va_runS (As := [.int 2, .long (lN (ky_le f 100 4)), .long 3]) (rest := []) ⟨hx, hb, hml, hown, hts⟩ (c_Vol_unlistedFault l D cB cI _ 2 (lN (ky_le f 100 4)) 3) ⟨callB_of 3 hts g_Vol_unlistedFault rfl rfl rfl (hts _ q1_3) (hts _ q1_193) h_Vol_unlistedFault ⟨Nat.le_of_ble_eq_true rfl, Nat.le_of_ble_eq_true rfl⟩, (hts _ q1_194)⟩ ⟨kf_bl, kf_to hP hD hS hA hE [] rfl rfl⟩ rfl rfl hl.1 rfl (lv_room (Nat.le_of_ble_eq_true rfl)) d_Vol_faultOfFeatures_82 ⟨Nat.zero_le _, Nat.zero_le _⟩) (fun H locs hP hS => ?_)
        refine W.eq (g2 := F0 m 85 ls [.int (kv_unl 2 (lN (ky_le f 100 4)) 3 32)]) rfl ?_
        refine lv_goto (tgt := 90) hx hb d_Vol_faultOfFeatures_85 (by decide) ?_
        exact kf_ir hx hb hr hlocks hP hD hS (by unfold kv_ft; grind) d_Vol_faultOfFeatures_90
      · refine lv_bipush (v := 96) hx hb d_Vol_faultOfFeatures_60 (by decide) ?_
        refine lv_istore (lv' := [(4, .int 96), (2, .long (lN (ky_le f 96 4))), (0, .ref h0), (1, .ref h1)]) hx hb d_Vol_faultOfFeatures_62 hl (by decide) rfl (fun ls hl => ?_)
        refine lv_iload hx hb d_Vol_faultOfFeatures_64 (lv_at hl 0 rfl) ?_
        refine lv_bipush (v := -2) hx hb d_Vol_faultOfFeatures_66 (by decide) ?_
        refine lv_icmp_ne (tgt := 88) hx hb d_Vol_faultOfFeatures_68 (by decide) (fun c68 => ?_) (fun c68 => absurd c68 (by decide))
        refine lv_iload hx hb d_Vol_faultOfFeatures_88 (lv_at hl 0 rfl) ?_
        exact kf_ir hx hb hr hlocks hP hD hS (by unfold kv_ft; grind) d_Vol_faultOfFeatures_90

set_option maxRecDepth 100000 in
set_option maxHeartbeats 4000000 in
theorem c_Vol_faultOfRest (l : Launch) (D : va_G) (cB cI : ClassId) (hz : Nat) (h0 : Nat) (fi : Int64) (bl : Int64) (fs : Int64) (sh : Int64) (zz : Int64) (gb : Int64) (gf : Int64) (rb : Int64) (fc : Int32) (gc : Int64) (cb : Int64) (rk : Int64) (h1 : Nat) (h2 : Nat) (f : Nat → Int32) : kf_Ct l y_Vol_faultOfRest w_Vol_faultOfRest 2 46 0 0 D (kT cB cI) [.ref h0, .ref h1] [(h0, .inr (1, [.long fi, .long bl, .long fs, .long sh, .long zz, .long gb, .long gf, .long rb, .int fc, .long gc, .long cb, .long rk])), (h1, .inr (0, [.ref h2])), (h2, .inl (cB, 1024, .inl f))] hz (some (.int (kv_re f fi))) (kf_po D [(h0, .inr (1, [.long fi, .long bl, .long fs, .long sh, .long zz, .long gb, .long gf, .long rb, .int fc, .long gc, .long cb, .long rk])), (h1, .inr (0, [.ref h2])), (h2, .inl (cB, 1024, .inl f))]) := by
  refine kf_of (cc := b_Vol_faultOfRest) (maxL := 8) (ret := (some .int)) (by decide) rfl (Nat.le_of_ble_eq_true rfl) ?_
  intro p e s m below meth c A H locs hx hb hr hml hown hts hlocks hin hP hD hS hA hE ls hl
  have hl : lv_has ls 8 [(0, .ref h0), (1, .ref h1)] := hl
  refine lv_aload_n hx hb d_Vol_faultOfRest_0 rfl (lv_at hl 1 rfl) ?_
  refine lv_bipush (v := 92) hx hb d_Vol_faultOfRest_1 (by decide) ?_
  refine lv_iconst (v := 4) hx hb d_Vol_faultOfRest_3 (by decide) ?_
  refine kf_ro hP hD hS hA [1, 2] rfl (va_runV (As := [.int 92, .int 4]) (rest := []) ⟨hx, hb, hml, hown, hts⟩ (c_Row_fieldL l D cB cI _ h1 h2 f 92 4 (by decide) (by decide)) ⟨callB_of 2 hts g_Row_field rfl rfl rfl (hts _ q1_2) (hts _ q1_109) h_Row_field ⟨Nat.le_of_ble_eq_true rfl, Nat.le_of_ble_eq_true rfl⟩, (hts _ q1_110), (hts _ q1_111)⟩ ⟨kf_bl, va_recv hE.1 hP (ci := 0) (q0 := 1) rfl rfl, kf_to hP hD hS hA hE [1, 2] rfl rfl⟩ rfl rfl hl.1 rfl (lv_room (Nat.le_of_ble_eq_true rfl)) d_Vol_faultOfRest_4 ⟨Nat.zero_le _, Nat.zero_le _⟩) (fun H locs hP hS => ?_)
  refine W.eq (g2 := F0 m 7 ls [.long (lN (ky_le f 92 4))]) rfl ?_
  refine lv_lstore_n (lv' := [(2, .long (lN (ky_le f 92 4))), (0, .ref h0), (1, .ref h1)]) hx hb d_Vol_faultOfRest_7 rfl hl (by decide) rfl (fun ls hl => ?_)
  refine lv_lload_n hx hb d_Vol_faultOfRest_8 rfl (lv_at hl 0 rfl) ?_
  refine lv_ldc2 (v := 4) hx hb hown (hts _ q1_203) d_Vol_faultOfRest_9 ?_
  refine lv_land hx hb d_Vol_faultOfRest_12 ?_
  refine lv_lconst (v := 0) hx hb d_Vol_faultOfRest_13 (by decide) ?_
  refine kf_lc_eq (tgt := 24) hx hb d_Vol_faultOfRest_14 d_Vol_faultOfRest_15 (by decide) (fun c14 => ?_) (fun c14 => ?_)
  · refine lv_lconst (v := 0) hx hb d_Vol_faultOfRest_24 (by decide) ?_
    refine lv_lstore (lv' := [(4, .long 0), (2, .long (lN (ky_le f 92 4))), (0, .ref h0), (1, .ref h1)]) hx hb d_Vol_faultOfRest_25 hl (by decide) rfl (fun ls hl => ?_)
    refine lv_lload_n hx hb d_Vol_faultOfRest_27 rfl (lv_at hl 1 rfl) ?_
    refine lv_ldc2 (v := 32) hx hb hown (hts _ q1_121) d_Vol_faultOfRest_28 ?_
    refine lv_land hx hb d_Vol_faultOfRest_31 ?_
    refine lv_lconst (v := 0) hx hb d_Vol_faultOfRest_32 (by decide) ?_
    refine kf_lc_eq (tgt := 41) hx hb d_Vol_faultOfRest_33 d_Vol_faultOfRest_34 (by decide) (fun c33 => ?_) (fun c33 => ?_)
    · refine lv_lconst (v := 0) hx hb d_Vol_faultOfRest_41 (by decide) ?_
      refine lv_lstore (lv' := [(6, .long 0), (4, .long 0), (2, .long (lN (ky_le f 92 4))), (0, .ref h0), (1, .ref h1)]) hx hb d_Vol_faultOfRest_42 hl (by decide) rfl (fun ls hl => ?_)
      refine lv_aload_n hx hb d_Vol_faultOfRest_44 rfl (lv_at hl 4 rfl) ?_
      refine lv_sipush (v := 224) hx hb d_Vol_faultOfRest_45 (by decide) ?_
      refine lv_iconst (v := 4) hx hb d_Vol_faultOfRest_48 (by decide) ?_
      refine kf_ro hP hD hS hA [1, 2] rfl (va_runV (As := [.int 224, .int 4]) (rest := []) ⟨hx, hb, hml, hown, hts⟩ (c_Row_fieldL l D cB cI _ h1 h2 f 224 4 (by decide) (by decide)) ⟨callB_of 2 hts g_Row_field rfl rfl rfl (hts _ q1_2) (hts _ q1_109) h_Row_field ⟨Nat.le_of_ble_eq_true rfl, Nat.le_of_ble_eq_true rfl⟩, (hts _ q1_110), (hts _ q1_111)⟩ ⟨kf_bl, va_recv hE.1 hP (ci := 0) (q0 := 1) rfl rfl, kf_to hP hD hS hA hE [1, 2] rfl rfl⟩ rfl rfl hl.1 rfl (lv_room (Nat.le_of_ble_eq_true rfl)) d_Vol_faultOfRest_49 ⟨Nat.zero_le _, Nat.zero_le _⟩) (fun H locs hP hS => ?_)
      refine W.eq (g2 := F0 m 52 ls [.long (lN (ky_le f 224 4))]) rfl ?_
      refine lv_lload hx hb d_Vol_faultOfRest_52 (lv_at hl 1 rfl) ?_
      refine kf_lc_eq (tgt := 62) hx hb d_Vol_faultOfRest_54 d_Vol_faultOfRest_55 (by decide) (fun c54 => ?_) (fun c54 => ?_)
      · refine lv_aload_n hx hb d_Vol_faultOfRest_62 rfl (lv_at hl 4 rfl) ?_
        refine lv_sipush (v := 232) hx hb d_Vol_faultOfRest_63 (by decide) ?_
        refine lv_iconst (v := 4) hx hb d_Vol_faultOfRest_66 (by decide) ?_
        refine kf_ro hP hD hS hA [1, 2] rfl (va_runV (As := [.int 232, .int 4]) (rest := []) ⟨hx, hb, hml, hown, hts⟩ (c_Row_fieldL l D cB cI _ h1 h2 f 232 4 (by decide) (by decide)) ⟨callB_of 2 hts g_Row_field rfl rfl rfl (hts _ q1_2) (hts _ q1_109) h_Row_field ⟨Nat.le_of_ble_eq_true rfl, Nat.le_of_ble_eq_true rfl⟩, (hts _ q1_110), (hts _ q1_111)⟩ ⟨kf_bl, va_recv hE.1 hP (ci := 0) (q0 := 1) rfl rfl, kf_to hP hD hS hA hE [1, 2] rfl rfl⟩ rfl rfl hl.1 rfl (lv_room (Nat.le_of_ble_eq_true rfl)) d_Vol_faultOfRest_67 ⟨Nat.zero_le _, Nat.zero_le _⟩) (fun H locs hP hS => ?_)
        refine W.eq (g2 := F0 m 70 ls [.long (lN (ky_le f 232 4))]) rfl ?_
        refine lv_aload_n hx hb d_Vol_faultOfRest_70 rfl (lv_at hl 3 rfl) ?_
        refine va_get (D := D) (ci := 1) (v := .long fi) (C := "FieldRows$Volume") (T := F_Vol) (N := 12) hx hb hts ku_Vol hown hE.1 hP 0 rfl rfl 0 (by decide) (hts _ q1_31) (fun _ h9 => h9) rfl d_Vol_faultOfRest_71 ?_
        refine kf_lc_le (tgt := 82) hx hb d_Vol_faultOfRest_74 d_Vol_faultOfRest_75 (by decide) (fun c74 => ?_) (fun c74 => ?_)
        · refine lv_aload_n hx hb d_Vol_faultOfRest_82 rfl (lv_at hl 4 rfl) ?_
          refine lv_sipush (v := 252) hx hb d_Vol_faultOfRest_83 (by decide) ?_
          refine lv_iconst (v := 1) hx hb d_Vol_faultOfRest_86 (by decide) ?_
          refine kf_ro hP hD hS hA [1, 2] rfl (va_runV (As := [.int 252, .int 1]) (rest := []) ⟨hx, hb, hml, hown, hts⟩ (c_Row_fieldL l D cB cI _ h1 h2 f 252 1 (by decide) (by decide)) ⟨callB_of 2 hts g_Row_field rfl rfl rfl (hts _ q1_2) (hts _ q1_109) h_Row_field ⟨Nat.le_of_ble_eq_true rfl, Nat.le_of_ble_eq_true rfl⟩, (hts _ q1_110), (hts _ q1_111)⟩ ⟨kf_bl, va_recv hE.1 hP (ci := 0) (q0 := 1) rfl rfl, kf_to hP hD hS hA hE [1, 2] rfl rfl⟩ rfl rfl hl.1 rfl (lv_room (Nat.le_of_ble_eq_true rfl)) d_Vol_faultOfRest_87 ⟨Nat.zero_le _, Nat.zero_le _⟩) (fun H locs hP hS => ?_)
          refine W.eq (g2 := F0 m 90 ls [.long (lN (ky_le f 252 1))]) rfl ?_
          refine lv_lload hx hb d_Vol_faultOfRest_90 (lv_at hl 0 rfl) ?_
          refine kf_lc_eq (tgt := 100) hx hb d_Vol_faultOfRest_92 d_Vol_faultOfRest_93 (by decide) (fun c92 => ?_) (fun c92 => ?_)
          · refine lv_aload_n hx hb d_Vol_faultOfRest_100 rfl (lv_at hl 4 rfl) ?_
            refine lv_sipush (v := 254) hx hb d_Vol_faultOfRest_101 (by decide) ?_
            refine lv_iconst (v := 2) hx hb d_Vol_faultOfRest_104 (by decide) ?_
            refine kf_ro hP hD hS hA [1, 2] rfl (va_runV (As := [.int 254, .int 2]) (rest := []) ⟨hx, hb, hml, hown, hts⟩ (c_Row_fieldL l D cB cI _ h1 h2 f 254 2 (by decide) (by decide)) ⟨callB_of 2 hts g_Row_field rfl rfl rfl (hts _ q1_2) (hts _ q1_109) h_Row_field ⟨Nat.le_of_ble_eq_true rfl, Nat.le_of_ble_eq_true rfl⟩, (hts _ q1_110), (hts _ q1_111)⟩ ⟨kf_bl, va_recv hE.1 hP (ci := 0) (q0 := 1) rfl rfl, kf_to hP hD hS hA hE [1, 2] rfl rfl⟩ rfl rfl hl.1 rfl (lv_room (Nat.le_of_ble_eq_true rfl)) d_Vol_faultOfRest_105 ⟨Nat.zero_le _, Nat.zero_le _⟩) (fun H locs hP hS => ?_)
            refine W.eq (g2 := F0 m 108 ls [.long (lN (ky_le f 254 2))]) rfl ?_
            refine lv_lconst (v := 0) hx hb d_Vol_faultOfRest_108 (by decide) ?_
            refine kf_lc_ne (tgt := 118) hx hb d_Vol_faultOfRest_109 d_Vol_faultOfRest_110 (by decide) (fun c109 => ?_) (fun c109 => ?_)
            · refine lv_sipush (v := 254) hx hb d_Vol_faultOfRest_118 (by decide) ?_
              exact kf_ir hx hb hr hlocks hP hD hS (by unfold kv_re; grind) d_Vol_faultOfRest_121
            · refine lv_bipush (v := -2) hx hb d_Vol_faultOfRest_113 (by decide) ?_
              refine lv_goto (tgt := 121) hx hb d_Vol_faultOfRest_115 (by decide) ?_
              exact kf_ir hx hb hr hlocks hP hD hS (by unfold kv_re; grind) d_Vol_faultOfRest_121
          · refine lv_sipush (v := 252) hx hb d_Vol_faultOfRest_96 (by decide) ?_
            exact kf_ir hx hb hr hlocks hP hD hS (by unfold kv_re; grind) d_Vol_faultOfRest_99
        · refine lv_sipush (v := 232) hx hb d_Vol_faultOfRest_78 (by decide) ?_
          exact kf_ir hx hb hr hlocks hP hD hS (by unfold kv_re; grind) d_Vol_faultOfRest_81
      · refine lv_sipush (v := 224) hx hb d_Vol_faultOfRest_58 (by decide) ?_
        exact kf_ir hx hb hr hlocks hP hD hS (by unfold kv_re; grind) d_Vol_faultOfRest_61
    · refine lv_lconst (v := 1) hx hb d_Vol_faultOfRest_37 (by decide) ?_
      refine lv_goto (tgt := 42) hx hb d_Vol_faultOfRest_38 (by decide) ?_
      refine lv_lstore (lv' := [(6, .long 1), (4, .long 0), (2, .long (lN (ky_le f 92 4))), (0, .ref h0), (1, .ref h1)]) hx hb d_Vol_faultOfRest_42 hl (by decide) rfl (fun ls hl => ?_)
      refine lv_aload_n hx hb d_Vol_faultOfRest_44 rfl (lv_at hl 4 rfl) ?_
      refine lv_sipush (v := 224) hx hb d_Vol_faultOfRest_45 (by decide) ?_
      refine lv_iconst (v := 4) hx hb d_Vol_faultOfRest_48 (by decide) ?_
      refine kf_ro hP hD hS hA [1, 2] rfl (va_runV (As := [.int 224, .int 4]) (rest := []) ⟨hx, hb, hml, hown, hts⟩ (c_Row_fieldL l D cB cI _ h1 h2 f 224 4 (by decide) (by decide)) ⟨callB_of 2 hts g_Row_field rfl rfl rfl (hts _ q1_2) (hts _ q1_109) h_Row_field ⟨Nat.le_of_ble_eq_true rfl, Nat.le_of_ble_eq_true rfl⟩, (hts _ q1_110), (hts _ q1_111)⟩ ⟨kf_bl, va_recv hE.1 hP (ci := 0) (q0 := 1) rfl rfl, kf_to hP hD hS hA hE [1, 2] rfl rfl⟩ rfl rfl hl.1 rfl (lv_room (Nat.le_of_ble_eq_true rfl)) d_Vol_faultOfRest_49 ⟨Nat.zero_le _, Nat.zero_le _⟩) (fun H locs hP hS => ?_)
      refine W.eq (g2 := F0 m 52 ls [.long (lN (ky_le f 224 4))]) rfl ?_
      refine lv_lload hx hb d_Vol_faultOfRest_52 (lv_at hl 1 rfl) ?_
      refine kf_lc_eq (tgt := 62) hx hb d_Vol_faultOfRest_54 d_Vol_faultOfRest_55 (by decide) (fun c54 => ?_) (fun c54 => ?_)
      · refine lv_aload_n hx hb d_Vol_faultOfRest_62 rfl (lv_at hl 4 rfl) ?_
        refine lv_sipush (v := 232) hx hb d_Vol_faultOfRest_63 (by decide) ?_
        refine lv_iconst (v := 4) hx hb d_Vol_faultOfRest_66 (by decide) ?_
        refine kf_ro hP hD hS hA [1, 2] rfl (va_runV (As := [.int 232, .int 4]) (rest := []) ⟨hx, hb, hml, hown, hts⟩ (c_Row_fieldL l D cB cI _ h1 h2 f 232 4 (by decide) (by decide)) ⟨callB_of 2 hts g_Row_field rfl rfl rfl (hts _ q1_2) (hts _ q1_109) h_Row_field ⟨Nat.le_of_ble_eq_true rfl, Nat.le_of_ble_eq_true rfl⟩, (hts _ q1_110), (hts _ q1_111)⟩ ⟨kf_bl, va_recv hE.1 hP (ci := 0) (q0 := 1) rfl rfl, kf_to hP hD hS hA hE [1, 2] rfl rfl⟩ rfl rfl hl.1 rfl (lv_room (Nat.le_of_ble_eq_true rfl)) d_Vol_faultOfRest_67 ⟨Nat.zero_le _, Nat.zero_le _⟩) (fun H locs hP hS => ?_)
        refine W.eq (g2 := F0 m 70 ls [.long (lN (ky_le f 232 4))]) rfl ?_
        refine lv_aload_n hx hb d_Vol_faultOfRest_70 rfl (lv_at hl 3 rfl) ?_
        refine va_get (D := D) (ci := 1) (v := .long fi) (C := "FieldRows$Volume") (T := F_Vol) (N := 12) hx hb hts ku_Vol hown hE.1 hP 0 rfl rfl 0 (by decide) (hts _ q1_31) (fun _ h9 => h9) rfl d_Vol_faultOfRest_71 ?_
        refine kf_lc_le (tgt := 82) hx hb d_Vol_faultOfRest_74 d_Vol_faultOfRest_75 (by decide) (fun c74 => ?_) (fun c74 => ?_)
        · refine lv_aload_n hx hb d_Vol_faultOfRest_82 rfl (lv_at hl 4 rfl) ?_
          refine lv_sipush (v := 252) hx hb d_Vol_faultOfRest_83 (by decide) ?_
          refine lv_iconst (v := 1) hx hb d_Vol_faultOfRest_86 (by decide) ?_
          refine kf_ro hP hD hS hA [1, 2] rfl (va_runV (As := [.int 252, .int 1]) (rest := []) ⟨hx, hb, hml, hown, hts⟩ (c_Row_fieldL l D cB cI _ h1 h2 f 252 1 (by decide) (by decide)) ⟨callB_of 2 hts g_Row_field rfl rfl rfl (hts _ q1_2) (hts _ q1_109) h_Row_field ⟨Nat.le_of_ble_eq_true rfl, Nat.le_of_ble_eq_true rfl⟩, (hts _ q1_110), (hts _ q1_111)⟩ ⟨kf_bl, va_recv hE.1 hP (ci := 0) (q0 := 1) rfl rfl, kf_to hP hD hS hA hE [1, 2] rfl rfl⟩ rfl rfl hl.1 rfl (lv_room (Nat.le_of_ble_eq_true rfl)) d_Vol_faultOfRest_87 ⟨Nat.zero_le _, Nat.zero_le _⟩) (fun H locs hP hS => ?_)
          refine W.eq (g2 := F0 m 90 ls [.long (lN (ky_le f 252 1))]) rfl ?_
          refine lv_lload hx hb d_Vol_faultOfRest_90 (lv_at hl 0 rfl) ?_
          refine kf_lc_eq (tgt := 100) hx hb d_Vol_faultOfRest_92 d_Vol_faultOfRest_93 (by decide) (fun c92 => ?_) (fun c92 => ?_)
          · refine lv_aload_n hx hb d_Vol_faultOfRest_100 rfl (lv_at hl 4 rfl) ?_
            refine lv_sipush (v := 254) hx hb d_Vol_faultOfRest_101 (by decide) ?_
            refine lv_iconst (v := 2) hx hb d_Vol_faultOfRest_104 (by decide) ?_
            refine kf_ro hP hD hS hA [1, 2] rfl (va_runV (As := [.int 254, .int 2]) (rest := []) ⟨hx, hb, hml, hown, hts⟩ (c_Row_fieldL l D cB cI _ h1 h2 f 254 2 (by decide) (by decide)) ⟨callB_of 2 hts g_Row_field rfl rfl rfl (hts _ q1_2) (hts _ q1_109) h_Row_field ⟨Nat.le_of_ble_eq_true rfl, Nat.le_of_ble_eq_true rfl⟩, (hts _ q1_110), (hts _ q1_111)⟩ ⟨kf_bl, va_recv hE.1 hP (ci := 0) (q0 := 1) rfl rfl, kf_to hP hD hS hA hE [1, 2] rfl rfl⟩ rfl rfl hl.1 rfl (lv_room (Nat.le_of_ble_eq_true rfl)) d_Vol_faultOfRest_105 ⟨Nat.zero_le _, Nat.zero_le _⟩) (fun H locs hP hS => ?_)
            refine W.eq (g2 := F0 m 108 ls [.long (lN (ky_le f 254 2))]) rfl ?_
            refine lv_lconst (v := 0) hx hb d_Vol_faultOfRest_108 (by decide) ?_
            refine kf_lc_ne (tgt := 118) hx hb d_Vol_faultOfRest_109 d_Vol_faultOfRest_110 (by decide) (fun c109 => ?_) (fun c109 => ?_)
            · refine lv_sipush (v := 254) hx hb d_Vol_faultOfRest_118 (by decide) ?_
              exact kf_ir hx hb hr hlocks hP hD hS (by unfold kv_re; grind) d_Vol_faultOfRest_121
            · refine lv_bipush (v := -2) hx hb d_Vol_faultOfRest_113 (by decide) ?_
              refine lv_goto (tgt := 121) hx hb d_Vol_faultOfRest_115 (by decide) ?_
              exact kf_ir hx hb hr hlocks hP hD hS (by unfold kv_re; grind) d_Vol_faultOfRest_121
          · refine lv_sipush (v := 252) hx hb d_Vol_faultOfRest_96 (by decide) ?_
            exact kf_ir hx hb hr hlocks hP hD hS (by unfold kv_re; grind) d_Vol_faultOfRest_99
        · refine lv_sipush (v := 232) hx hb d_Vol_faultOfRest_78 (by decide) ?_
          exact kf_ir hx hb hr hlocks hP hD hS (by unfold kv_re; grind) d_Vol_faultOfRest_81
      · refine lv_sipush (v := 224) hx hb d_Vol_faultOfRest_58 (by decide) ?_
        exact kf_ir hx hb hr hlocks hP hD hS (by unfold kv_re; grind) d_Vol_faultOfRest_61
  · refine lv_ldc2 (v := 8) hx hb hown (hts _ q1_138) d_Vol_faultOfRest_18 ?_
    refine lv_goto (tgt := 25) hx hb d_Vol_faultOfRest_21 (by decide) ?_
    refine lv_lstore (lv' := [(4, .long 8), (2, .long (lN (ky_le f 92 4))), (0, .ref h0), (1, .ref h1)]) hx hb d_Vol_faultOfRest_25 hl (by decide) rfl (fun ls hl => ?_)
    refine lv_lload_n hx hb d_Vol_faultOfRest_27 rfl (lv_at hl 1 rfl) ?_
    refine lv_ldc2 (v := 32) hx hb hown (hts _ q1_121) d_Vol_faultOfRest_28 ?_
    refine lv_land hx hb d_Vol_faultOfRest_31 ?_
    refine lv_lconst (v := 0) hx hb d_Vol_faultOfRest_32 (by decide) ?_
    refine kf_lc_eq (tgt := 41) hx hb d_Vol_faultOfRest_33 d_Vol_faultOfRest_34 (by decide) (fun c33 => ?_) (fun c33 => ?_)
    · refine lv_lconst (v := 0) hx hb d_Vol_faultOfRest_41 (by decide) ?_
      refine lv_lstore (lv' := [(6, .long 0), (4, .long 8), (2, .long (lN (ky_le f 92 4))), (0, .ref h0), (1, .ref h1)]) hx hb d_Vol_faultOfRest_42 hl (by decide) rfl (fun ls hl => ?_)
      refine lv_aload_n hx hb d_Vol_faultOfRest_44 rfl (lv_at hl 4 rfl) ?_
      refine lv_sipush (v := 224) hx hb d_Vol_faultOfRest_45 (by decide) ?_
      refine lv_iconst (v := 4) hx hb d_Vol_faultOfRest_48 (by decide) ?_
      refine kf_ro hP hD hS hA [1, 2] rfl (va_runV (As := [.int 224, .int 4]) (rest := []) ⟨hx, hb, hml, hown, hts⟩ (c_Row_fieldL l D cB cI _ h1 h2 f 224 4 (by decide) (by decide)) ⟨callB_of 2 hts g_Row_field rfl rfl rfl (hts _ q1_2) (hts _ q1_109) h_Row_field ⟨Nat.le_of_ble_eq_true rfl, Nat.le_of_ble_eq_true rfl⟩, (hts _ q1_110), (hts _ q1_111)⟩ ⟨kf_bl, va_recv hE.1 hP (ci := 0) (q0 := 1) rfl rfl, kf_to hP hD hS hA hE [1, 2] rfl rfl⟩ rfl rfl hl.1 rfl (lv_room (Nat.le_of_ble_eq_true rfl)) d_Vol_faultOfRest_49 ⟨Nat.zero_le _, Nat.zero_le _⟩) (fun H locs hP hS => ?_)
      refine W.eq (g2 := F0 m 52 ls [.long (lN (ky_le f 224 4))]) rfl ?_
      refine lv_lload hx hb d_Vol_faultOfRest_52 (lv_at hl 1 rfl) ?_
      refine kf_lc_eq (tgt := 62) hx hb d_Vol_faultOfRest_54 d_Vol_faultOfRest_55 (by decide) (fun c54 => ?_) (fun c54 => ?_)
      · refine lv_aload_n hx hb d_Vol_faultOfRest_62 rfl (lv_at hl 4 rfl) ?_
        refine lv_sipush (v := 232) hx hb d_Vol_faultOfRest_63 (by decide) ?_
        refine lv_iconst (v := 4) hx hb d_Vol_faultOfRest_66 (by decide) ?_
        refine kf_ro hP hD hS hA [1, 2] rfl (va_runV (As := [.int 232, .int 4]) (rest := []) ⟨hx, hb, hml, hown, hts⟩ (c_Row_fieldL l D cB cI _ h1 h2 f 232 4 (by decide) (by decide)) ⟨callB_of 2 hts g_Row_field rfl rfl rfl (hts _ q1_2) (hts _ q1_109) h_Row_field ⟨Nat.le_of_ble_eq_true rfl, Nat.le_of_ble_eq_true rfl⟩, (hts _ q1_110), (hts _ q1_111)⟩ ⟨kf_bl, va_recv hE.1 hP (ci := 0) (q0 := 1) rfl rfl, kf_to hP hD hS hA hE [1, 2] rfl rfl⟩ rfl rfl hl.1 rfl (lv_room (Nat.le_of_ble_eq_true rfl)) d_Vol_faultOfRest_67 ⟨Nat.zero_le _, Nat.zero_le _⟩) (fun H locs hP hS => ?_)
        refine W.eq (g2 := F0 m 70 ls [.long (lN (ky_le f 232 4))]) rfl ?_
        refine lv_aload_n hx hb d_Vol_faultOfRest_70 rfl (lv_at hl 3 rfl) ?_
        refine va_get (D := D) (ci := 1) (v := .long fi) (C := "FieldRows$Volume") (T := F_Vol) (N := 12) hx hb hts ku_Vol hown hE.1 hP 0 rfl rfl 0 (by decide) (hts _ q1_31) (fun _ h9 => h9) rfl d_Vol_faultOfRest_71 ?_
        refine kf_lc_le (tgt := 82) hx hb d_Vol_faultOfRest_74 d_Vol_faultOfRest_75 (by decide) (fun c74 => ?_) (fun c74 => ?_)
        · refine lv_aload_n hx hb d_Vol_faultOfRest_82 rfl (lv_at hl 4 rfl) ?_
          refine lv_sipush (v := 252) hx hb d_Vol_faultOfRest_83 (by decide) ?_
          refine lv_iconst (v := 1) hx hb d_Vol_faultOfRest_86 (by decide) ?_
          refine kf_ro hP hD hS hA [1, 2] rfl (va_runV (As := [.int 252, .int 1]) (rest := []) ⟨hx, hb, hml, hown, hts⟩ (c_Row_fieldL l D cB cI _ h1 h2 f 252 1 (by decide) (by decide)) ⟨callB_of 2 hts g_Row_field rfl rfl rfl (hts _ q1_2) (hts _ q1_109) h_Row_field ⟨Nat.le_of_ble_eq_true rfl, Nat.le_of_ble_eq_true rfl⟩, (hts _ q1_110), (hts _ q1_111)⟩ ⟨kf_bl, va_recv hE.1 hP (ci := 0) (q0 := 1) rfl rfl, kf_to hP hD hS hA hE [1, 2] rfl rfl⟩ rfl rfl hl.1 rfl (lv_room (Nat.le_of_ble_eq_true rfl)) d_Vol_faultOfRest_87 ⟨Nat.zero_le _, Nat.zero_le _⟩) (fun H locs hP hS => ?_)
          refine W.eq (g2 := F0 m 90 ls [.long (lN (ky_le f 252 1))]) rfl ?_
          refine lv_lload hx hb d_Vol_faultOfRest_90 (lv_at hl 0 rfl) ?_
          refine kf_lc_eq (tgt := 100) hx hb d_Vol_faultOfRest_92 d_Vol_faultOfRest_93 (by decide) (fun c92 => ?_) (fun c92 => ?_)
          · refine lv_aload_n hx hb d_Vol_faultOfRest_100 rfl (lv_at hl 4 rfl) ?_
            refine lv_sipush (v := 254) hx hb d_Vol_faultOfRest_101 (by decide) ?_
            refine lv_iconst (v := 2) hx hb d_Vol_faultOfRest_104 (by decide) ?_
            refine kf_ro hP hD hS hA [1, 2] rfl (va_runV (As := [.int 254, .int 2]) (rest := []) ⟨hx, hb, hml, hown, hts⟩ (c_Row_fieldL l D cB cI _ h1 h2 f 254 2 (by decide) (by decide)) ⟨callB_of 2 hts g_Row_field rfl rfl rfl (hts _ q1_2) (hts _ q1_109) h_Row_field ⟨Nat.le_of_ble_eq_true rfl, Nat.le_of_ble_eq_true rfl⟩, (hts _ q1_110), (hts _ q1_111)⟩ ⟨kf_bl, va_recv hE.1 hP (ci := 0) (q0 := 1) rfl rfl, kf_to hP hD hS hA hE [1, 2] rfl rfl⟩ rfl rfl hl.1 rfl (lv_room (Nat.le_of_ble_eq_true rfl)) d_Vol_faultOfRest_105 ⟨Nat.zero_le _, Nat.zero_le _⟩) (fun H locs hP hS => ?_)
            refine W.eq (g2 := F0 m 108 ls [.long (lN (ky_le f 254 2))]) rfl ?_
            refine lv_lconst (v := 0) hx hb d_Vol_faultOfRest_108 (by decide) ?_
            refine kf_lc_ne (tgt := 118) hx hb d_Vol_faultOfRest_109 d_Vol_faultOfRest_110 (by decide) (fun c109 => ?_) (fun c109 => ?_)
            · refine lv_sipush (v := 254) hx hb d_Vol_faultOfRest_118 (by decide) ?_
              exact kf_ir hx hb hr hlocks hP hD hS (by unfold kv_re; grind) d_Vol_faultOfRest_121
            · refine lv_bipush (v := -2) hx hb d_Vol_faultOfRest_113 (by decide) ?_
              refine lv_goto (tgt := 121) hx hb d_Vol_faultOfRest_115 (by decide) ?_
              exact kf_ir hx hb hr hlocks hP hD hS (by unfold kv_re; grind) d_Vol_faultOfRest_121
          · refine lv_sipush (v := 252) hx hb d_Vol_faultOfRest_96 (by decide) ?_
            exact kf_ir hx hb hr hlocks hP hD hS (by unfold kv_re; grind) d_Vol_faultOfRest_99
        · refine lv_sipush (v := 232) hx hb d_Vol_faultOfRest_78 (by decide) ?_
          exact kf_ir hx hb hr hlocks hP hD hS (by unfold kv_re; grind) d_Vol_faultOfRest_81
      · refine lv_sipush (v := 224) hx hb d_Vol_faultOfRest_58 (by decide) ?_
        exact kf_ir hx hb hr hlocks hP hD hS (by unfold kv_re; grind) d_Vol_faultOfRest_61
    · refine lv_lconst (v := 1) hx hb d_Vol_faultOfRest_37 (by decide) ?_
      refine lv_goto (tgt := 42) hx hb d_Vol_faultOfRest_38 (by decide) ?_
      refine lv_lstore (lv' := [(6, .long 1), (4, .long 8), (2, .long (lN (ky_le f 92 4))), (0, .ref h0), (1, .ref h1)]) hx hb d_Vol_faultOfRest_42 hl (by decide) rfl (fun ls hl => ?_)
      refine lv_aload_n hx hb d_Vol_faultOfRest_44 rfl (lv_at hl 4 rfl) ?_
      refine lv_sipush (v := 224) hx hb d_Vol_faultOfRest_45 (by decide) ?_
      refine lv_iconst (v := 4) hx hb d_Vol_faultOfRest_48 (by decide) ?_
      refine kf_ro hP hD hS hA [1, 2] rfl (va_runV (As := [.int 224, .int 4]) (rest := []) ⟨hx, hb, hml, hown, hts⟩ (c_Row_fieldL l D cB cI _ h1 h2 f 224 4 (by decide) (by decide)) ⟨callB_of 2 hts g_Row_field rfl rfl rfl (hts _ q1_2) (hts _ q1_109) h_Row_field ⟨Nat.le_of_ble_eq_true rfl, Nat.le_of_ble_eq_true rfl⟩, (hts _ q1_110), (hts _ q1_111)⟩ ⟨kf_bl, va_recv hE.1 hP (ci := 0) (q0 := 1) rfl rfl, kf_to hP hD hS hA hE [1, 2] rfl rfl⟩ rfl rfl hl.1 rfl (lv_room (Nat.le_of_ble_eq_true rfl)) d_Vol_faultOfRest_49 ⟨Nat.zero_le _, Nat.zero_le _⟩) (fun H locs hP hS => ?_)
      refine W.eq (g2 := F0 m 52 ls [.long (lN (ky_le f 224 4))]) rfl ?_
      refine lv_lload hx hb d_Vol_faultOfRest_52 (lv_at hl 1 rfl) ?_
      refine kf_lc_eq (tgt := 62) hx hb d_Vol_faultOfRest_54 d_Vol_faultOfRest_55 (by decide) (fun c54 => ?_) (fun c54 => ?_)
      · refine lv_aload_n hx hb d_Vol_faultOfRest_62 rfl (lv_at hl 4 rfl) ?_
        refine lv_sipush (v := 232) hx hb d_Vol_faultOfRest_63 (by decide) ?_
        refine lv_iconst (v := 4) hx hb d_Vol_faultOfRest_66 (by decide) ?_
        refine kf_ro hP hD hS hA [1, 2] rfl (va_runV (As := [.int 232, .int 4]) (rest := []) ⟨hx, hb, hml, hown, hts⟩ (c_Row_fieldL l D cB cI _ h1 h2 f 232 4 (by decide) (by decide)) ⟨callB_of 2 hts g_Row_field rfl rfl rfl (hts _ q1_2) (hts _ q1_109) h_Row_field ⟨Nat.le_of_ble_eq_true rfl, Nat.le_of_ble_eq_true rfl⟩, (hts _ q1_110), (hts _ q1_111)⟩ ⟨kf_bl, va_recv hE.1 hP (ci := 0) (q0 := 1) rfl rfl, kf_to hP hD hS hA hE [1, 2] rfl rfl⟩ rfl rfl hl.1 rfl (lv_room (Nat.le_of_ble_eq_true rfl)) d_Vol_faultOfRest_67 ⟨Nat.zero_le _, Nat.zero_le _⟩) (fun H locs hP hS => ?_)
        refine W.eq (g2 := F0 m 70 ls [.long (lN (ky_le f 232 4))]) rfl ?_
        refine lv_aload_n hx hb d_Vol_faultOfRest_70 rfl (lv_at hl 3 rfl) ?_
        refine va_get (D := D) (ci := 1) (v := .long fi) (C := "FieldRows$Volume") (T := F_Vol) (N := 12) hx hb hts ku_Vol hown hE.1 hP 0 rfl rfl 0 (by decide) (hts _ q1_31) (fun _ h9 => h9) rfl d_Vol_faultOfRest_71 ?_
        refine kf_lc_le (tgt := 82) hx hb d_Vol_faultOfRest_74 d_Vol_faultOfRest_75 (by decide) (fun c74 => ?_) (fun c74 => ?_)
        · refine lv_aload_n hx hb d_Vol_faultOfRest_82 rfl (lv_at hl 4 rfl) ?_
          refine lv_sipush (v := 252) hx hb d_Vol_faultOfRest_83 (by decide) ?_
          refine lv_iconst (v := 1) hx hb d_Vol_faultOfRest_86 (by decide) ?_
          refine kf_ro hP hD hS hA [1, 2] rfl (va_runV (As := [.int 252, .int 1]) (rest := []) ⟨hx, hb, hml, hown, hts⟩ (c_Row_fieldL l D cB cI _ h1 h2 f 252 1 (by decide) (by decide)) ⟨callB_of 2 hts g_Row_field rfl rfl rfl (hts _ q1_2) (hts _ q1_109) h_Row_field ⟨Nat.le_of_ble_eq_true rfl, Nat.le_of_ble_eq_true rfl⟩, (hts _ q1_110), (hts _ q1_111)⟩ ⟨kf_bl, va_recv hE.1 hP (ci := 0) (q0 := 1) rfl rfl, kf_to hP hD hS hA hE [1, 2] rfl rfl⟩ rfl rfl hl.1 rfl (lv_room (Nat.le_of_ble_eq_true rfl)) d_Vol_faultOfRest_87 ⟨Nat.zero_le _, Nat.zero_le _⟩) (fun H locs hP hS => ?_)
          refine W.eq (g2 := F0 m 90 ls [.long (lN (ky_le f 252 1))]) rfl ?_
          refine lv_lload hx hb d_Vol_faultOfRest_90 (lv_at hl 0 rfl) ?_
          refine kf_lc_eq (tgt := 100) hx hb d_Vol_faultOfRest_92 d_Vol_faultOfRest_93 (by decide) (fun c92 => ?_) (fun c92 => ?_)
          · refine lv_aload_n hx hb d_Vol_faultOfRest_100 rfl (lv_at hl 4 rfl) ?_
            refine lv_sipush (v := 254) hx hb d_Vol_faultOfRest_101 (by decide) ?_
            refine lv_iconst (v := 2) hx hb d_Vol_faultOfRest_104 (by decide) ?_
            refine kf_ro hP hD hS hA [1, 2] rfl (va_runV (As := [.int 254, .int 2]) (rest := []) ⟨hx, hb, hml, hown, hts⟩ (c_Row_fieldL l D cB cI _ h1 h2 f 254 2 (by decide) (by decide)) ⟨callB_of 2 hts g_Row_field rfl rfl rfl (hts _ q1_2) (hts _ q1_109) h_Row_field ⟨Nat.le_of_ble_eq_true rfl, Nat.le_of_ble_eq_true rfl⟩, (hts _ q1_110), (hts _ q1_111)⟩ ⟨kf_bl, va_recv hE.1 hP (ci := 0) (q0 := 1) rfl rfl, kf_to hP hD hS hA hE [1, 2] rfl rfl⟩ rfl rfl hl.1 rfl (lv_room (Nat.le_of_ble_eq_true rfl)) d_Vol_faultOfRest_105 ⟨Nat.zero_le _, Nat.zero_le _⟩) (fun H locs hP hS => ?_)
            refine W.eq (g2 := F0 m 108 ls [.long (lN (ky_le f 254 2))]) rfl ?_
            refine lv_lconst (v := 0) hx hb d_Vol_faultOfRest_108 (by decide) ?_
            refine kf_lc_ne (tgt := 118) hx hb d_Vol_faultOfRest_109 d_Vol_faultOfRest_110 (by decide) (fun c109 => ?_) (fun c109 => ?_)
            · refine lv_sipush (v := 254) hx hb d_Vol_faultOfRest_118 (by decide) ?_
              exact kf_ir hx hb hr hlocks hP hD hS (by unfold kv_re; grind) d_Vol_faultOfRest_121
            · refine lv_bipush (v := -2) hx hb d_Vol_faultOfRest_113 (by decide) ?_
              refine lv_goto (tgt := 121) hx hb d_Vol_faultOfRest_115 (by decide) ?_
              exact kf_ir hx hb hr hlocks hP hD hS (by unfold kv_re; grind) d_Vol_faultOfRest_121
          · refine lv_sipush (v := 252) hx hb d_Vol_faultOfRest_96 (by decide) ?_
            exact kf_ir hx hb hr hlocks hP hD hS (by unfold kv_re; grind) d_Vol_faultOfRest_99
        · refine lv_sipush (v := 232) hx hb d_Vol_faultOfRest_78 (by decide) ?_
          exact kf_ir hx hb hr hlocks hP hD hS (by unfold kv_re; grind) d_Vol_faultOfRest_81
      · refine lv_sipush (v := 224) hx hb d_Vol_faultOfRest_58 (by decide) ?_
        exact kf_ir hx hb hr hlocks hP hD hS (by unfold kv_re; grind) d_Vol_faultOfRest_61

set_option maxRecDepth 100000 in
set_option maxHeartbeats 4000000 in
theorem c_Vol_firstFaultOf (l : Launch) (D : va_G) (cB cI : ClassId) (hz : Nat) (h0 : Nat) (fi : Int64) (bl : Int64) (fs : Int64) (sh : Int64) (zz : Int64) (gb : Int64) (gf : Int64) (rb : Int64) (fc : Int32) (gc : Int64) (cb : Int64) (rk : Int64) (h1 : Nat) (h2 : Nat) (f : Nat → Int32) : kf_Ct l y_Vol_firstFaultOf w_Vol_firstFaultOf 4 88 0 0 D (kT cB cI) [.ref h0, .ref h1] [(h0, .inr (1, [.long fi, .long bl, .long fs, .long sh, .long zz, .long gb, .long gf, .long rb, .int fc, .long gc, .long cb, .long rk])), (h1, .inr (0, [.ref h2])), (h2, .inl (cB, 1024, .inl f))] hz (some (.int (kv_fault f))) (kf_po D [(h0, .inr (1, [.long (lN (ky_le f 0 4)), .long (lN (ky_le f 4 4)), .long (lN (ky_le f 20 4)), .long (lN (ky_le f 24 4)), .long (kv_size f), .long (lN (ky_le f 32 4)), .long (lN (ky_le f 40 4)), .long (lN (ky_le f 88 2)), .int (kv_few f), .long (kv_gc f), .long (kv_cb f), .long (kv_rk f)])), (h1, .inr (0, [.ref h2])), (h2, .inl (cB, 1024, .inl f))]) := by
  refine kf_of (cc := b_Vol_firstFaultOf) (maxL := 3) (ret := (some .int)) (by decide) rfl (Nat.le_of_ble_eq_true rfl) ?_
  intro p e s m below meth c A H locs hx hb hr hml hown hts hlocks hin hP hD hS hA hE ls hl
  have hl : lv_has ls 3 [(0, .ref h0), (1, .ref h1)] := hl
  refine lv_aload_n hx hb d_Vol_firstFaultOf_0 rfl (lv_at hl 0 rfl) ?_
  refine lv_aload_n hx hb d_Vol_firstFaultOf_1 rfl (lv_at hl 1 rfl) ?_
  refine kf_kc (wr := []) (w1 := [(h0, .inr (1, [.long (lN (ky_le f 0 4)), .long (lN (ky_le f 4 4)), .long (lN (ky_le f 20 4)), .long (lN (ky_le f 24 4)), .long (kv_size f), .long (lN (ky_le f 32 4)), .long (lN (ky_le f 40 4)), .long (lN (ky_le f 88 2)), .int (kv_few f), .long (kv_gc f), .long (kv_cb f), .long (kv_rk f)])), (h1, .inr (0, [.ref h2])), (h2, .inl (cB, 1024, .inl f))]) (ws2 := [(h0, .inr (1, [.long (lN (ky_le f 0 4)), .long (lN (ky_le f 4 4)), .long (lN (ky_le f 20 4)), .long (lN (ky_le f 24 4)), .long (kv_size f), .long (lN (ky_le f 32 4)), .long (lN (ky_le f 40 4)), .long (lN (ky_le f 88 2)), .int (kv_few f), .long (kv_gc f), .long (kv_cb f), .long (kv_rk f)])), (h1, .inr (0, [.ref h2])), (h2, .inl (cB, 1024, .inl f))]) hP hD hS hA [0, 1, 2] [] [0, 1, 2] rfl rfl rfl (by decide) rfl rfl (va_runV (As := [.ref h1]) (rest := []) ⟨hx, hb, hml, hown, hts⟩ (c_Vol_readNumbers l D cB cI _ h0 fi bl fs sh zz gb gf rb fc gc cb rk h1 h2 f) ⟨callB_of 1 hts g_Vol_readNumbers rfl rfl rfl (hts _ q1_3) (hts _ q1_126) h_Vol_readNumbers ⟨Nat.le_of_ble_eq_true rfl, Nat.le_of_ble_eq_true rfl⟩, (hts _ q1_106), (hts _ q1_107)⟩ ⟨kf_bl, va_recv hE.1 hP (ci := 1) (q0 := 0) rfl rfl, kf_to hP hD hS hA hE [0, 1, 2] rfl rfl⟩ rfl rfl hl.1 rfl (lv_room (Nat.le_of_ble_eq_true rfl)) d_Vol_firstFaultOf_2 ⟨Nat.zero_le _, Nat.zero_le _⟩) (fun H locs hP hD hS => ?_)
  refine W.eq (g2 := F0 m 5 ls []) rfl ?_
  refine lv_aload_n hx hb d_Vol_firstFaultOf_5 rfl (lv_at hl 0 rfl) ?_
  refine lv_aload_n hx hb d_Vol_firstFaultOf_6 rfl (lv_at hl 1 rfl) ?_
  refine kf_ro hP hD hS hA [0, 1, 2] rfl (va_runV (As := [.ref h1]) (rest := []) ⟨hx, hb, hml, hown, hts⟩ (c_Vol_faultOfForm l D cB cI _ h0 (lN (ky_le f 0 4)) (lN (ky_le f 4 4)) (lN (ky_le f 20 4)) (lN (ky_le f 24 4)) (kv_size f) (lN (ky_le f 32 4)) (lN (ky_le f 40 4)) (lN (ky_le f 88 2)) (kv_few f) (kv_gc f) (kv_cb f) (kv_rk f) h1 h2 f) ⟨callB_of 1 hts g_Vol_faultOfForm rfl rfl rfl (hts _ q1_3) (hts _ q1_127) h_Vol_faultOfForm ⟨Nat.le_of_ble_eq_true rfl, Nat.le_of_ble_eq_true rfl⟩, (hts _ q1_129), (hts _ q0_0)⟩ ⟨kf_bl, va_recv hE.1 hP (ci := 1) (q0 := 0) rfl rfl, kf_to hP hD hS hA hE [0, 1, 2] rfl rfl⟩ rfl rfl hl.1 rfl (lv_room (Nat.le_of_ble_eq_true rfl)) d_Vol_firstFaultOf_7 ⟨Nat.zero_le _, Nat.zero_le _⟩) (fun H locs hP hS => ?_)
  refine W.eq (g2 := F0 m 10 ls [.int (kv_form f (lN (ky_le f 24 4)) (lN (ky_le f 20 4)))]) rfl ?_
  refine lv_istore_n (lv' := [(2, .int (kv_form f (lN (ky_le f 24 4)) (lN (ky_le f 20 4)))), (0, .ref h0), (1, .ref h1)]) hx hb d_Vol_firstFaultOf_10 rfl hl (by decide) rfl (fun ls hl => ?_)
  refine lv_iload_n hx hb d_Vol_firstFaultOf_11 rfl (lv_at hl 0 rfl) ?_
  refine lv_bipush (v := -2) hx hb d_Vol_firstFaultOf_12 (by decide) ?_
  refine lv_icmp_ne (tgt := 23) hx hb d_Vol_firstFaultOf_14 (by decide) (fun c14 => ?_) (fun c14 => ?_)
  · refine lv_iload_n hx hb d_Vol_firstFaultOf_23 rfl (lv_at hl 0 rfl) ?_
    refine lv_bipush (v := -2) hx hb d_Vol_firstFaultOf_24 (by decide) ?_
    refine lv_icmp_ne (tgt := 38) hx hb d_Vol_firstFaultOf_26 (by decide) (fun c26 => ?_) (fun c26 => absurd c26 c14)
    refine lv_iload_n hx hb d_Vol_firstFaultOf_38 rfl (lv_at hl 0 rfl) ?_
    refine lv_bipush (v := -2) hx hb d_Vol_firstFaultOf_39 (by decide) ?_
    refine lv_icmp_ne (tgt := 50) hx hb d_Vol_firstFaultOf_41 (by decide) (fun c41 => ?_) (fun c41 => absurd c41 c14)
    refine lv_iload_n hx hb d_Vol_firstFaultOf_50 rfl (lv_at hl 0 rfl) ?_
    refine lv_bipush (v := -2) hx hb d_Vol_firstFaultOf_51 (by decide) ?_
    refine lv_icmp_ne (tgt := 62) hx hb d_Vol_firstFaultOf_53 (by decide) (fun c53 => ?_) (fun c53 => absurd c53 c14)
    refine lv_iload_n hx hb d_Vol_firstFaultOf_62 rfl (lv_at hl 0 rfl) ?_
    refine lv_bipush (v := -2) hx hb d_Vol_firstFaultOf_63 (by decide) ?_
    refine lv_icmp_ne (tgt := 76) hx hb d_Vol_firstFaultOf_65 (by decide) (fun c65 => ?_) (fun c65 => absurd c65 c14)
    refine lv_iload_n hx hb d_Vol_firstFaultOf_76 rfl (lv_at hl 0 rfl) ?_
    exact kf_ir hx hb hr hlocks hP hD hS (by clear hP hD hS hA hE hts hl; unfold kv_fault; grind) d_Vol_firstFaultOf_77
  · refine lv_aload_n hx hb d_Vol_firstFaultOf_17 rfl (lv_at hl 1 rfl) ?_
    refine lv_aload_n hx hb d_Vol_firstFaultOf_18 rfl (lv_at hl 2 rfl) ?_
    refine kf_ro hP hD hS hA [0, 1, 2] rfl (va_runV (As := [.ref h1]) (rest := []) ⟨hx, hb, hml, hown, hts⟩ (c_Vol_faultOfGroupSizes l D cB cI _ h0 (lN (ky_le f 0 4)) (lN (ky_le f 4 4)) (lN (ky_le f 20 4)) (lN (ky_le f 24 4)) (kv_size f) (lN (ky_le f 32 4)) (lN (ky_le f 40 4)) (lN (ky_le f 88 2)) (kv_few f) (kv_gc f) (kv_cb f) (kv_rk f) h1 h2 f) ⟨callB_of 1 hts g_Vol_faultOfGroupSizes rfl rfl rfl (hts _ q1_3) (hts _ q1_134) h_Vol_faultOfGroupSizes ⟨Nat.le_of_ble_eq_true rfl, Nat.le_of_ble_eq_true rfl⟩, (hts _ q1_136), (hts _ q0_1)⟩ ⟨kf_bl, va_recv hE.1 hP (ci := 1) (q0 := 0) rfl rfl, kf_to hP hD hS hA hE [0, 1, 2] rfl rfl⟩ rfl rfl hl.1 rfl (lv_room (Nat.le_of_ble_eq_true rfl)) d_Vol_firstFaultOf_19 ⟨Nat.zero_le _, Nat.zero_le _⟩) (fun H locs hP hS => ?_)
    refine W.eq (g2 := F0 m 22 ls [.int (kv_gs f (kv_size f) (lN (ky_le f 32 4)) (lN (ky_le f 88 2)) (lN (ky_le f 40 4)) (kv_rk f))]) rfl ?_
    refine lv_istore_n (lv' := [(2, .int (kv_gs f (kv_size f) (lN (ky_le f 32 4)) (lN (ky_le f 88 2)) (lN (ky_le f 40 4)) (kv_rk f))), (0, .ref h0), (1, .ref h1)]) hx hb d_Vol_firstFaultOf_22 rfl hl (by decide) rfl (fun ls hl => ?_)
    refine lv_iload_n hx hb d_Vol_firstFaultOf_23 rfl (lv_at hl 0 rfl) ?_
    refine lv_bipush (v := -2) hx hb d_Vol_firstFaultOf_24 (by decide) ?_
    refine lv_icmp_ne (tgt := 38) hx hb d_Vol_firstFaultOf_26 (by decide) (fun c26 => ?_) (fun c26 => ?_)
    · refine lv_iload_n hx hb d_Vol_firstFaultOf_38 rfl (lv_at hl 0 rfl) ?_
      refine lv_bipush (v := -2) hx hb d_Vol_firstFaultOf_39 (by decide) ?_
      refine lv_icmp_ne (tgt := 50) hx hb d_Vol_firstFaultOf_41 (by decide) (fun c41 => ?_) (fun c41 => absurd c41 c26)
      refine lv_iload_n hx hb d_Vol_firstFaultOf_50 rfl (lv_at hl 0 rfl) ?_
      refine lv_bipush (v := -2) hx hb d_Vol_firstFaultOf_51 (by decide) ?_
      refine lv_icmp_ne (tgt := 62) hx hb d_Vol_firstFaultOf_53 (by decide) (fun c53 => ?_) (fun c53 => absurd c53 c26)
      refine lv_iload_n hx hb d_Vol_firstFaultOf_62 rfl (lv_at hl 0 rfl) ?_
      refine lv_bipush (v := -2) hx hb d_Vol_firstFaultOf_63 (by decide) ?_
      refine lv_icmp_ne (tgt := 76) hx hb d_Vol_firstFaultOf_65 (by decide) (fun c65 => ?_) (fun c65 => absurd c65 c26)
      refine lv_iload_n hx hb d_Vol_firstFaultOf_76 rfl (lv_at hl 0 rfl) ?_
      exact kf_ir hx hb hr hlocks hP hD hS (by clear hP hD hS hA hE hts hl; unfold kv_fault; grind) d_Vol_firstFaultOf_77
    · refine lv_aload_n hx hb d_Vol_firstFaultOf_29 rfl (lv_at hl 1 rfl) ?_
      refine kf_ro hP hD hS hA [0] rfl (va_runV (As := []) (rest := []) ⟨hx, hb, hml, hown, hts⟩ (c_Vol_everyGroupHasRoom l D cB cI _ h0 (lN (ky_le f 0 4)) (lN (ky_le f 4 4)) (lN (ky_le f 20 4)) (lN (ky_le f 24 4)) (kv_size f) (lN (ky_le f 32 4)) (lN (ky_le f 40 4)) (lN (ky_le f 88 2)) (kv_few f) (kv_gc f) (kv_cb f) (kv_rk f)) ⟨callB_of 0 hts g_Vol_everyGroupHasRoom rfl rfl rfl (hts _ q1_3) (hts _ q1_152) h_Vol_everyGroupHasRoom ⟨Nat.le_of_ble_eq_true rfl, Nat.le_of_ble_eq_true rfl⟩, (hts _ q1_154), (hts _ q0_2)⟩ ⟨kf_bl, va_recv hE.1 hP (ci := 1) (q0 := 0) rfl rfl, kf_to hP hD hS hA hE [0] rfl rfl⟩ rfl rfl hl.1 rfl (lv_room (Nat.le_of_ble_eq_true rfl)) d_Vol_firstFaultOf_30 ⟨Nat.zero_le _, Nat.zero_le _⟩) (fun H locs hP hS => ?_)
      refine W.eq (g2 := F0 m 33 ls [.int (kP (kv_rmP (lN (ky_le f 4 4)) (lN (ky_le f 20 4)) (lN (ky_le f 32 4)) (kv_gc f) (kv_cb f) (kv_rk f) (kv_few f)))]) rfl ?_
      refine lv_if_ne (tgt := 38) hx hb d_Vol_firstFaultOf_33 (by decide) (fun c33 => ?_) (fun c33 => ?_)
      · refine lv_iload_n hx hb d_Vol_firstFaultOf_38 rfl (lv_at hl 0 rfl) ?_
        refine lv_bipush (v := -2) hx hb d_Vol_firstFaultOf_39 (by decide) ?_
        refine lv_icmp_ne (tgt := 50) hx hb d_Vol_firstFaultOf_41 (by decide) (fun c41 => absurd c26 c41) (fun c41 => ?_)
        refine lv_aload_n hx hb d_Vol_firstFaultOf_44 rfl (lv_at hl 1 rfl) ?_
        refine lv_aload_n hx hb d_Vol_firstFaultOf_45 rfl (lv_at hl 2 rfl) ?_
        refine kf_ro hP hD hS hA [0, 1, 2] rfl (va_runV (As := [.ref h1]) (rest := []) ⟨hx, hb, hml, hown, hts⟩ (c_Vol_faultOfCounts l D cB cI _ h0 (lN (ky_le f 0 4)) (lN (ky_le f 4 4)) (lN (ky_le f 20 4)) (lN (ky_le f 24 4)) (kv_size f) (lN (ky_le f 32 4)) (lN (ky_le f 40 4)) (lN (ky_le f 88 2)) (kv_few f) (kv_gc f) (kv_cb f) (kv_rk f) h1 h2 f) ⟨callB_of 1 hts g_Vol_faultOfCounts rfl rfl rfl (hts _ q1_3) (hts _ q1_182) h_Vol_faultOfCounts ⟨Nat.le_of_ble_eq_true rfl, Nat.le_of_ble_eq_true rfl⟩, (hts _ q1_184), (hts _ q0_3)⟩ ⟨kf_bl, va_recv hE.1 hP (ci := 1) (q0 := 0) rfl rfl, kf_to hP hD hS hA hE [0, 1, 2] rfl rfl⟩ rfl rfl hl.1 rfl (lv_room (Nat.le_of_ble_eq_true rfl)) d_Vol_firstFaultOf_46 ⟨Nat.zero_le _, Nat.zero_le _⟩) (fun H locs hP hS => ?_)
        refine W.eq (g2 := F0 m 49 ls [.int (kv_ct f (lN (ky_le f 0 4)) (lN (ky_le f 4 4)) (lN (ky_le f 40 4)) (kv_gc f) (kv_few f))]) rfl ?_
        refine lv_istore_n (lv' := [(2, .int (kv_ct f (lN (ky_le f 0 4)) (lN (ky_le f 4 4)) (lN (ky_le f 40 4)) (kv_gc f) (kv_few f))), (0, .ref h0), (1, .ref h1)]) hx hb d_Vol_firstFaultOf_49 rfl hl (by decide) rfl (fun ls hl => ?_)
        refine lv_iload_n hx hb d_Vol_firstFaultOf_50 rfl (lv_at hl 0 rfl) ?_
        refine lv_bipush (v := -2) hx hb d_Vol_firstFaultOf_51 (by decide) ?_
        refine lv_icmp_ne (tgt := 62) hx hb d_Vol_firstFaultOf_53 (by decide) (fun c53 => ?_) (fun c53 => ?_)
        · refine lv_iload_n hx hb d_Vol_firstFaultOf_62 rfl (lv_at hl 0 rfl) ?_
          refine lv_bipush (v := -2) hx hb d_Vol_firstFaultOf_63 (by decide) ?_
          refine lv_icmp_ne (tgt := 76) hx hb d_Vol_firstFaultOf_65 (by decide) (fun c65 => ?_) (fun c65 => absurd c65 c53)
          refine lv_iload_n hx hb d_Vol_firstFaultOf_76 rfl (lv_at hl 0 rfl) ?_
          have h33 := by first | exact kP_ne c33 | exact kP_eq c33
          exact kf_ir hx hb hr hlocks hP hD hS (by clear hP hD hS hA hE hts hl; unfold kv_fault; grind) d_Vol_firstFaultOf_77
        · refine lv_aload_n hx hb d_Vol_firstFaultOf_56 rfl (lv_at hl 1 rfl) ?_
          refine lv_aload_n hx hb d_Vol_firstFaultOf_57 rfl (lv_at hl 2 rfl) ?_
          refine kf_ro hP hD hS hA [0, 1, 2] rfl (va_runV (As := [.ref h1]) (rest := []) ⟨hx, hb, hml, hown, hts⟩ (c_Vol_faultOfFeatures l D cB cI _ h0 (lN (ky_le f 0 4)) (lN (ky_le f 4 4)) (lN (ky_le f 20 4)) (lN (ky_le f 24 4)) (kv_size f) (lN (ky_le f 32 4)) (lN (ky_le f 40 4)) (lN (ky_le f 88 2)) (kv_few f) (kv_gc f) (kv_cb f) (kv_rk f) h1 h2 f) ⟨callB_of 1 hts g_Vol_faultOfFeatures rfl rfl rfl (hts _ q1_3) (hts _ q1_188) h_Vol_faultOfFeatures ⟨Nat.le_of_ble_eq_true rfl, Nat.le_of_ble_eq_true rfl⟩, (hts _ q1_190), (hts _ q0_4)⟩ ⟨kf_bl, va_recv hE.1 hP (ci := 1) (q0 := 0) rfl rfl, kf_to hP hD hS hA hE [0, 1, 2] rfl rfl⟩ rfl rfl hl.1 rfl (lv_room (Nat.le_of_ble_eq_true rfl)) d_Vol_firstFaultOf_58 ⟨Nat.zero_le _, Nat.zero_le _⟩) (fun H locs hP hS => ?_)
          refine W.eq (g2 := F0 m 61 ls [.int (kv_ft f)]) rfl ?_
          refine lv_istore_n (lv' := [(2, .int (kv_ft f)), (0, .ref h0), (1, .ref h1)]) hx hb d_Vol_firstFaultOf_61 rfl hl (by decide) rfl (fun ls hl => ?_)
          refine lv_iload_n hx hb d_Vol_firstFaultOf_62 rfl (lv_at hl 0 rfl) ?_
          refine lv_bipush (v := -2) hx hb d_Vol_firstFaultOf_63 (by decide) ?_
          refine lv_icmp_ne (tgt := 76) hx hb d_Vol_firstFaultOf_65 (by decide) (fun c65 => ?_) (fun c65 => ?_)
          · refine lv_iload_n hx hb d_Vol_firstFaultOf_76 rfl (lv_at hl 0 rfl) ?_
            have h33 := by first | exact kP_ne c33 | exact kP_eq c33
            exact kf_ir hx hb hr hlocks hP hD hS (by clear hP hD hS hA hE hts hl; unfold kv_fault; grind) d_Vol_firstFaultOf_77
          · refine lv_aload_n hx hb d_Vol_firstFaultOf_68 rfl (lv_at hl 1 rfl) ?_
            refine lv_aload_n hx hb d_Vol_firstFaultOf_69 rfl (lv_at hl 2 rfl) ?_
            refine kf_ro hP hD hS hA [0, 1, 2] rfl (va_runV (As := [.ref h1]) (rest := []) ⟨hx, hb, hml, hown, hts⟩ (c_Vol_faultOfRest l D cB cI _ h0 (lN (ky_le f 0 4)) (lN (ky_le f 4 4)) (lN (ky_le f 20 4)) (lN (ky_le f 24 4)) (kv_size f) (lN (ky_le f 32 4)) (lN (ky_le f 40 4)) (lN (ky_le f 88 2)) (kv_few f) (kv_gc f) (kv_cb f) (kv_rk f) h1 h2 f) ⟨callB_of 1 hts g_Vol_faultOfRest rfl rfl rfl (hts _ q1_3) (hts _ q1_199) h_Vol_faultOfRest ⟨Nat.le_of_ble_eq_true rfl, Nat.le_of_ble_eq_true rfl⟩, (hts _ q1_201), (hts _ q0_5)⟩ ⟨kf_bl, va_recv hE.1 hP (ci := 1) (q0 := 0) rfl rfl, kf_to hP hD hS hA hE [0, 1, 2] rfl rfl⟩ rfl rfl hl.1 rfl (lv_room (Nat.le_of_ble_eq_true rfl)) d_Vol_firstFaultOf_70 ⟨Nat.zero_le _, Nat.zero_le _⟩) (fun H locs hP hS => ?_)
            refine W.eq (g2 := F0 m 73 ls [.int (kv_re f (lN (ky_le f 0 4)))]) rfl ?_
            refine lv_goto (tgt := 77) hx hb d_Vol_firstFaultOf_73 (by decide) ?_
            have h33 := by first | exact kP_ne c33 | exact kP_eq c33
            exact kf_ir hx hb hr hlocks hP hD hS (by clear hP hD hS hA hE hts hl; unfold kv_fault; grind) d_Vol_firstFaultOf_77
      · refine lv_iconst (v := 4) hx hb d_Vol_firstFaultOf_36 (by decide) ?_
        refine lv_istore_n (lv' := [(2, .int 4), (0, .ref h0), (1, .ref h1)]) hx hb d_Vol_firstFaultOf_37 rfl hl (by decide) rfl (fun ls hl => ?_)
        refine lv_iload_n hx hb d_Vol_firstFaultOf_38 rfl (lv_at hl 0 rfl) ?_
        refine lv_bipush (v := -2) hx hb d_Vol_firstFaultOf_39 (by decide) ?_
        refine lv_icmp_ne (tgt := 50) hx hb d_Vol_firstFaultOf_41 (by decide) (fun c41 => ?_) (fun c41 => absurd c41 (by decide))
        refine lv_iload_n hx hb d_Vol_firstFaultOf_50 rfl (lv_at hl 0 rfl) ?_
        refine lv_bipush (v := -2) hx hb d_Vol_firstFaultOf_51 (by decide) ?_
        refine lv_icmp_ne (tgt := 62) hx hb d_Vol_firstFaultOf_53 (by decide) (fun c53 => ?_) (fun c53 => absurd c53 (by decide))
        refine lv_iload_n hx hb d_Vol_firstFaultOf_62 rfl (lv_at hl 0 rfl) ?_
        refine lv_bipush (v := -2) hx hb d_Vol_firstFaultOf_63 (by decide) ?_
        refine lv_icmp_ne (tgt := 76) hx hb d_Vol_firstFaultOf_65 (by decide) (fun c65 => ?_) (fun c65 => absurd c65 (by decide))
        refine lv_iload_n hx hb d_Vol_firstFaultOf_76 rfl (lv_at hl 0 rfl) ?_
        have h33 := by first | exact kP_ne c33 | exact kP_eq c33
        exact kf_ir hx hb hr hlocks hP hD hS (by clear hP hD hS hA hE hts hl; unfold kv_fault; grind) d_Vol_firstFaultOf_77
