set_option maxRecDepth 100000 in
set_option maxHeartbeats 4000000 in
theorem c_Mo_get (l : Launch) (D : va_G) (cB cI : ClassId) (hz : Nat) (y : Nat) (a0 : Nat) (a1 : Nat) (a2 : Nat) (g0 : Nat → Int32) (g1 : Nat → Int32) (gd : Nat → Int32) (hg0 : km_ok g0) (hg1 : km_ok g1) (p1 : Int32) (p2 : Int32) (p3 : Int32) : kf_Ct l y_Mo_get w_Mo_get 2 42 0 0 D (kT cB cI) [.ref y, .int p1, .int p2, .int p3] [(y, .inr (3, [.ref a0, .ref a1, .ref a2])), (a0, .inl (cI, 1024, .inl g0)), (a1, .inl (cI, 1024, .inl g1)), (a2, .inl (cI, 1024, .inl gd))] hz (some (.long (if p1 = 0 then ky_fl g0 p2 p3 else if p1 = 1 then ky_fl g1 p2 p3 else -1))) (kx_Mo D cI y a0 a1 a2 g0 g1) := by
  refine kf_of (cc := b_Mo_get) (maxL := 4) (ret := (some .long)) (by decide) rfl (Nat.le_of_ble_eq_true rfl) ?_
  intro p e s m below meth c A H locs hx hb hr hml hown hts hlocks hin hP hD hS hA hE ls hl
  have hl : lv_has ls 4 [(0, .ref y), (1, .int p1), (2, .int p2), (3, .int p3)] := hl
  rcases ky_row p1 with rfl | rfl | ⟨hn0, hn1⟩
  · refine lv_iload_n hx hb d_Mo_get_0 rfl (lv_at hl 1 rfl) ?_
    refine lv_iload_n hx hb d_Mo_get_1 rfl (lv_at hl 2 rfl) ?_
    refine lv_iload_n hx hb d_Mo_get_2 rfl (lv_at hl 3 rfl) ?_
    refine kf_ro hP hD hS hA [] rfl (va_runS (As := [.int 0, .int p2, .int p3]) (rest := []) ⟨hx, hb, hml, hown, hts⟩ (c_Mo_isField l D cB cI _ 0 p2 p3) ⟨callB_of 3 hts g_Mo_isField rfl rfl rfl (hts _ q1_5) (hts _ q2_171) h_Mo_isField ⟨Nat.le_of_ble_eq_true rfl, Nat.le_of_ble_eq_true rfl⟩, (hts _ q2_172)⟩ ⟨kf_bl, kf_to hP hD hS hA hE [] rfl rfl⟩ rfl rfl hl.1 rfl (lv_room (Nat.le_of_ble_eq_true rfl)) d_Mo_get_3 ⟨Nat.zero_le _, Nat.zero_le _⟩) (fun H locs hP hS => ?_)
    refine W.eq (g2 := F0 m 6 ls [.int (kP ((0 = 0 ∨ 0 = 1) ∧ ky_isFP p2 p3))]) rfl ?_
    refine lv_if_eq (tgt := 22) hx hb d_Mo_get_6 (by decide) (fun c6 => ?_) (fun c6 => ?_)
    · refine lv_ldc2 (v := -1) hx hb hown (hts _ q2_178) d_Mo_get_22 ?_
      exact kf_lrB hx hb hr hlocks (kx_atM hP hD) hS (by rw [if_pos rfl]; unfold ky_fl; rw [if_neg (fun q => kP_eq c6 ⟨Or.inl rfl, q⟩)]) d_Mo_get_25
    · obtain ⟨a, n, rfl, rfl, hn, han⟩ := ky_isF_of (kP_ne c6).2
      refine lv_aload_n hx hb d_Mo_get_9 rfl (lv_at hl 0 rfl) ?_
      refine lv_iload_n hx hb d_Mo_get_10 rfl (lv_at hl 1 rfl) ?_
      refine kf_ro hP hD hS hA [0] rfl (va_runV (As := [.int 0]) (rest := []) ⟨hx, hb, hml, hown, hts⟩ (c_Mo_rowOf_0 l D cB cI _ y a0 a1 a2) ⟨callB_of 1 hts g_Mo_rowOf rfl rfl rfl (hts _ q1_5) (hts _ q2_163) h_Mo_rowOf ⟨Nat.le_of_ble_eq_true rfl, Nat.le_of_ble_eq_true rfl⟩, (hts _ q2_165), (hts _ q0_8)⟩ ⟨kf_bl, va_recv hE.1 hP (ci := 3) (q0 := 0) rfl rfl, kf_to hP hD hS hA hE [0] rfl rfl⟩ rfl rfl hl.1 rfl (lv_room (Nat.le_of_ble_eq_true rfl)) d_Mo_get_11 ⟨Nat.zero_le _, Nat.zero_le _⟩) (fun H locs hP hS => ?_)
      refine W.eq (g2 := F0 m 14 ls [.ref a0]) rfl ?_
      refine lv_iload_n hx hb d_Mo_get_14 rfl (lv_at hl 2 rfl) ?_
      refine lv_iload_n hx hb d_Mo_get_15 rfl (lv_at hl 3 rfl) ?_
      refine kf_ro hP hD hS hA [1] rfl (va_runS (As := [.ref a0, .int (nI a), .int (nI n)]) (rest := []) ⟨hx, hb, hml, hown, hts⟩ (c_Mo_field l D cB cI _ a0 g0 hg0 a n (by omega)) ⟨callB_of 3 hts g_Mo_field rfl rfl rfl (hts _ q1_5) (hts _ q2_76) h_Mo_field ⟨Nat.le_of_ble_eq_true rfl, Nat.le_of_ble_eq_true rfl⟩, (hts _ q2_77)⟩ ⟨kf_bl, kf_to hP hD hS hA hE [1] rfl rfl⟩ rfl rfl hl.1 rfl (lv_room (Nat.le_of_ble_eq_true rfl)) d_Mo_get_16 ⟨Nat.zero_le _, Nat.zero_le _⟩) (fun H locs hP hS => ?_)
      refine W.eq (g2 := F0 m 19 ls [.long (lN (ky_le g0 a n))]) rfl ?_
      refine lv_goto (tgt := 25) hx hb d_Mo_get_19 (by decide) ?_
      exact kf_lrB hx hb hr hlocks (kx_atM hP hD) hS (by rw [if_pos rfl, ky_fl_mk g0 hn han]) d_Mo_get_25
  · refine lv_iload_n hx hb d_Mo_get_0 rfl (lv_at hl 1 rfl) ?_
    refine lv_iload_n hx hb d_Mo_get_1 rfl (lv_at hl 2 rfl) ?_
    refine lv_iload_n hx hb d_Mo_get_2 rfl (lv_at hl 3 rfl) ?_
    refine kf_ro hP hD hS hA [] rfl (va_runS (As := [.int 1, .int p2, .int p3]) (rest := []) ⟨hx, hb, hml, hown, hts⟩ (c_Mo_isField l D cB cI _ 1 p2 p3) ⟨callB_of 3 hts g_Mo_isField rfl rfl rfl (hts _ q1_5) (hts _ q2_171) h_Mo_isField ⟨Nat.le_of_ble_eq_true rfl, Nat.le_of_ble_eq_true rfl⟩, (hts _ q2_172)⟩ ⟨kf_bl, kf_to hP hD hS hA hE [] rfl rfl⟩ rfl rfl hl.1 rfl (lv_room (Nat.le_of_ble_eq_true rfl)) d_Mo_get_3 ⟨Nat.zero_le _, Nat.zero_le _⟩) (fun H locs hP hS => ?_)
    refine W.eq (g2 := F0 m 6 ls [.int (kP ((1 = 0 ∨ 1 = 1) ∧ ky_isFP p2 p3))]) rfl ?_
    refine lv_if_eq (tgt := 22) hx hb d_Mo_get_6 (by decide) (fun c6 => ?_) (fun c6 => ?_)
    · refine lv_ldc2 (v := -1) hx hb hown (hts _ q2_178) d_Mo_get_22 ?_
      exact kf_lrB hx hb hr hlocks (kx_atM hP hD) hS (by rw [if_neg (by decide), if_pos rfl]; unfold ky_fl; rw [if_neg (fun q => kP_eq c6 ⟨Or.inr rfl, q⟩)]) d_Mo_get_25
    · obtain ⟨a, n, rfl, rfl, hn, han⟩ := ky_isF_of (kP_ne c6).2
      refine lv_aload_n hx hb d_Mo_get_9 rfl (lv_at hl 0 rfl) ?_
      refine lv_iload_n hx hb d_Mo_get_10 rfl (lv_at hl 1 rfl) ?_
      refine kf_ro hP hD hS hA [0] rfl (va_runV (As := [.int 1]) (rest := []) ⟨hx, hb, hml, hown, hts⟩ (c_Mo_rowOf_1 l D cB cI _ y a0 a1 a2) ⟨callB_of 1 hts g_Mo_rowOf rfl rfl rfl (hts _ q1_5) (hts _ q2_163) h_Mo_rowOf ⟨Nat.le_of_ble_eq_true rfl, Nat.le_of_ble_eq_true rfl⟩, (hts _ q2_165), (hts _ q0_8)⟩ ⟨kf_bl, va_recv hE.1 hP (ci := 3) (q0 := 0) rfl rfl, kf_to hP hD hS hA hE [0] rfl rfl⟩ rfl rfl hl.1 rfl (lv_room (Nat.le_of_ble_eq_true rfl)) d_Mo_get_11 ⟨Nat.zero_le _, Nat.zero_le _⟩) (fun H locs hP hS => ?_)
      refine W.eq (g2 := F0 m 14 ls [.ref a1]) rfl ?_
      refine lv_iload_n hx hb d_Mo_get_14 rfl (lv_at hl 2 rfl) ?_
      refine lv_iload_n hx hb d_Mo_get_15 rfl (lv_at hl 3 rfl) ?_
      refine kf_ro hP hD hS hA [2] rfl (va_runS (As := [.ref a1, .int (nI a), .int (nI n)]) (rest := []) ⟨hx, hb, hml, hown, hts⟩ (c_Mo_field l D cB cI _ a1 g1 hg1 a n (by omega)) ⟨callB_of 3 hts g_Mo_field rfl rfl rfl (hts _ q1_5) (hts _ q2_76) h_Mo_field ⟨Nat.le_of_ble_eq_true rfl, Nat.le_of_ble_eq_true rfl⟩, (hts _ q2_77)⟩ ⟨kf_bl, kf_to hP hD hS hA hE [2] rfl rfl⟩ rfl rfl hl.1 rfl (lv_room (Nat.le_of_ble_eq_true rfl)) d_Mo_get_16 ⟨Nat.zero_le _, Nat.zero_le _⟩) (fun H locs hP hS => ?_)
      refine W.eq (g2 := F0 m 19 ls [.long (lN (ky_le g1 a n))]) rfl ?_
      refine lv_goto (tgt := 25) hx hb d_Mo_get_19 (by decide) ?_
      exact kf_lrB hx hb hr hlocks (kx_atM hP hD) hS (by rw [if_neg (by decide), if_pos rfl, ky_fl_mk g1 hn han]) d_Mo_get_25
  · refine lv_iload_n hx hb d_Mo_get_0 rfl (lv_at hl 1 rfl) ?_
    refine lv_iload_n hx hb d_Mo_get_1 rfl (lv_at hl 2 rfl) ?_
    refine lv_iload_n hx hb d_Mo_get_2 rfl (lv_at hl 3 rfl) ?_
    refine kf_ro hP hD hS hA [] rfl (va_runS (As := [.int p1, .int p2, .int p3]) (rest := []) ⟨hx, hb, hml, hown, hts⟩ (c_Mo_isField l D cB cI _ p1 p2 p3) ⟨callB_of 3 hts g_Mo_isField rfl rfl rfl (hts _ q1_5) (hts _ q2_171) h_Mo_isField ⟨Nat.le_of_ble_eq_true rfl, Nat.le_of_ble_eq_true rfl⟩, (hts _ q2_172)⟩ ⟨kf_bl, kf_to hP hD hS hA hE [] rfl rfl⟩ rfl rfl hl.1 rfl (lv_room (Nat.le_of_ble_eq_true rfl)) d_Mo_get_3 ⟨Nat.zero_le _, Nat.zero_le _⟩) (fun H locs hP hS => ?_)
    refine W.eq (g2 := F0 m 6 ls [.int (kP ((p1 = 0 ∨ p1 = 1) ∧ ky_isFP p2 p3))]) rfl ?_
    refine lv_if_eq (tgt := 22) hx hb d_Mo_get_6 (by decide) (fun c6 => ?_) (fun c6 => ?_)
    · refine lv_ldc2 (v := -1) hx hb hown (hts _ q2_178) d_Mo_get_22 ?_
      exact kf_lrB hx hb hr hlocks (kx_atM hP hD) hS (by rw [if_neg hn0, if_neg hn1]) d_Mo_get_25
    · exact absurd (kP_ne c6).1 (fun q => q.elim hn0 hn1)

set_option maxRecDepth 100000 in
set_option maxHeartbeats 4000000 in
theorem c_Mo_put (l : Launch) (D : va_G) (cB cI : ClassId) (hz : Nat) (y : Nat) (a0 : Nat) (a1 : Nat) (a2 : Nat) (g0 : Nat → Int32) (g1 : Nat → Int32) (gd : Nat → Int32) (hg0 : km_ok g0) (hg1 : km_ok g1) (p1 : Int32) (p2 : Int32) (p3 : Int32) (p4 : Int32) : kf_Ct l y_Mo_put w_Mo_put 2 42 0 0 D (kT cB cI) [.ref y, .int p1, .int p2, .int p3, .int p4] [(y, .inr (3, [.ref a0, .ref a1, .ref a2])), (a0, .inl (cI, 1024, .inl g0)), (a1, .inl (cI, 1024, .inl g1)), (a2, .inl (cI, 1024, .inl gd))] hz (some (.int (if (p1 = 0 ∨ p1 = 1) ∧ ky_isFP p2 p3 then 0 else -1))) (kx_Mo D cI y a0 a1 a2 (if p1 = 0 then km_ww g0 p2 p3 p4.toInt64 else g0) (if p1 = 1 then km_ww g1 p2 p3 p4.toInt64 else g1)) := by
  refine kf_of (cc := b_Mo_put) (maxL := 5) (ret := (some .int)) (by decide) rfl (Nat.le_of_ble_eq_true rfl) ?_
  intro p e s m below meth c A H locs hx hb hr hml hown hts hlocks hin hP hD hS hA hE ls hl
  have hl : lv_has ls 5 [(0, .ref y), (1, .int p1), (2, .int p2), (3, .int p3), (4, .int p4)] := hl
  rcases ky_row p1 with rfl | rfl | ⟨hn0, hn1⟩
  · refine lv_iload_n hx hb d_Mo_put_0 rfl (lv_at hl 1 rfl) ?_
    refine lv_iload_n hx hb d_Mo_put_1 rfl (lv_at hl 2 rfl) ?_
    refine lv_iload_n hx hb d_Mo_put_2 rfl (lv_at hl 3 rfl) ?_
    refine kf_ro hP hD hS hA [] rfl (va_runS (As := [.int 0, .int p2, .int p3]) (rest := []) ⟨hx, hb, hml, hown, hts⟩ (c_Mo_isField l D cB cI _ 0 p2 p3) ⟨callB_of 3 hts g_Mo_isField rfl rfl rfl (hts _ q1_5) (hts _ q2_171) h_Mo_isField ⟨Nat.le_of_ble_eq_true rfl, Nat.le_of_ble_eq_true rfl⟩, (hts _ q2_172)⟩ ⟨kf_bl, kf_to hP hD hS hA hE [] rfl rfl⟩ rfl rfl hl.1 rfl (lv_room (Nat.le_of_ble_eq_true rfl)) d_Mo_put_3 ⟨Nat.zero_le _, Nat.zero_le _⟩) (fun H locs hP hS => ?_)
    refine W.eq (g2 := F0 m 6 ls [.int (kP ((0 = 0 ∨ 0 = 1) ∧ ky_isFP p2 p3))]) rfl ?_
    refine lv_if_ne (tgt := 11) hx hb d_Mo_put_6 (by decide) (fun c6 => ?_) (fun c6 => ?_)
    · obtain ⟨a, n, rfl, rfl, hn, han⟩ := ky_isF_of (kP_ne c6).2
      refine lv_aload_n hx hb d_Mo_put_11 rfl (lv_at hl 0 rfl) ?_
      refine lv_iload_n hx hb d_Mo_put_12 rfl (lv_at hl 1 rfl) ?_
      refine kf_ro hP hD hS hA [0] rfl (va_runV (As := [.int 0]) (rest := []) ⟨hx, hb, hml, hown, hts⟩ (c_Mo_rowOf_0 l D cB cI _ y a0 a1 a2) ⟨callB_of 1 hts g_Mo_rowOf rfl rfl rfl (hts _ q1_5) (hts _ q2_163) h_Mo_rowOf ⟨Nat.le_of_ble_eq_true rfl, Nat.le_of_ble_eq_true rfl⟩, (hts _ q2_165), (hts _ q0_8)⟩ ⟨kf_bl, va_recv hE.1 hP (ci := 3) (q0 := 0) rfl rfl, kf_to hP hD hS hA hE [0] rfl rfl⟩ rfl rfl hl.1 rfl (lv_room (Nat.le_of_ble_eq_true rfl)) d_Mo_put_13 ⟨Nat.zero_le _, Nat.zero_le _⟩) (fun H locs hP hS => ?_)
      refine W.eq (g2 := F0 m 16 ls [.ref a0]) rfl ?_
      refine lv_iload_n hx hb d_Mo_put_16 rfl (lv_at hl 2 rfl) ?_
      refine lv_iload_n hx hb d_Mo_put_17 rfl (lv_at hl 3 rfl) ?_
      refine lv_iload hx hb d_Mo_put_18 (lv_at hl 4 rfl) ?_
      refine lv_i2l hx hb d_Mo_put_20 rfl ?_
      refine kf_kc (wr := [(y, .inr (3, [.ref a0, .ref a1, .ref a2])), (a1, .inl (cI, 1024, .inl g1)), (a2, .inl (cI, 1024, .inl gd))]) (w1 := [(a0, .inl (cI, 1024, .inl (km_st g0 a p4.toInt64 n)))]) (ws2 := [(y, .inr (3, [.ref a0, .ref a1, .ref a2])), (a0, .inl (cI, 1024, .inl (km_st g0 a p4.toInt64 n))), (a1, .inl (cI, 1024, .inl g1)), (a2, .inl (cI, 1024, .inl gd))]) hP hD hS hA [1] [0, 2, 3] [0, 3, 1, 2] rfl rfl rfl (by decide) rfl rfl (va_runS (As := [.ref a0, .int (nI a), .int (nI n), .long p4.toInt64]) (rest := []) ⟨hx, hb, hml, hown, hts⟩ (c_Mo_set l D cB cI _ a0 g0 a n p4.toInt64 (by omega)) ⟨callB_of 4 hts g_Mo_set rfl rfl rfl (hts _ q1_5) (hts _ q2_62) h_Mo_set ⟨Nat.le_of_ble_eq_true rfl, Nat.le_of_ble_eq_true rfl⟩, (hts _ q2_63)⟩ ⟨kf_bl, kf_to hP hD hS hA hE [1] rfl rfl⟩ rfl rfl hl.1 rfl (lv_room (Nat.le_of_ble_eq_true rfl)) d_Mo_put_21 ⟨Nat.zero_le _, Nat.zero_le _⟩) (fun H locs hP hD hS => ?_)
      refine W.eq (g2 := F0 m 24 ls []) rfl ?_
      refine lv_iconst (v := 0) hx hb d_Mo_put_24 (by decide) ?_
      have hw := km_ww_mk g0 p4.toInt64 hn han
      simp only [if_pos (rfl : (0 : Int32) = 0), if_neg (show ¬ (0 : Int32) = 1 by decide), hw]
      exact kf_irB hx hb hr hlocks (kx_atM hP hD) hS (by have hq := (kP_ne c6).2; simp [hq]) d_Mo_put_25
    · refine lv_iconst (v := -1) hx hb d_Mo_put_9 (by decide) ?_
      have hf : ¬ ky_isFP p2 p3 := fun q => kP_eq c6 ⟨Or.inl rfl, q⟩
      have hw : km_ww g0 p2 p3 p4.toInt64 = g0 := if_neg hf
      simp only [if_pos (rfl : (0 : Int32) = 0), if_neg (show ¬ (0 : Int32) = 1 by decide), hw]
      exact kf_irB hx hb hr hlocks (kx_atM hP hD) hS (by rw [if_neg (fun q => hf q.2)]) d_Mo_put_10
  · refine lv_iload_n hx hb d_Mo_put_0 rfl (lv_at hl 1 rfl) ?_
    refine lv_iload_n hx hb d_Mo_put_1 rfl (lv_at hl 2 rfl) ?_
    refine lv_iload_n hx hb d_Mo_put_2 rfl (lv_at hl 3 rfl) ?_
    refine kf_ro hP hD hS hA [] rfl (va_runS (As := [.int 1, .int p2, .int p3]) (rest := []) ⟨hx, hb, hml, hown, hts⟩ (c_Mo_isField l D cB cI _ 1 p2 p3) ⟨callB_of 3 hts g_Mo_isField rfl rfl rfl (hts _ q1_5) (hts _ q2_171) h_Mo_isField ⟨Nat.le_of_ble_eq_true rfl, Nat.le_of_ble_eq_true rfl⟩, (hts _ q2_172)⟩ ⟨kf_bl, kf_to hP hD hS hA hE [] rfl rfl⟩ rfl rfl hl.1 rfl (lv_room (Nat.le_of_ble_eq_true rfl)) d_Mo_put_3 ⟨Nat.zero_le _, Nat.zero_le _⟩) (fun H locs hP hS => ?_)
    refine W.eq (g2 := F0 m 6 ls [.int (kP ((1 = 0 ∨ 1 = 1) ∧ ky_isFP p2 p3))]) rfl ?_
    refine lv_if_ne (tgt := 11) hx hb d_Mo_put_6 (by decide) (fun c6 => ?_) (fun c6 => ?_)
    · obtain ⟨a, n, rfl, rfl, hn, han⟩ := ky_isF_of (kP_ne c6).2
      refine lv_aload_n hx hb d_Mo_put_11 rfl (lv_at hl 0 rfl) ?_
      refine lv_iload_n hx hb d_Mo_put_12 rfl (lv_at hl 1 rfl) ?_
      refine kf_ro hP hD hS hA [0] rfl (va_runV (As := [.int 1]) (rest := []) ⟨hx, hb, hml, hown, hts⟩ (c_Mo_rowOf_1 l D cB cI _ y a0 a1 a2) ⟨callB_of 1 hts g_Mo_rowOf rfl rfl rfl (hts _ q1_5) (hts _ q2_163) h_Mo_rowOf ⟨Nat.le_of_ble_eq_true rfl, Nat.le_of_ble_eq_true rfl⟩, (hts _ q2_165), (hts _ q0_8)⟩ ⟨kf_bl, va_recv hE.1 hP (ci := 3) (q0 := 0) rfl rfl, kf_to hP hD hS hA hE [0] rfl rfl⟩ rfl rfl hl.1 rfl (lv_room (Nat.le_of_ble_eq_true rfl)) d_Mo_put_13 ⟨Nat.zero_le _, Nat.zero_le _⟩) (fun H locs hP hS => ?_)
      refine W.eq (g2 := F0 m 16 ls [.ref a1]) rfl ?_
      refine lv_iload_n hx hb d_Mo_put_16 rfl (lv_at hl 2 rfl) ?_
      refine lv_iload_n hx hb d_Mo_put_17 rfl (lv_at hl 3 rfl) ?_
      refine lv_iload hx hb d_Mo_put_18 (lv_at hl 4 rfl) ?_
      refine lv_i2l hx hb d_Mo_put_20 rfl ?_
      refine kf_kc (wr := [(y, .inr (3, [.ref a0, .ref a1, .ref a2])), (a0, .inl (cI, 1024, .inl g0)), (a2, .inl (cI, 1024, .inl gd))]) (w1 := [(a1, .inl (cI, 1024, .inl (km_st g1 a p4.toInt64 n)))]) (ws2 := [(y, .inr (3, [.ref a0, .ref a1, .ref a2])), (a0, .inl (cI, 1024, .inl g0)), (a1, .inl (cI, 1024, .inl (km_st g1 a p4.toInt64 n))), (a2, .inl (cI, 1024, .inl gd))]) hP hD hS hA [2] [0, 1, 3] [0, 1, 3, 2] rfl rfl rfl (by decide) rfl rfl (va_runS (As := [.ref a1, .int (nI a), .int (nI n), .long p4.toInt64]) (rest := []) ⟨hx, hb, hml, hown, hts⟩ (c_Mo_set l D cB cI _ a1 g1 a n p4.toInt64 (by omega)) ⟨callB_of 4 hts g_Mo_set rfl rfl rfl (hts _ q1_5) (hts _ q2_62) h_Mo_set ⟨Nat.le_of_ble_eq_true rfl, Nat.le_of_ble_eq_true rfl⟩, (hts _ q2_63)⟩ ⟨kf_bl, kf_to hP hD hS hA hE [2] rfl rfl⟩ rfl rfl hl.1 rfl (lv_room (Nat.le_of_ble_eq_true rfl)) d_Mo_put_21 ⟨Nat.zero_le _, Nat.zero_le _⟩) (fun H locs hP hD hS => ?_)
      refine W.eq (g2 := F0 m 24 ls []) rfl ?_
      refine lv_iconst (v := 0) hx hb d_Mo_put_24 (by decide) ?_
      have hw := km_ww_mk g1 p4.toInt64 hn han
      simp only [if_pos (rfl : (1 : Int32) = 1), if_neg (show ¬ (1 : Int32) = 0 by decide), hw]
      exact kf_irB hx hb hr hlocks (kx_atM hP hD) hS (by have hq := (kP_ne c6).2; simp [hq]) d_Mo_put_25
    · refine lv_iconst (v := -1) hx hb d_Mo_put_9 (by decide) ?_
      have hf : ¬ ky_isFP p2 p3 := fun q => kP_eq c6 ⟨Or.inr rfl, q⟩
      have hw : km_ww g1 p2 p3 p4.toInt64 = g1 := if_neg hf
      simp only [if_pos (rfl : (1 : Int32) = 1), if_neg (show ¬ (1 : Int32) = 0 by decide), hw]
      exact kf_irB hx hb hr hlocks (kx_atM hP hD) hS (by rw [if_neg (fun q => hf q.2)]) d_Mo_put_10
  · refine lv_iload_n hx hb d_Mo_put_0 rfl (lv_at hl 1 rfl) ?_
    refine lv_iload_n hx hb d_Mo_put_1 rfl (lv_at hl 2 rfl) ?_
    refine lv_iload_n hx hb d_Mo_put_2 rfl (lv_at hl 3 rfl) ?_
    refine kf_ro hP hD hS hA [] rfl (va_runS (As := [.int p1, .int p2, .int p3]) (rest := []) ⟨hx, hb, hml, hown, hts⟩ (c_Mo_isField l D cB cI _ p1 p2 p3) ⟨callB_of 3 hts g_Mo_isField rfl rfl rfl (hts _ q1_5) (hts _ q2_171) h_Mo_isField ⟨Nat.le_of_ble_eq_true rfl, Nat.le_of_ble_eq_true rfl⟩, (hts _ q2_172)⟩ ⟨kf_bl, kf_to hP hD hS hA hE [] rfl rfl⟩ rfl rfl hl.1 rfl (lv_room (Nat.le_of_ble_eq_true rfl)) d_Mo_put_3 ⟨Nat.zero_le _, Nat.zero_le _⟩) (fun H locs hP hS => ?_)
    refine W.eq (g2 := F0 m 6 ls [.int (kP ((p1 = 0 ∨ p1 = 1) ∧ ky_isFP p2 p3))]) rfl ?_
    refine lv_if_ne (tgt := 11) hx hb d_Mo_put_6 (by decide) (fun c6 => ?_) (fun c6 => ?_)
    · exact absurd (kP_ne c6).1 (fun q => q.elim hn0 hn1)
    · refine lv_iconst (v := -1) hx hb d_Mo_put_9 (by decide) ?_
      simp only [if_neg hn0, if_neg hn1]
      exact kf_irB hx hb hr hlocks (kx_atM hP hD) hS (by rw [if_neg (fun q => q.1.elim hn0 hn1)]) d_Mo_put_10

set_option maxRecDepth 100000 in
set_option maxHeartbeats 4000000 in
theorem c_Mo_poke (l : Launch) (D : va_G) (cB cI : ClassId) (hz : Nat) (y : Nat) (a0 : Nat) (a1 : Nat) (a2 : Nat) (g0 : Nat → Int32) (g1 : Nat → Int32) (gd : Nat → Int32) (hg0 : km_ok g0) (hg1 : km_ok g1) (p1 : Int32) (p2 : Int32) (p3 : Int32) : kf_Ct l y_Mo_poke w_Mo_poke 1 21 0 0 D (kT cB cI) [.ref y, .int p1, .int p2, .int p3] [(y, .inr (3, [.ref a0, .ref a1, .ref a2])), (a0, .inl (cI, 1024, .inl g0)), (a1, .inl (cI, 1024, .inl g1)), (a2, .inl (cI, 1024, .inl gd))] hz (some (.int (if p1 = 0 ∧ km_pkP p2 p3 then g0 p2.toNatClampNeg else if p1 = 1 ∧ km_pkP p2 p3 then g1 p2.toNatClampNeg else -1))) (kx_Mo D cI y a0 a1 a2 (if p1 = 0 ∧ km_pkP p2 p3 then upd g0 p2.toNatClampNeg p3 else g0) (if p1 = 1 ∧ km_pkP p2 p3 then upd g1 p2.toNatClampNeg p3 else g1)) := by
  refine kf_of (cc := b_Mo_poke) (maxL := 5) (ret := (some .int)) (by decide) rfl (Nat.le_of_ble_eq_true rfl) ?_
  intro p e s m below meth c A H locs hx hb hr hml hown hts hlocks hin hP hD hS hA hE ls hl
  have hl : lv_has ls 5 [(0, .ref y), (1, .int p1), (2, .int p2), (3, .int p3)] := hl
  rcases ky_row p1 with rfl | rfl | ⟨hn0, hn1⟩
  · refine lv_iload_n hx hb d_Mo_poke_0 rfl (lv_at hl 1 rfl) ?_
    refine kf_ro hP hD hS hA [] rfl (va_runS (As := [.int 0]) (rest := []) ⟨hx, hb, hml, hown, hts⟩ (c_Mo_isRow l D cB cI _ 0) ⟨callB_of 1 hts g_Mo_isRow rfl rfl rfl (hts _ q1_5) (hts _ q2_160) h_Mo_isRow ⟨Nat.le_of_ble_eq_true rfl, Nat.le_of_ble_eq_true rfl⟩, (hts _ q2_161)⟩ ⟨kf_bl, kf_to hP hD hS hA hE [] rfl rfl⟩ rfl rfl hl.1 rfl (lv_room (Nat.le_of_ble_eq_true rfl)) d_Mo_poke_1 ⟨Nat.zero_le _, Nat.zero_le _⟩) (fun H locs hP hS => ?_)
    refine W.eq (g2 := F0 m 4 ls [.int (kP (0 = 0 ∨ 0 = 1))]) rfl ?_
    refine lv_if_eq (tgt := 29) hx hb d_Mo_poke_4 (by decide) (fun c4 => ?_) (fun c4 => ?_)
    · refine lv_iconst (v := -1) hx hb d_Mo_poke_29 (by decide) ?_
      exact absurd (Or.inl rfl) (kP_eq c4)
    · refine lv_iload_n hx hb d_Mo_poke_7 rfl (lv_at hl 2 rfl) ?_
      refine lv_if_lt (tgt := 29) hx hb d_Mo_poke_8 (by decide) (fun c8 => ?_) (fun c8 => ?_)
      · refine lv_iconst (v := -1) hx hb d_Mo_poke_29 (by decide) ?_
        have hq : ¬ km_pkP p2 p3 := fun q => q.1 c8
        have hm : ¬ ((0 : Int32) = 0 ∧ km_pkP p2 p3) := fun q => hq q.2
        have hp : ¬ ((0 : Int32) = 1 ∧ km_pkP p2 p3) := fun q => hq q.2
        repeat rw [if_neg hm]
        repeat rw [if_neg hp]
        exact kf_irB hx hb hr hlocks (kx_atM hP hD) hS (rfl) d_Mo_poke_30
      · refine lv_iload_n hx hb d_Mo_poke_11 rfl (lv_at hl 2 rfl) ?_
        refine lv_sipush (v := 1024) hx hb d_Mo_poke_12 (by decide) ?_
        refine lv_icmp_ge (tgt := 29) hx hb d_Mo_poke_15 (by decide) (fun c15 => ?_) (fun c15 => ?_)
        · refine lv_iconst (v := -1) hx hb d_Mo_poke_29 (by decide) ?_
          have hq : ¬ km_pkP p2 p3 := fun q => q.2.1 c15
          have hm : ¬ ((0 : Int32) = 0 ∧ km_pkP p2 p3) := fun q => hq q.2
          have hp : ¬ ((0 : Int32) = 1 ∧ km_pkP p2 p3) := fun q => hq q.2
          repeat rw [if_neg hm]
          repeat rw [if_neg hp]
          exact kf_irB hx hb hr hlocks (kx_atM hP hD) hS (rfl) d_Mo_poke_30
        · refine lv_iload_n hx hb d_Mo_poke_18 rfl (lv_at hl 3 rfl) ?_
          refine lv_if_lt (tgt := 29) hx hb d_Mo_poke_19 (by decide) (fun c19 => ?_) (fun c19 => ?_)
          · refine lv_iconst (v := -1) hx hb d_Mo_poke_29 (by decide) ?_
            have hq : ¬ km_pkP p2 p3 := fun q => q.2.2.1 c19
            have hm : ¬ ((0 : Int32) = 0 ∧ km_pkP p2 p3) := fun q => hq q.2
            have hp : ¬ ((0 : Int32) = 1 ∧ km_pkP p2 p3) := fun q => hq q.2
            repeat rw [if_neg hm]
            repeat rw [if_neg hp]
            exact kf_irB hx hb hr hlocks (kx_atM hP hD) hS (rfl) d_Mo_poke_30
          · refine lv_iload_n hx hb d_Mo_poke_22 rfl (lv_at hl 3 rfl) ?_
            refine lv_sipush (v := 255) hx hb d_Mo_poke_23 (by decide) ?_
            refine lv_icmp_le (tgt := 31) hx hb d_Mo_poke_26 (by decide) (fun c26 => ?_) (fun c26 => ?_)
            · refine lv_aload_n hx hb d_Mo_poke_31 rfl (lv_at hl 0 rfl) ?_
              refine lv_iload_n hx hb d_Mo_poke_32 rfl (lv_at hl 1 rfl) ?_
              refine kf_ro hP hD hS hA [0] rfl (va_runV (As := [.int 0]) (rest := []) ⟨hx, hb, hml, hown, hts⟩ (c_Mo_rowOf_0 l D cB cI _ y a0 a1 a2) ⟨callB_of 1 hts g_Mo_rowOf rfl rfl rfl (hts _ q1_5) (hts _ q2_163) h_Mo_rowOf ⟨Nat.le_of_ble_eq_true rfl, Nat.le_of_ble_eq_true rfl⟩, (hts _ q2_165), (hts _ q0_8)⟩ ⟨kf_bl, va_recv hE.1 hP (ci := 3) (q0 := 0) rfl rfl, kf_to hP hD hS hA hE [0] rfl rfl⟩ rfl rfl hl.1 rfl (lv_room (Nat.le_of_ble_eq_true rfl)) d_Mo_poke_33 ⟨Nat.zero_le _, Nat.zero_le _⟩) (fun H locs hP hS => ?_)
              refine W.eq (g2 := F0 m 36 ls [.ref a0]) rfl ?_
              refine lv_iload_n hx hb d_Mo_poke_36 rfl (lv_at hl 2 rfl) ?_
              refine va_iald hx hb hE.1 hP 1 1 rfl rfl (km_in c8 c15) d_Mo_poke_37 ?_
              refine lv_istore (lv' := [(4, .int (g0 p2.toNatClampNeg)), (0, .ref y), (1, .int 0), (2, .int p2), (3, .int p3)]) hx hb d_Mo_poke_38 hl (by decide) rfl (fun ls hl => ?_)
              refine lv_aload_n hx hb d_Mo_poke_40 rfl (lv_at hl 1 rfl) ?_
              refine lv_iload_n hx hb d_Mo_poke_41 rfl (lv_at hl 2 rfl) ?_
              refine kf_ro hP hD hS hA [0] rfl (va_runV (As := [.int 0]) (rest := []) ⟨hx, hb, hml, hown, hts⟩ (c_Mo_rowOf_0 l D cB cI _ y a0 a1 a2) ⟨callB_of 1 hts g_Mo_rowOf rfl rfl rfl (hts _ q1_5) (hts _ q2_163) h_Mo_rowOf ⟨Nat.le_of_ble_eq_true rfl, Nat.le_of_ble_eq_true rfl⟩, (hts _ q2_165), (hts _ q0_8)⟩ ⟨kf_bl, va_recv hE.1 hP (ci := 3) (q0 := 0) rfl rfl, kf_to hP hD hS hA hE [0] rfl rfl⟩ rfl rfl hl.1 rfl (lv_room (Nat.le_of_ble_eq_true rfl)) d_Mo_poke_42 ⟨Nat.zero_le _, Nat.zero_le _⟩) (fun H locs hP hS => ?_)
              refine W.eq (g2 := F0 m 45 ls [.ref a0]) rfl ?_
              refine lv_iload_n hx hb d_Mo_poke_45 rfl (lv_at hl 3 rfl) ?_
              refine lv_iload_n hx hb d_Mo_poke_46 rfl (lv_at hl 4 rfl) ?_
              refine va_iast hx hb hE.1 hP hD hS 1 1 rfl rfl (km_in c8 c15) d_Mo_poke_47 (fun H locs hP hD hS => ?_)
              have hP : va_P D vwCl [(y, .inr (3, [.ref a0, .ref a1, .ref a2])), (a0, .inl (cI, 1024, .inl (upd g0 p2.toNatClampNeg p3))), (a1, .inl (cI, 1024, .inl g1)), (a2, .inl (cI, 1024, .inl gd))] H := hP
              have hD : va_D A [(y, .inr (3, [.ref a0, .ref a1, .ref a2])), (a0, .inl (cI, 1024, .inl (upd g0 p2.toNatClampNeg p3))), (a1, .inl (cI, 1024, .inl g1)), (a2, .inl (cI, 1024, .inl gd))] := hD
              refine lv_iload hx hb d_Mo_poke_48 (lv_at hl 0 rfl) ?_
              have hq : km_pkP p2 p3 := ⟨c8, c15, c19, c26⟩
              have hp : (0 : Int32) = 0 ∧ km_pkP p2 p3 := ⟨rfl, hq⟩
              have hm : ¬ ((0 : Int32) = 1 ∧ km_pkP p2 p3) := fun q => absurd q.1 (by decide)
              repeat rw [if_pos hp]
              repeat rw [if_neg hm]
              exact kf_irB hx hb hr hlocks (kx_atM hP hD) hS (by first | rfl | (rw [if_neg hm, if_pos hp])) d_Mo_poke_50
            · refine lv_iconst (v := -1) hx hb d_Mo_poke_29 (by decide) ?_
              have hq : ¬ km_pkP p2 p3 := fun q => c26 q.2.2.2
              have hm : ¬ ((0 : Int32) = 0 ∧ km_pkP p2 p3) := fun q => hq q.2
              have hp : ¬ ((0 : Int32) = 1 ∧ km_pkP p2 p3) := fun q => hq q.2
              repeat rw [if_neg hm]
              repeat rw [if_neg hp]
              exact kf_irB hx hb hr hlocks (kx_atM hP hD) hS (rfl) d_Mo_poke_30
  · refine lv_iload_n hx hb d_Mo_poke_0 rfl (lv_at hl 1 rfl) ?_
    refine kf_ro hP hD hS hA [] rfl (va_runS (As := [.int 1]) (rest := []) ⟨hx, hb, hml, hown, hts⟩ (c_Mo_isRow l D cB cI _ 1) ⟨callB_of 1 hts g_Mo_isRow rfl rfl rfl (hts _ q1_5) (hts _ q2_160) h_Mo_isRow ⟨Nat.le_of_ble_eq_true rfl, Nat.le_of_ble_eq_true rfl⟩, (hts _ q2_161)⟩ ⟨kf_bl, kf_to hP hD hS hA hE [] rfl rfl⟩ rfl rfl hl.1 rfl (lv_room (Nat.le_of_ble_eq_true rfl)) d_Mo_poke_1 ⟨Nat.zero_le _, Nat.zero_le _⟩) (fun H locs hP hS => ?_)
    refine W.eq (g2 := F0 m 4 ls [.int (kP (1 = 0 ∨ 1 = 1))]) rfl ?_
    refine lv_if_eq (tgt := 29) hx hb d_Mo_poke_4 (by decide) (fun c4 => ?_) (fun c4 => ?_)
    · refine lv_iconst (v := -1) hx hb d_Mo_poke_29 (by decide) ?_
      exact absurd (Or.inr rfl) (kP_eq c4)
    · refine lv_iload_n hx hb d_Mo_poke_7 rfl (lv_at hl 2 rfl) ?_
      refine lv_if_lt (tgt := 29) hx hb d_Mo_poke_8 (by decide) (fun c8 => ?_) (fun c8 => ?_)
      · refine lv_iconst (v := -1) hx hb d_Mo_poke_29 (by decide) ?_
        have hq : ¬ km_pkP p2 p3 := fun q => q.1 c8
        have hm : ¬ ((1 : Int32) = 0 ∧ km_pkP p2 p3) := fun q => hq q.2
        have hp : ¬ ((1 : Int32) = 1 ∧ km_pkP p2 p3) := fun q => hq q.2
        repeat rw [if_neg hm]
        repeat rw [if_neg hp]
        exact kf_irB hx hb hr hlocks (kx_atM hP hD) hS (rfl) d_Mo_poke_30
      · refine lv_iload_n hx hb d_Mo_poke_11 rfl (lv_at hl 2 rfl) ?_
        refine lv_sipush (v := 1024) hx hb d_Mo_poke_12 (by decide) ?_
        refine lv_icmp_ge (tgt := 29) hx hb d_Mo_poke_15 (by decide) (fun c15 => ?_) (fun c15 => ?_)
        · refine lv_iconst (v := -1) hx hb d_Mo_poke_29 (by decide) ?_
          have hq : ¬ km_pkP p2 p3 := fun q => q.2.1 c15
          have hm : ¬ ((1 : Int32) = 0 ∧ km_pkP p2 p3) := fun q => hq q.2
          have hp : ¬ ((1 : Int32) = 1 ∧ km_pkP p2 p3) := fun q => hq q.2
          repeat rw [if_neg hm]
          repeat rw [if_neg hp]
          exact kf_irB hx hb hr hlocks (kx_atM hP hD) hS (rfl) d_Mo_poke_30
        · refine lv_iload_n hx hb d_Mo_poke_18 rfl (lv_at hl 3 rfl) ?_
          refine lv_if_lt (tgt := 29) hx hb d_Mo_poke_19 (by decide) (fun c19 => ?_) (fun c19 => ?_)
          · refine lv_iconst (v := -1) hx hb d_Mo_poke_29 (by decide) ?_
            have hq : ¬ km_pkP p2 p3 := fun q => q.2.2.1 c19
            have hm : ¬ ((1 : Int32) = 0 ∧ km_pkP p2 p3) := fun q => hq q.2
            have hp : ¬ ((1 : Int32) = 1 ∧ km_pkP p2 p3) := fun q => hq q.2
            repeat rw [if_neg hm]
            repeat rw [if_neg hp]
            exact kf_irB hx hb hr hlocks (kx_atM hP hD) hS (rfl) d_Mo_poke_30
          · refine lv_iload_n hx hb d_Mo_poke_22 rfl (lv_at hl 3 rfl) ?_
            refine lv_sipush (v := 255) hx hb d_Mo_poke_23 (by decide) ?_
            refine lv_icmp_le (tgt := 31) hx hb d_Mo_poke_26 (by decide) (fun c26 => ?_) (fun c26 => ?_)
            · refine lv_aload_n hx hb d_Mo_poke_31 rfl (lv_at hl 0 rfl) ?_
              refine lv_iload_n hx hb d_Mo_poke_32 rfl (lv_at hl 1 rfl) ?_
              refine kf_ro hP hD hS hA [0] rfl (va_runV (As := [.int 1]) (rest := []) ⟨hx, hb, hml, hown, hts⟩ (c_Mo_rowOf_1 l D cB cI _ y a0 a1 a2) ⟨callB_of 1 hts g_Mo_rowOf rfl rfl rfl (hts _ q1_5) (hts _ q2_163) h_Mo_rowOf ⟨Nat.le_of_ble_eq_true rfl, Nat.le_of_ble_eq_true rfl⟩, (hts _ q2_165), (hts _ q0_8)⟩ ⟨kf_bl, va_recv hE.1 hP (ci := 3) (q0 := 0) rfl rfl, kf_to hP hD hS hA hE [0] rfl rfl⟩ rfl rfl hl.1 rfl (lv_room (Nat.le_of_ble_eq_true rfl)) d_Mo_poke_33 ⟨Nat.zero_le _, Nat.zero_le _⟩) (fun H locs hP hS => ?_)
              refine W.eq (g2 := F0 m 36 ls [.ref a1]) rfl ?_
              refine lv_iload_n hx hb d_Mo_poke_36 rfl (lv_at hl 2 rfl) ?_
              refine va_iald hx hb hE.1 hP 2 1 rfl rfl (km_in c8 c15) d_Mo_poke_37 ?_
              refine lv_istore (lv' := [(4, .int (g1 p2.toNatClampNeg)), (0, .ref y), (1, .int 1), (2, .int p2), (3, .int p3)]) hx hb d_Mo_poke_38 hl (by decide) rfl (fun ls hl => ?_)
              refine lv_aload_n hx hb d_Mo_poke_40 rfl (lv_at hl 1 rfl) ?_
              refine lv_iload_n hx hb d_Mo_poke_41 rfl (lv_at hl 2 rfl) ?_
              refine kf_ro hP hD hS hA [0] rfl (va_runV (As := [.int 1]) (rest := []) ⟨hx, hb, hml, hown, hts⟩ (c_Mo_rowOf_1 l D cB cI _ y a0 a1 a2) ⟨callB_of 1 hts g_Mo_rowOf rfl rfl rfl (hts _ q1_5) (hts _ q2_163) h_Mo_rowOf ⟨Nat.le_of_ble_eq_true rfl, Nat.le_of_ble_eq_true rfl⟩, (hts _ q2_165), (hts _ q0_8)⟩ ⟨kf_bl, va_recv hE.1 hP (ci := 3) (q0 := 0) rfl rfl, kf_to hP hD hS hA hE [0] rfl rfl⟩ rfl rfl hl.1 rfl (lv_room (Nat.le_of_ble_eq_true rfl)) d_Mo_poke_42 ⟨Nat.zero_le _, Nat.zero_le _⟩) (fun H locs hP hS => ?_)
              refine W.eq (g2 := F0 m 45 ls [.ref a1]) rfl ?_
              refine lv_iload_n hx hb d_Mo_poke_45 rfl (lv_at hl 3 rfl) ?_
              refine lv_iload_n hx hb d_Mo_poke_46 rfl (lv_at hl 4 rfl) ?_
              refine va_iast hx hb hE.1 hP hD hS 2 1 rfl rfl (km_in c8 c15) d_Mo_poke_47 (fun H locs hP hD hS => ?_)
              have hP : va_P D vwCl [(y, .inr (3, [.ref a0, .ref a1, .ref a2])), (a0, .inl (cI, 1024, .inl g0)), (a1, .inl (cI, 1024, .inl (upd g1 p2.toNatClampNeg p3))), (a2, .inl (cI, 1024, .inl gd))] H := hP
              have hD : va_D A [(y, .inr (3, [.ref a0, .ref a1, .ref a2])), (a0, .inl (cI, 1024, .inl g0)), (a1, .inl (cI, 1024, .inl (upd g1 p2.toNatClampNeg p3))), (a2, .inl (cI, 1024, .inl gd))] := hD
              refine lv_iload hx hb d_Mo_poke_48 (lv_at hl 0 rfl) ?_
              have hq : km_pkP p2 p3 := ⟨c8, c15, c19, c26⟩
              have hp : (1 : Int32) = 1 ∧ km_pkP p2 p3 := ⟨rfl, hq⟩
              have hm : ¬ ((1 : Int32) = 0 ∧ km_pkP p2 p3) := fun q => absurd q.1 (by decide)
              repeat rw [if_pos hp]
              repeat rw [if_neg hm]
              exact kf_irB hx hb hr hlocks (kx_atM hP hD) hS (by first | rfl | (rw [if_neg hm, if_pos hp])) d_Mo_poke_50
            · refine lv_iconst (v := -1) hx hb d_Mo_poke_29 (by decide) ?_
              have hq : ¬ km_pkP p2 p3 := fun q => c26 q.2.2.2
              have hm : ¬ ((1 : Int32) = 0 ∧ km_pkP p2 p3) := fun q => hq q.2
              have hp : ¬ ((1 : Int32) = 1 ∧ km_pkP p2 p3) := fun q => hq q.2
              repeat rw [if_neg hm]
              repeat rw [if_neg hp]
              exact kf_irB hx hb hr hlocks (kx_atM hP hD) hS (rfl) d_Mo_poke_30
  · refine lv_iload_n hx hb d_Mo_poke_0 rfl (lv_at hl 1 rfl) ?_
    refine kf_ro hP hD hS hA [] rfl (va_runS (As := [.int p1]) (rest := []) ⟨hx, hb, hml, hown, hts⟩ (c_Mo_isRow l D cB cI _ p1) ⟨callB_of 1 hts g_Mo_isRow rfl rfl rfl (hts _ q1_5) (hts _ q2_160) h_Mo_isRow ⟨Nat.le_of_ble_eq_true rfl, Nat.le_of_ble_eq_true rfl⟩, (hts _ q2_161)⟩ ⟨kf_bl, kf_to hP hD hS hA hE [] rfl rfl⟩ rfl rfl hl.1 rfl (lv_room (Nat.le_of_ble_eq_true rfl)) d_Mo_poke_1 ⟨Nat.zero_le _, Nat.zero_le _⟩) (fun H locs hP hS => ?_)
    refine W.eq (g2 := F0 m 4 ls [.int (kP (p1 = 0 ∨ p1 = 1))]) rfl ?_
    refine lv_if_eq (tgt := 29) hx hb d_Mo_poke_4 (by decide) (fun c4 => ?_) (fun c4 => ?_)
    · refine lv_iconst (v := -1) hx hb d_Mo_poke_29 (by decide) ?_
      have hm : ¬ (p1 = 0 ∧ km_pkP p2 p3) := fun q => hn0 q.1
      have hp : ¬ (p1 = 1 ∧ km_pkP p2 p3) := fun q => hn1 q.1
      repeat rw [if_neg hm]
      repeat rw [if_neg hp]
      exact kf_irB hx hb hr hlocks (kx_atM hP hD) hS (rfl) d_Mo_poke_30
    · refine lv_iload_n hx hb d_Mo_poke_7 rfl (lv_at hl 2 rfl) ?_
      refine lv_if_lt (tgt := 29) hx hb d_Mo_poke_8 (by decide) (fun c8 => ?_) (fun c8 => ?_)
      · refine lv_iconst (v := -1) hx hb d_Mo_poke_29 (by decide) ?_
        have hm : ¬ (p1 = 0 ∧ km_pkP p2 p3) := fun q => hn0 q.1
        have hp : ¬ (p1 = 1 ∧ km_pkP p2 p3) := fun q => hn1 q.1
        repeat rw [if_neg hm]
        repeat rw [if_neg hp]
        exact kf_irB hx hb hr hlocks (kx_atM hP hD) hS (rfl) d_Mo_poke_30
      · refine lv_iload_n hx hb d_Mo_poke_11 rfl (lv_at hl 2 rfl) ?_
        refine lv_sipush (v := 1024) hx hb d_Mo_poke_12 (by decide) ?_
        refine lv_icmp_ge (tgt := 29) hx hb d_Mo_poke_15 (by decide) (fun c15 => ?_) (fun c15 => ?_)
        · refine lv_iconst (v := -1) hx hb d_Mo_poke_29 (by decide) ?_
          have hm : ¬ (p1 = 0 ∧ km_pkP p2 p3) := fun q => hn0 q.1
          have hp : ¬ (p1 = 1 ∧ km_pkP p2 p3) := fun q => hn1 q.1
          repeat rw [if_neg hm]
          repeat rw [if_neg hp]
          exact kf_irB hx hb hr hlocks (kx_atM hP hD) hS (rfl) d_Mo_poke_30
        · refine lv_iload_n hx hb d_Mo_poke_18 rfl (lv_at hl 3 rfl) ?_
          refine lv_if_lt (tgt := 29) hx hb d_Mo_poke_19 (by decide) (fun c19 => ?_) (fun c19 => ?_)
          · refine lv_iconst (v := -1) hx hb d_Mo_poke_29 (by decide) ?_
            have hm : ¬ (p1 = 0 ∧ km_pkP p2 p3) := fun q => hn0 q.1
            have hp : ¬ (p1 = 1 ∧ km_pkP p2 p3) := fun q => hn1 q.1
            repeat rw [if_neg hm]
            repeat rw [if_neg hp]
            exact kf_irB hx hb hr hlocks (kx_atM hP hD) hS (rfl) d_Mo_poke_30
          · refine lv_iload_n hx hb d_Mo_poke_22 rfl (lv_at hl 3 rfl) ?_
            refine lv_sipush (v := 255) hx hb d_Mo_poke_23 (by decide) ?_
            refine lv_icmp_le (tgt := 31) hx hb d_Mo_poke_26 (by decide) (fun c26 => ?_) (fun c26 => ?_)
            · exact absurd (kP_ne c4) (fun q => q.elim hn0 hn1)
            · refine lv_iconst (v := -1) hx hb d_Mo_poke_29 (by decide) ?_
              have hm : ¬ (p1 = 0 ∧ km_pkP p2 p3) := fun q => hn0 q.1
              have hp : ¬ (p1 = 1 ∧ km_pkP p2 p3) := fun q => hn1 q.1
              repeat rw [if_neg hm]
              repeat rw [if_neg hp]
              exact kf_irB hx hb hr hlocks (kx_atM hP hD) hS (rfl) d_Mo_poke_30

set_option maxRecDepth 100000 in
set_option maxHeartbeats 4000000 in
theorem c_Mo_fault (l : Launch) (D : va_G) (cB cI : ClassId) (hz : Nat) (y : Nat) (a0 : Nat) (a1 : Nat) (a2 : Nat) (g0 : Nat → Int32) (g1 : Nat → Int32) (gd : Nat → Int32) (hg0 : km_ok g0) (hg1 : km_ok g1) (p1 : Int32) : kf_Ct l y_Mo_fault w_Mo_fault 8 185 0 0 D (kT cB cI) [.ref y, .int p1] [(y, .inr (3, [.ref a0, .ref a1, .ref a2])), (a0, .inl (cI, 1024, .inl g0)), (a1, .inl (cI, 1024, .inl g1)), (a2, .inl (cI, 1024, .inl gd))] hz (some (.int (if p1 = 0 then km_fault g0 else if p1 = 1 then km_fault g1 else -1))) (kx_Mo D cI y a0 a1 a2 g0 g1) := by
  refine kf_of (cc := b_Mo_fault) (maxL := 2) (ret := (some .int)) (by decide) rfl (Nat.le_of_ble_eq_true rfl) ?_
  intro p e s m below meth c A H locs hx hb hr hml hown hts hlocks hin hP hD hS hA hE ls hl
  have hl : lv_has ls 2 [(0, .ref y), (1, .int p1)] := hl
  rcases ky_row p1 with rfl | rfl | ⟨hn0, hn1⟩
  · refine lv_iload_n hx hb d_Mo_fault_0 rfl (lv_at hl 1 rfl) ?_
    refine kf_ro hP hD hS hA [] rfl (va_runS (As := [.int 0]) (rest := []) ⟨hx, hb, hml, hown, hts⟩ (c_Mo_isRow l D cB cI _ 0) ⟨callB_of 1 hts g_Mo_isRow rfl rfl rfl (hts _ q1_5) (hts _ q2_160) h_Mo_isRow ⟨Nat.le_of_ble_eq_true rfl, Nat.le_of_ble_eq_true rfl⟩, (hts _ q2_161)⟩ ⟨kf_bl, kf_to hP hD hS hA hE [] rfl rfl⟩ rfl rfl hl.1 rfl (lv_room (Nat.le_of_ble_eq_true rfl)) d_Mo_fault_1 ⟨Nat.zero_le _, Nat.zero_le _⟩) (fun H locs hP hS => ?_)
    refine W.eq (g2 := F0 m 4 ls [.int (kP (0 = 0 ∨ 0 = 1))]) rfl ?_
    refine lv_if_eq (tgt := 18) hx hb d_Mo_fault_4 (by decide) (fun c4 => ?_) (fun c4 => ?_)
    · refine lv_iconst (v := -1) hx hb d_Mo_fault_18 (by decide) ?_
      exact absurd (Or.inl rfl) (kP_eq c4)
    · refine lv_aload_n hx hb d_Mo_fault_7 rfl (lv_at hl 0 rfl) ?_
      refine lv_iload_n hx hb d_Mo_fault_8 rfl (lv_at hl 1 rfl) ?_
      refine kf_ro hP hD hS hA [0] rfl (va_runV (As := [.int 0]) (rest := []) ⟨hx, hb, hml, hown, hts⟩ (c_Mo_rowOf_0 l D cB cI _ y a0 a1 a2) ⟨callB_of 1 hts g_Mo_rowOf rfl rfl rfl (hts _ q1_5) (hts _ q2_163) h_Mo_rowOf ⟨Nat.le_of_ble_eq_true rfl, Nat.le_of_ble_eq_true rfl⟩, (hts _ q2_165), (hts _ q0_8)⟩ ⟨kf_bl, va_recv hE.1 hP (ci := 3) (q0 := 0) rfl rfl, kf_to hP hD hS hA hE [0] rfl rfl⟩ rfl rfl hl.1 rfl (lv_room (Nat.le_of_ble_eq_true rfl)) d_Mo_fault_9 ⟨Nat.zero_le _, Nat.zero_le _⟩) (fun H locs hP hS => ?_)
      refine W.eq (g2 := F0 m 12 ls [.ref a0]) rfl ?_
      refine kf_ro hP hD hS hA [1] rfl (va_runS (As := [.ref a0]) (rest := []) ⟨hx, hb, hml, hown, hts⟩ (c_Mo_faultOf l D cB cI _ a0 g0 hg0  ) ⟨callB_of 1 hts g_Mo_faultOf rfl rfl rfl (hts _ q1_5) (hts _ q2_83) h_Mo_faultOf ⟨Nat.le_of_ble_eq_true rfl, Nat.le_of_ble_eq_true rfl⟩, (hts _ q2_84)⟩ ⟨kf_bl, kf_to hP hD hS hA hE [1] rfl rfl⟩ rfl rfl hl.1 rfl (lv_room (Nat.le_of_ble_eq_true rfl)) d_Mo_fault_12 ⟨Nat.zero_le _, Nat.zero_le _⟩) (fun H locs hP hS => ?_)
      refine W.eq (g2 := F0 m 15 ls [.int (km_fault g0)]) rfl ?_
      refine lv_goto (tgt := 19) hx hb d_Mo_fault_15 (by decide) ?_
      exact kf_irB hx hb hr hlocks (kx_atM hP hD) hS (by rw [if_pos rfl]) d_Mo_fault_19
  · refine lv_iload_n hx hb d_Mo_fault_0 rfl (lv_at hl 1 rfl) ?_
    refine kf_ro hP hD hS hA [] rfl (va_runS (As := [.int 1]) (rest := []) ⟨hx, hb, hml, hown, hts⟩ (c_Mo_isRow l D cB cI _ 1) ⟨callB_of 1 hts g_Mo_isRow rfl rfl rfl (hts _ q1_5) (hts _ q2_160) h_Mo_isRow ⟨Nat.le_of_ble_eq_true rfl, Nat.le_of_ble_eq_true rfl⟩, (hts _ q2_161)⟩ ⟨kf_bl, kf_to hP hD hS hA hE [] rfl rfl⟩ rfl rfl hl.1 rfl (lv_room (Nat.le_of_ble_eq_true rfl)) d_Mo_fault_1 ⟨Nat.zero_le _, Nat.zero_le _⟩) (fun H locs hP hS => ?_)
    refine W.eq (g2 := F0 m 4 ls [.int (kP (1 = 0 ∨ 1 = 1))]) rfl ?_
    refine lv_if_eq (tgt := 18) hx hb d_Mo_fault_4 (by decide) (fun c4 => ?_) (fun c4 => ?_)
    · refine lv_iconst (v := -1) hx hb d_Mo_fault_18 (by decide) ?_
      exact absurd (Or.inr rfl) (kP_eq c4)
    · refine lv_aload_n hx hb d_Mo_fault_7 rfl (lv_at hl 0 rfl) ?_
      refine lv_iload_n hx hb d_Mo_fault_8 rfl (lv_at hl 1 rfl) ?_
      refine kf_ro hP hD hS hA [0] rfl (va_runV (As := [.int 1]) (rest := []) ⟨hx, hb, hml, hown, hts⟩ (c_Mo_rowOf_1 l D cB cI _ y a0 a1 a2) ⟨callB_of 1 hts g_Mo_rowOf rfl rfl rfl (hts _ q1_5) (hts _ q2_163) h_Mo_rowOf ⟨Nat.le_of_ble_eq_true rfl, Nat.le_of_ble_eq_true rfl⟩, (hts _ q2_165), (hts _ q0_8)⟩ ⟨kf_bl, va_recv hE.1 hP (ci := 3) (q0 := 0) rfl rfl, kf_to hP hD hS hA hE [0] rfl rfl⟩ rfl rfl hl.1 rfl (lv_room (Nat.le_of_ble_eq_true rfl)) d_Mo_fault_9 ⟨Nat.zero_le _, Nat.zero_le _⟩) (fun H locs hP hS => ?_)
      refine W.eq (g2 := F0 m 12 ls [.ref a1]) rfl ?_
      refine kf_ro hP hD hS hA [2] rfl (va_runS (As := [.ref a1]) (rest := []) ⟨hx, hb, hml, hown, hts⟩ (c_Mo_faultOf l D cB cI _ a1 g1 hg1  ) ⟨callB_of 1 hts g_Mo_faultOf rfl rfl rfl (hts _ q1_5) (hts _ q2_83) h_Mo_faultOf ⟨Nat.le_of_ble_eq_true rfl, Nat.le_of_ble_eq_true rfl⟩, (hts _ q2_84)⟩ ⟨kf_bl, kf_to hP hD hS hA hE [2] rfl rfl⟩ rfl rfl hl.1 rfl (lv_room (Nat.le_of_ble_eq_true rfl)) d_Mo_fault_12 ⟨Nat.zero_le _, Nat.zero_le _⟩) (fun H locs hP hS => ?_)
      refine W.eq (g2 := F0 m 15 ls [.int (km_fault g1)]) rfl ?_
      refine lv_goto (tgt := 19) hx hb d_Mo_fault_15 (by decide) ?_
      exact kf_irB hx hb hr hlocks (kx_atM hP hD) hS (by rw [if_neg (by decide), if_pos rfl]) d_Mo_fault_19
  · refine lv_iload_n hx hb d_Mo_fault_0 rfl (lv_at hl 1 rfl) ?_
    refine kf_ro hP hD hS hA [] rfl (va_runS (As := [.int p1]) (rest := []) ⟨hx, hb, hml, hown, hts⟩ (c_Mo_isRow l D cB cI _ p1) ⟨callB_of 1 hts g_Mo_isRow rfl rfl rfl (hts _ q1_5) (hts _ q2_160) h_Mo_isRow ⟨Nat.le_of_ble_eq_true rfl, Nat.le_of_ble_eq_true rfl⟩, (hts _ q2_161)⟩ ⟨kf_bl, kf_to hP hD hS hA hE [] rfl rfl⟩ rfl rfl hl.1 rfl (lv_room (Nat.le_of_ble_eq_true rfl)) d_Mo_fault_1 ⟨Nat.zero_le _, Nat.zero_le _⟩) (fun H locs hP hS => ?_)
    refine W.eq (g2 := F0 m 4 ls [.int (kP (p1 = 0 ∨ p1 = 1))]) rfl ?_
    refine lv_if_eq (tgt := 18) hx hb d_Mo_fault_4 (by decide) (fun c4 => ?_) (fun c4 => ?_)
    · refine lv_iconst (v := -1) hx hb d_Mo_fault_18 (by decide) ?_
      exact kf_irB hx hb hr hlocks (kx_atM hP hD) hS (by rw [if_neg hn0, if_neg hn1]) d_Mo_fault_19
    · exact absurd (kP_ne c4) (fun q => q.elim hn0 hn1)

set_option maxRecDepth 100000 in
set_option maxHeartbeats 4000000 in
theorem c_Mo_groups (l : Launch) (D : va_G) (cB cI : ClassId) (hz : Nat) (y : Nat) (a0 : Nat) (a1 : Nat) (a2 : Nat) (g0 : Nat → Int32) (g1 : Nat → Int32) (gd : Nat → Int32) (hg0 : km_ok g0) (hg1 : km_ok g1) : kf_Ct l y_Mo_groups w_Mo_groups 9 205 0 0 D (kT cB cI) [.ref y] [(y, .inr (3, [.ref a0, .ref a1, .ref a2])), (a0, .inl (cI, 1024, .inl g0)), (a1, .inl (cI, 1024, .inl g1)), (a2, .inl (cI, 1024, .inl gd))] hz (some (.int (if km_fault g0 = -2 then (kv_gc g0).toInt32 else -1))) (kx_Mo D cI y a0 a1 a2 g0 g1) := by
  refine kf_of (cc := b_Mo_groups) (maxL := 1) (ret := (some .int)) (by decide) rfl (Nat.le_of_ble_eq_true rfl) ?_
  intro p e s m below meth c A H locs hx hb hr hml hown hts hlocks hin hP hD hS hA hE ls hl
  have hl : lv_has ls 1 [(0, .ref y)] := hl
  refine lv_aload_n hx hb d_Mo_groups_0 rfl (lv_at hl 0 rfl) ?_
  refine kf_ro hP hD hS hA [0, 1] rfl (va_runV (As := []) (rest := []) ⟨hx, hb, hml, hown, hts⟩ (c_Mo_isRight l D cB cI _ y a0 a1 a2 g0 hg0) ⟨callB_of 0 hts g_Mo_isRight rfl rfl rfl (hts _ q1_5) (hts _ q2_187) h_Mo_isRight ⟨Nat.le_of_ble_eq_true rfl, Nat.le_of_ble_eq_true rfl⟩, (hts _ q2_189), (hts _ q0_9)⟩ ⟨kf_bl, va_recv hE.1 hP (ci := 3) (q0 := 0) rfl rfl, kf_to hP hD hS hA hE [0, 1] rfl rfl⟩ rfl rfl hl.1 rfl (lv_room (Nat.le_of_ble_eq_true rfl)) d_Mo_groups_1 ⟨Nat.zero_le _, Nat.zero_le _⟩) (fun H locs hP hS => ?_)
  refine W.eq (g2 := F0 m 4 ls [.int (kP (km_fault g0 = -2))]) rfl ?_
  refine lv_if_eq (tgt := 18) hx hb d_Mo_groups_4 (by decide) (fun c4 => ?_) (fun c4 => ?_)
  · refine lv_iconst (v := -1) hx hb d_Mo_groups_18 (by decide) ?_
    exact kf_irB hx hb hr hlocks (kx_atM hP hD) hS (by rw [if_neg (kP_eq c4)]) d_Mo_groups_19
  · have hI := km_fI (kP_ne c4)
    have hJ := km_szI hI.1
    have hZ := km_size1 hJ.1
    refine lv_aload_n hx hb d_Mo_groups_7 rfl (lv_at hl 0 rfl) ?_
    refine va_get (D := D) (ci := 3) (v := .ref a0) (C := "FieldRowsModel") (T := F_Mo) (N := 3) hx hb hts ku_Mo hown hE.1 hP 0 rfl rfl 0 (by decide) (hts _ q2_144) (fun _ h9 => h9) rfl d_Mo_groups_8 ?_
    refine kf_ro hP hD hS hA [1] rfl (va_runS (As := [.ref a0]) (rest := []) ⟨hx, hb, hml, hown, hts⟩ (c_Mo_groupsOf l D cB cI _ a0 g0 hg0  hJ.2) ⟨callB_of 1 hts g_Mo_groupsOf rfl rfl rfl (hts _ q1_5) (hts _ q2_73) h_Mo_groupsOf ⟨Nat.le_of_ble_eq_true rfl, Nat.le_of_ble_eq_true rfl⟩, (hts _ q2_74)⟩ ⟨kf_bl, kf_to hP hD hS hA hE [1] rfl rfl⟩ rfl rfl hl.1 rfl (lv_room (Nat.le_of_ble_eq_true rfl)) d_Mo_groups_11 ⟨Nat.zero_le _, Nat.zero_le _⟩) (fun H locs hP hS => ?_)
    refine W.eq (g2 := F0 m 14 ls [.long (kv_gc g0)]) rfl ?_
    refine lv_l2i hx hb d_Mo_groups_14 rfl ?_
    refine lv_goto (tgt := 19) hx hb d_Mo_groups_15 (by decide) ?_
    exact kf_irB hx hb hr hlocks (kx_atM hP hD) hS (by rw [if_pos (kP_ne c4)]) d_Mo_groups_19

set_option maxRecDepth 100000 in
set_option maxHeartbeats 4000000 in
theorem c_Mo_copy (l : Launch) (D : va_G) (cB cI : ClassId) (hz : Nat) (y : Nat) (a0 : Nat) (a1 : Nat) (a2 : Nat) (g0 : Nat → Int32) (g1 : Nat → Int32) (gd : Nat → Int32) (hg0 : km_ok g0) (hg1 : km_ok g1) (p1 : Int32) : kf_Ct l y_Mo_copy w_Mo_copy 9 205 0 0 D (kT cB cI) [.ref y, .int p1] [(y, .inr (3, [.ref a0, .ref a1, .ref a2])), (a0, .inl (cI, 1024, .inl g0)), (a1, .inl (cI, 1024, .inl g1)), (a2, .inl (cI, 1024, .inl gd))] hz (some (.int (if km_grP g0 p1 ∧ km_hcP g0 p1.toNatClampNeg then 0 else -1))) (kx_Mo D cI y a0 a1 a2 g0 (if km_grP g0 p1 ∧ km_hcP g0 p1.toNatClampNeg then km_st (km_cp g1 g0 1024) 90 p1.toInt64 2 else g1)) := by
  refine kf_of (cc := b_Mo_copy) (maxL := 3) (ret := (some .int)) (by decide) rfl (Nat.le_of_ble_eq_true rfl) ?_
  intro p e s m below meth c A H locs hx hb hr hml hown hts hlocks hin hP hD hS hA hE ls hl
  have hl : lv_has ls 3 [(0, .ref y), (1, .int p1)] := hl
  refine lv_aload_n hx hb d_Mo_copy_0 rfl (lv_at hl 0 rfl) ?_
  refine kf_ro hP hD hS hA [0, 1] rfl (va_runV (As := []) (rest := []) ⟨hx, hb, hml, hown, hts⟩ (c_Mo_isRight l D cB cI _ y a0 a1 a2 g0 hg0) ⟨callB_of 0 hts g_Mo_isRight rfl rfl rfl (hts _ q1_5) (hts _ q2_187) h_Mo_isRight ⟨Nat.le_of_ble_eq_true rfl, Nat.le_of_ble_eq_true rfl⟩, (hts _ q2_189), (hts _ q0_9)⟩ ⟨kf_bl, va_recv hE.1 hP (ci := 3) (q0 := 0) rfl rfl, kf_to hP hD hS hA hE [0, 1] rfl rfl⟩ rfl rfl hl.1 rfl (lv_room (Nat.le_of_ble_eq_true rfl)) d_Mo_copy_1 ⟨Nat.zero_le _, Nat.zero_le _⟩) (fun H locs hP hS => ?_)
  refine W.eq (g2 := F0 m 4 ls [.int (kP (km_fault g0 = -2))]) rfl ?_
  refine lv_if_eq (tgt := 36) hx hb d_Mo_copy_4 (by decide) (fun c4 => ?_) (fun c4 => ?_)
  · refine lv_iconst (v := -1) hx hb d_Mo_copy_36 (by decide) ?_
    have hq : ¬ (km_grP g0 p1 ∧ km_hcP g0 p1.toNatClampNeg) := fun q => kP_eq c4 q.1.1
    simp only [if_neg hq]
    exact kf_irB hx hb hr hlocks (kx_atM hP hD) hS (rfl) d_Mo_copy_37
  · have hI := km_fI (kP_ne c4)
    have hJ := km_szI hI.1
    have hZ := km_size1 hJ.1
    refine lv_iload_n hx hb d_Mo_copy_7 rfl (lv_at hl 1 rfl) ?_
    refine lv_if_lt (tgt := 36) hx hb d_Mo_copy_8 (by decide) (fun c8 => ?_) (fun c8 => ?_)
    · refine lv_iconst (v := -1) hx hb d_Mo_copy_36 (by decide) ?_
      have hq : ¬ (km_grP g0 p1 ∧ km_hcP g0 p1.toNatClampNeg) := fun q => q.1.2.1 c8
      simp only [if_neg hq]
      exact kf_irB hx hb hr hlocks (kx_atM hP hD) hS (rfl) d_Mo_copy_37
    · refine lv_iload_n hx hb d_Mo_copy_11 rfl (lv_at hl 1 rfl) ?_
      refine lv_i2l hx hb d_Mo_copy_12 rfl ?_
      refine lv_aload_n hx hb d_Mo_copy_13 rfl (lv_at hl 0 rfl) ?_
      refine va_get (D := D) (ci := 3) (v := .ref a0) (C := "FieldRowsModel") (T := F_Mo) (N := 3) hx hb hts ku_Mo hown hE.1 hP 0 rfl rfl 0 (by decide) (hts _ q2_144) (fun _ h9 => h9) rfl d_Mo_copy_14 ?_
      refine kf_ro hP hD hS hA [1] rfl (va_runS (As := [.ref a0]) (rest := [.long p1.toInt64]) ⟨hx, hb, hml, hown, hts⟩ (c_Mo_groupsOf l D cB cI _ a0 g0 hg0  hJ.2) ⟨callB_of 1 hts g_Mo_groupsOf rfl rfl rfl (hts _ q1_5) (hts _ q2_73) h_Mo_groupsOf ⟨Nat.le_of_ble_eq_true rfl, Nat.le_of_ble_eq_true rfl⟩, (hts _ q2_74)⟩ ⟨kf_bl, kf_to hP hD hS hA hE [1] rfl rfl⟩ rfl rfl hl.1 rfl (lv_room (Nat.le_of_ble_eq_true rfl)) d_Mo_copy_17 ⟨Nat.zero_le _, Nat.zero_le _⟩) (fun H locs hP hS => ?_)
      refine W.eq (g2 := F0 m 20 ls [.long (kv_gc g0), .long p1.toInt64]) rfl ?_
      refine kf_lc_ge (tgt := 36) hx hb d_Mo_copy_20 d_Mo_copy_21 (by decide) (fun c20 => ?_) (fun c20 => ?_)
      · refine lv_iconst (v := -1) hx hb d_Mo_copy_36 (by decide) ?_
        have hq : ¬ (km_grP g0 p1 ∧ km_hcP g0 p1.toNatClampNeg) := fun q => q.1.2.2 c20
        simp only [if_neg hq]
        exact kf_irB hx hb hr hlocks (kx_atM hP hD) hS (rfl) d_Mo_copy_37
      · have hR := km_ctI hI.2.1
        have hG : km_grP g0 p1 := ⟨kP_ne c4, c8, c20⟩
        obtain ⟨n, hn, rfl⟩ := nI_of c8
        rw [nI_l hn] at c20
        have hn64 : n < 64 := km_own64 hR.2.2.1 c20 hn
        refine lv_aload_n hx hb d_Mo_copy_24 rfl (lv_at hl 0 rfl) ?_
        refine va_get (D := D) (ci := 3) (v := .ref a0) (C := "FieldRowsModel") (T := F_Mo) (N := 3) hx hb hts ku_Mo hown hE.1 hP 0 rfl rfl 0 (by decide) (hts _ q2_144) (fun _ h9 => h9) rfl d_Mo_copy_25 ?_
        refine lv_iload_n hx hb d_Mo_copy_28 rfl (lv_at hl 1 rfl) ?_
        refine lv_i2l hx hb d_Mo_copy_29 rfl ?_
        refine kf_tl (y := lN n) (nI_l hn) ?_
        refine kf_ro hP hD hS hA [1] rfl (va_runS (As := [.ref a0, .long (lN n)]) (rest := []) ⟨hx, hb, hml, hown, hts⟩ (c_Mo_hasCopy l D cB cI _ a0 g0 hg0 n hn64) ⟨callB_of 2 hts g_Mo_hasCopy rfl rfl rfl (hts _ q1_5) (hts _ q2_120) h_Mo_hasCopy ⟨Nat.le_of_ble_eq_true rfl, Nat.le_of_ble_eq_true rfl⟩, (hts _ q2_121)⟩ ⟨kf_bl, kf_to hP hD hS hA hE [1] rfl rfl⟩ rfl rfl hl.1 rfl (lv_room (Nat.le_of_ble_eq_true rfl)) d_Mo_copy_30 ⟨Nat.zero_le _, Nat.zero_le _⟩) (fun H locs hP hS => ?_)
        refine W.eq (g2 := F0 m 33 ls [.int (kP (km_hcP g0 n))]) rfl ?_
        refine lv_if_ne (tgt := 38) hx hb d_Mo_copy_33 (by decide) (fun c33 => ?_) (fun c33 => ?_)
        · refine lv_iconst (v := 0) hx hb d_Mo_copy_38 (by decide) ?_
          refine kf_ti (y := nI 0) (rfl) ?_
          refine lv_istore_n (lv' := [(2, .int (nI 0)), (0, .ref y), (1, .int (nI n))]) hx hb d_Mo_copy_39 rfl hl (by decide) rfl (fun ls hl => ?_)
          rw [km_cp0 g1 g0] at hP hD
          refine kf_loop (σ := Nat) (fun k ls H locs => (k ≤ 1024) ∧ lv_has ls 3 [(2, .int (nI k)), (0, .ref y), (1, .int (nI n))] ∧ va_P D vwCl [(y, .inr (3, [.ref a0, .ref a1, .ref a2])), (a0, .inl (cI, 1024, .inl g0)), (a1, .inl (cI, 1024, .inl (km_cp g1 g0 k))), (a2, .inl (cI, 1024, .inl gd))] H ∧ va_D A [(y, .inr (3, [.ref a0, .ref a1, .ref a2])), (a0, .inl (cI, 1024, .inl g0)), (a1, .inl (cI, 1024, .inl (km_cp g1 g0 k))), (a2, .inl (cI, 1024, .inl gd))] ∧ va_S A s.heap H locs) (fun k => 1024 - k) 0 ⟨Nat.zero_le _, lv_sub hl [0, 1, 2] rfl, hP, hD, hS⟩ (fun k ls H locs hI ih => ?_)
          obtain ⟨hk, hl, hP, hD, hS⟩ := hI
          rcases Nat.lt_or_ge k 1024 with hkn | hkn
          · refine lv_iload_n hx hb d_Mo_copy_40 rfl (lv_at hl 0 rfl) ?_
            refine lv_sipush (v := 1024) hx hb d_Mo_copy_41 (by decide) ?_
            refine lv_icmp_ge (tgt := 65) hx hb d_Mo_copy_44 (by decide) (fun c44 => absurd c44 (nI_ge (a := k) (b := 1024) hkn (by decide))) (fun c44 => ?_)
            refine lv_aload_n hx hb d_Mo_copy_47 rfl (lv_at hl 1 rfl) ?_
            refine va_get (D := D) (ci := 3) (v := .ref a1) (C := "FieldRowsModel") (T := F_Mo) (N := 3) hx hb hts ku_Mo hown hE.1 hP 0 rfl rfl 1 (by decide) (hts _ q2_145) (fun _ h9 => h9) rfl d_Mo_copy_48 ?_
            refine lv_iload_n hx hb d_Mo_copy_51 rfl (lv_at hl 0 rfl) ?_
            refine lv_aload_n hx hb d_Mo_copy_52 rfl (lv_at hl 1 rfl) ?_
            refine va_get (D := D) (ci := 3) (v := .ref a0) (C := "FieldRowsModel") (T := F_Mo) (N := 3) hx hb hts ku_Mo hown hE.1 hP 0 rfl rfl 0 (by decide) (hts _ q2_144) (fun _ h9 => h9) rfl d_Mo_copy_53 ?_
            refine lv_iload_n hx hb d_Mo_copy_56 rfl (lv_at hl 0 rfl) ?_
            refine va_iald hx hb hE.1 hP 1 1 rfl rfl (vp_in_nI hkn (by decide)) d_Mo_copy_57 ?_
            refine kf_ti (y := g0 k) (by rw [nI_clamp (by omega)]) ?_
            refine va_iast hx hb hE.1 hP hD hS 2 1 rfl rfl (vp_in_nI hkn (by decide)) d_Mo_copy_58 (fun H locs hP hD hS => ?_)
            have ef : upd (km_cp g1 g0 k) (nI k).toNatClampNeg (g0 k) = km_cp g1 g0 (k + 1) := by rw [nI_clamp (by omega)]; exact km_cp_s g1 g0 k
            rw [ef] at hP hD
            have hP : va_P D vwCl [(y, .inr (3, [.ref a0, .ref a1, .ref a2])), (a0, .inl (cI, 1024, .inl g0)), (a1, .inl (cI, 1024, .inl (km_cp g1 g0 (k + 1)))), (a2, .inl (cI, 1024, .inl gd))] H := hP
            have hD : va_D A [(y, .inr (3, [.ref a0, .ref a1, .ref a2])), (a0, .inl (cI, 1024, .inl g0)), (a1, .inl (cI, 1024, .inl (km_cp g1 g0 (k + 1)))), (a2, .inl (cI, 1024, .inl gd))] := hD
            refine lv_iinc (v := nI (k + 1)) (lv' := [(2, .int (nI (k + 1))), (0, .ref y), (1, .int (nI n))]) hx hb d_Mo_copy_59 hl (k := 0) rfl ((nI_succ k).symm) (by decide) rfl (fun ls hl => ?_)
            refine lv_goto (tgt := 40) hx hb d_Mo_copy_62 (by decide) ?_
            exact ih (k + 1) _ _ _ (by omega) ⟨by omega, lv_sub hl [0, 1, 2] rfl, hP, hD, hS⟩
          · obtain rfl : k = 1024 := by omega
            refine lv_iload_n hx hb d_Mo_copy_40 rfl (lv_at hl 0 rfl) ?_
            refine lv_sipush (v := 1024) hx hb d_Mo_copy_41 (by decide) ?_
            refine lv_icmp_ge (tgt := 65) hx hb d_Mo_copy_44 (by decide) (fun c44 => ?_) (fun c44 => absurd (nI_le (a := 1024) (b := 1024) hkn (by decide)) c44)
            refine lv_aload_n hx hb d_Mo_copy_65 rfl (lv_at hl 1 rfl) ?_
            refine va_get (D := D) (ci := 3) (v := .ref a1) (C := "FieldRowsModel") (T := F_Mo) (N := 3) hx hb hts ku_Mo hown hE.1 hP 0 rfl rfl 1 (by decide) (hts _ q2_145) (fun _ h9 => h9) rfl d_Mo_copy_66 ?_
            refine lv_bipush (v := 90) hx hb d_Mo_copy_69 (by decide) ?_
            refine lv_iconst (v := 2) hx hb d_Mo_copy_71 (by decide) ?_
            refine lv_iload_n hx hb d_Mo_copy_72 rfl (lv_at hl 2 rfl) ?_
            refine lv_i2l hx hb d_Mo_copy_73 rfl ?_
            refine kf_kc (wr := [(y, .inr (3, [.ref a0, .ref a1, .ref a2])), (a0, .inl (cI, 1024, .inl g0)), (a2, .inl (cI, 1024, .inl gd))]) (w1 := [(a1, .inl (cI, 1024, .inl (km_st (km_cp g1 g0 (1024)) 90 ((nI n).toInt64) 2)))]) (ws2 := [(y, .inr (3, [.ref a0, .ref a1, .ref a2])), (a0, .inl (cI, 1024, .inl g0)), (a1, .inl (cI, 1024, .inl (km_st (km_cp g1 g0 (1024)) 90 ((nI n).toInt64) 2))), (a2, .inl (cI, 1024, .inl gd))]) hP hD hS hA [2] [0, 1, 3] [0, 1, 3, 2] rfl rfl rfl (by decide) rfl rfl (va_runS (As := [.ref a1, .int 90, .int 2, .long ((nI n).toInt64)]) (rest := []) ⟨hx, hb, hml, hown, hts⟩ (c_Mo_set l D cB cI _ a1 (km_cp g1 g0 (1024)) 90 2 ((nI n).toInt64) (by decide)) ⟨callB_of 4 hts g_Mo_set rfl rfl rfl (hts _ q1_5) (hts _ q2_62) h_Mo_set ⟨Nat.le_of_ble_eq_true rfl, Nat.le_of_ble_eq_true rfl⟩, (hts _ q2_63)⟩ ⟨kf_bl, kf_to hP hD hS hA hE [2] rfl rfl⟩ rfl rfl hl.1 rfl (lv_room (Nat.le_of_ble_eq_true rfl)) d_Mo_copy_74 ⟨Nat.zero_le _, Nat.zero_le _⟩) (fun H locs hP hD hS => ?_)
            refine W.eq (g2 := F0 m 77 ls []) rfl ?_
            refine lv_iconst (v := 0) hx hb d_Mo_copy_77 (by decide) ?_
            have hq : km_grP g0 (nI n) ∧ km_hcP g0 (nI n).toNatClampNeg := ⟨hG, by rw [nI_clamp hn]; exact kP_ne c33⟩
            simp only [if_pos hq]
            exact kf_irB hx hb hr hlocks (kx_atM hP hD) hS (rfl) d_Mo_copy_78
        · refine lv_iconst (v := -1) hx hb d_Mo_copy_36 (by decide) ?_
          have hq : ¬ (km_grP g0 (nI n) ∧ km_hcP g0 (nI n).toNatClampNeg) := fun q => kP_eq c33 (by have h := q.2; rw [nI_clamp hn] at h; exact h)
          simp only [if_neg hq]
          exact kf_irB hx hb hr hlocks (kx_atM hP hD) hS (rfl) d_Mo_copy_37

set_option maxRecDepth 100000 in
set_option maxHeartbeats 4000000 in
theorem c_Mo_differs (l : Launch) (D : va_G) (cB cI : ClassId) (hz : Nat) (y : Nat) (a0 : Nat) (a1 : Nat) (a2 : Nat) (g0 : Nat → Int32) (g1 : Nat → Int32) (gd : Nat → Int32) (hg0 : km_ok g0) (hg1 : km_ok g1) : kf_Ct l y_Mo_differs w_Mo_differs 2 45 0 0 D (kT cB cI) [.ref y] [(y, .inr (3, [.ref a0, .ref a1, .ref a2])), (a0, .inl (cI, 1024, .inl g0)), (a1, .inl (cI, 1024, .inl g1)), (a2, .inl (cI, 1024, .inl gd))] hz (some (.int (km_df g0 g1 1024))) (kx_Mo D cI y a0 a1 a2 g0 g1) := by
  refine kf_of (cc := b_Mo_differs) (maxL := 2) (ret := (some .int)) (by decide) rfl (Nat.le_of_ble_eq_true rfl) ?_
  intro p e s m below meth c A H locs hx hb hr hml hown hts hlocks hin hP hD hS hA hE ls hl
  have hl : lv_has ls 2 [(0, .ref y)] := hl
  refine lv_iconst (v := 0) hx hb d_Mo_differs_0 (by decide) ?_
  refine kf_ti (y := nI 0) (rfl) ?_
  refine lv_istore_n (lv' := [(1, .int (nI 0)), (0, .ref y)]) hx hb d_Mo_differs_1 rfl hl (by decide) rfl (fun ls hl => ?_)
  refine kf_loop (σ := Nat) (fun k ls H locs => (k ≤ 1024) ∧ (km_df g0 g1 1024 = km_df g0 g1 (1024 - k)) ∧ lv_has ls 2 [(1, .int (nI k)), (0, .ref y)] ∧ va_P D vwCl [(y, .inr (3, [.ref a0, .ref a1, .ref a2])), (a0, .inl (cI, 1024, .inl g0)), (a1, .inl (cI, 1024, .inl g1)), (a2, .inl (cI, 1024, .inl gd))] H ∧ va_D A [(y, .inr (3, [.ref a0, .ref a1, .ref a2])), (a0, .inl (cI, 1024, .inl g0)), (a1, .inl (cI, 1024, .inl g1)), (a2, .inl (cI, 1024, .inl gd))] ∧ va_S A s.heap H locs) (fun k => 1024 - k) 0 ⟨Nat.zero_le _, rfl, lv_sub hl [0, 1] rfl, hP, hD, hS⟩ (fun k ls H locs hI ih => ?_)
  obtain ⟨hk, hq, hl, hP, hD, hS⟩ := hI
  rcases Nat.lt_or_ge k 1024 with hkn | hkn
  · refine lv_iload_n hx hb d_Mo_differs_2 rfl (lv_at hl 0 rfl) ?_
    refine lv_sipush (v := 1024) hx hb d_Mo_differs_3 (by decide) ?_
    refine lv_icmp_ge (tgt := 39) hx hb d_Mo_differs_6 (by decide) (fun c6 => absurd c6 (nI_ge (a := k) (b := 1024) hkn (by decide))) (fun c6 => ?_)
    refine lv_aload_n hx hb d_Mo_differs_9 rfl (lv_at hl 1 rfl) ?_
    refine va_get (D := D) (ci := 3) (v := .ref a0) (C := "FieldRowsModel") (T := F_Mo) (N := 3) hx hb hts ku_Mo hown hE.1 hP 0 rfl rfl 0 (by decide) (hts _ q2_144) (fun _ h9 => h9) rfl d_Mo_differs_10 ?_
    refine lv_iload_n hx hb d_Mo_differs_13 rfl (lv_at hl 0 rfl) ?_
    refine va_iald hx hb hE.1 hP 1 1 rfl rfl (vp_in_nI hkn (by decide)) d_Mo_differs_14 ?_
    refine kf_ti (y := g0 k) (by rw [nI_clamp (by omega)]) ?_
    refine lv_aload_n hx hb d_Mo_differs_15 rfl (lv_at hl 1 rfl) ?_
    refine va_get (D := D) (ci := 3) (v := .ref a1) (C := "FieldRowsModel") (T := F_Mo) (N := 3) hx hb hts ku_Mo hown hE.1 hP 0 rfl rfl 1 (by decide) (hts _ q2_145) (fun _ h9 => h9) rfl d_Mo_differs_16 ?_
    refine lv_iload_n hx hb d_Mo_differs_19 rfl (lv_at hl 0 rfl) ?_
    refine va_iald hx hb hE.1 hP 2 1 rfl rfl (vp_in_nI hkn (by decide)) d_Mo_differs_20 ?_
    refine kf_ti (y := g1 k) (by rw [nI_clamp (by omega)]) ?_
    refine lv_icmp_eq (tgt := 33) hx hb d_Mo_differs_21 (by decide) (fun c21 => ?_) (fun c21 => ?_)
    · refine lv_iinc (v := nI (k + 1)) (lv' := [(1, .int (nI (k + 1))), (0, .ref y)]) hx hb d_Mo_differs_33 hl (k := 0) rfl ((nI_succ k).symm) (by decide) rfl (fun ls hl => ?_)
      refine lv_goto (tgt := 2) hx hb d_Mo_differs_36 (by decide) ?_
      exact ih (k + 1) _ _ _ (by omega) ⟨by omega, by rw [hq, show 1024 - k = (1024 - (k + 1)) + 1 by omega]; show (if g0 (1023 - (1024 - (k + 1))) = g1 (1023 - (1024 - (k + 1))) then _ else if km_mdP (nI (1023 - (1024 - (k + 1)))) then _ else _) = _; rw [show 1023 - (1024 - (k + 1)) = k by omega, if_pos c21], lv_sub hl [0, 1] rfl, hP, hD, hS⟩
    · refine lv_iload_n hx hb d_Mo_differs_24 rfl (lv_at hl 0 rfl) ?_
      refine kf_ro hP hD hS hA [] rfl (va_runS (As := [.int (nI k)]) (rest := []) ⟨hx, hb, hml, hown, hts⟩ (c_Mo_mayDiffer l D cB cI _ (nI k)) ⟨callB_of 1 hts g_Mo_mayDiffer rfl rfl rfl (hts _ q1_5) (hts _ q2_195) h_Mo_mayDiffer ⟨Nat.le_of_ble_eq_true rfl, Nat.le_of_ble_eq_true rfl⟩, (hts _ q2_196)⟩ ⟨kf_bl, kf_to hP hD hS hA hE [] rfl rfl⟩ rfl rfl hl.1 rfl (lv_room (Nat.le_of_ble_eq_true rfl)) d_Mo_differs_25 ⟨Nat.zero_le _, Nat.zero_le _⟩) (fun H locs hP hS => ?_)
      refine W.eq (g2 := F0 m 28 ls [.int (kP (km_mdP (nI k)))]) rfl ?_
      refine lv_if_ne (tgt := 33) hx hb d_Mo_differs_28 (by decide) (fun c28 => ?_) (fun c28 => ?_)
      · refine lv_iinc (v := nI (k + 1)) (lv' := [(1, .int (nI (k + 1))), (0, .ref y)]) hx hb d_Mo_differs_33 hl (k := 0) rfl ((nI_succ k).symm) (by decide) rfl (fun ls hl => ?_)
        refine lv_goto (tgt := 2) hx hb d_Mo_differs_36 (by decide) ?_
        exact ih (k + 1) _ _ _ (by omega) ⟨by omega, by rw [hq, show 1024 - k = (1024 - (k + 1)) + 1 by omega]; show (if g0 (1023 - (1024 - (k + 1))) = g1 (1023 - (1024 - (k + 1))) then _ else if km_mdP (nI (1023 - (1024 - (k + 1)))) then _ else _) = _; rw [show 1023 - (1024 - (k + 1)) = k by omega, if_neg c21, if_pos (kP_ne c28)], lv_sub hl [0, 1] rfl, hP, hD, hS⟩
      · refine lv_iload_n hx hb d_Mo_differs_31 rfl (lv_at hl 0 rfl) ?_
        exact kf_irB hx hb hr hlocks (kx_atM hP hD) hS (by rw [hq, show 1024 - k = (1024 - (k + 1)) + 1 by omega]; show _ = (if g0 (1023 - (1024 - (k + 1))) = g1 (1023 - (1024 - (k + 1))) then _ else if km_mdP (nI (1023 - (1024 - (k + 1)))) then _ else nI (1023 - (1024 - (k + 1)))); rw [show 1023 - (1024 - (k + 1)) = k by omega, if_neg c21, if_neg (kP_eq c28)]) d_Mo_differs_32
  · refine lv_iload_n hx hb d_Mo_differs_2 rfl (lv_at hl 0 rfl) ?_
    refine lv_sipush (v := 1024) hx hb d_Mo_differs_3 (by decide) ?_
    refine lv_icmp_ge (tgt := 39) hx hb d_Mo_differs_6 (by decide) (fun c6 => ?_) (fun c6 => absurd (nI_le (a := 1024) (b := k) hkn (by omega)) c6)
    refine lv_bipush (v := -2) hx hb d_Mo_differs_39 (by decide) ?_
    exact kf_irB hx hb hr hlocks (kx_atM hP hD) hS (by rw [hq, show 1024 - k = 0 by omega]; rfl) d_Mo_differs_41

set_option maxRecDepth 100000 in
set_option maxHeartbeats 4000000 in
theorem c_Mo_where (l : Launch) (D : va_G) (cB cI : ClassId) (hz : Nat) (y : Nat) (a0 : Nat) (a1 : Nat) (a2 : Nat) (g0 : Nat → Int32) (g1 : Nat → Int32) (gd : Nat → Int32) (hg0 : km_ok g0) (hg1 : km_ok g1) (p1 : Int32) (p2 : Int32) : kf_Ct l y_Mo_where w_Mo_where 9 205 0 0 D (kT cB cI) [.ref y, .int p1, .int p2] [(y, .inr (3, [.ref a0, .ref a1, .ref a2])), (a0, .inl (cI, 1024, .inl g0)), (a1, .inl (cI, 1024, .inl g1)), (a2, .inl (cI, 1024, .inl gd))] hz (some (.int (km_where g0 p1 p2))) (kx_Mo D cI y a0 a1 a2 g0 g1) := by
  refine kf_of (cc := b_Mo_where) (maxL := 7) (ret := (some .int)) (by decide) rfl (Nat.le_of_ble_eq_true rfl) ?_
  intro p e s m below meth c A H locs hx hb hr hml hown hts hlocks hin hP hD hS hA hE ls hl
  have hl : lv_has ls 7 [(0, .ref y), (1, .int p1), (2, .int p2)] := hl
  refine lv_aload_n hx hb d_Mo_where_0 rfl (lv_at hl 0 rfl) ?_
  refine kf_ro hP hD hS hA [0, 1] rfl (va_runV (As := []) (rest := []) ⟨hx, hb, hml, hown, hts⟩ (c_Mo_isRight l D cB cI _ y a0 a1 a2 g0 hg0) ⟨callB_of 0 hts g_Mo_isRight rfl rfl rfl (hts _ q1_5) (hts _ q2_187) h_Mo_isRight ⟨Nat.le_of_ble_eq_true rfl, Nat.le_of_ble_eq_true rfl⟩, (hts _ q2_189), (hts _ q0_9)⟩ ⟨kf_bl, va_recv hE.1 hP (ci := 3) (q0 := 0) rfl rfl, kf_to hP hD hS hA hE [0, 1] rfl rfl⟩ rfl rfl hl.1 rfl (lv_room (Nat.le_of_ble_eq_true rfl)) d_Mo_where_1 ⟨Nat.zero_le _, Nat.zero_le _⟩) (fun H locs hP hS => ?_)
  refine W.eq (g2 := F0 m 4 ls [.int (kP (km_fault g0 = -2))]) rfl ?_
  refine lv_if_eq (tgt := 34) hx hb d_Mo_where_4 (by decide) (fun c4 => ?_) (fun c4 => ?_)
  · refine lv_iconst (v := -1) hx hb d_Mo_where_34 (by decide) ?_
    exact kf_irB hx hb hr hlocks (kx_atM hP hD) hS (by unfold km_where; rw [if_pos (fun q => kP_eq c4 q.1.1)]) d_Mo_where_35
  · have hI := km_fI (kP_ne c4)
    have hJ := km_szI hI.1
    have hZ := km_size1 hJ.1
    refine lv_iload_n hx hb d_Mo_where_7 rfl (lv_at hl 1 rfl) ?_
    refine lv_if_lt (tgt := 34) hx hb d_Mo_where_8 (by decide) (fun c8 => ?_) (fun c8 => ?_)
    · refine lv_iconst (v := -1) hx hb d_Mo_where_34 (by decide) ?_
      exact kf_irB hx hb hr hlocks (kx_atM hP hD) hS (by unfold km_where; rw [if_pos (fun q => q.1.2.1 c8)]) d_Mo_where_35
    · refine lv_iload_n hx hb d_Mo_where_11 rfl (lv_at hl 1 rfl) ?_
      refine lv_i2l hx hb d_Mo_where_12 rfl ?_
      refine lv_aload_n hx hb d_Mo_where_13 rfl (lv_at hl 0 rfl) ?_
      refine va_get (D := D) (ci := 3) (v := .ref a0) (C := "FieldRowsModel") (T := F_Mo) (N := 3) hx hb hts ku_Mo hown hE.1 hP 0 rfl rfl 0 (by decide) (hts _ q2_144) (fun _ h9 => h9) rfl d_Mo_where_14 ?_
      refine kf_ro hP hD hS hA [1] rfl (va_runS (As := [.ref a0]) (rest := [.long p1.toInt64]) ⟨hx, hb, hml, hown, hts⟩ (c_Mo_groupsOf l D cB cI _ a0 g0 hg0  hJ.2) ⟨callB_of 1 hts g_Mo_groupsOf rfl rfl rfl (hts _ q1_5) (hts _ q2_73) h_Mo_groupsOf ⟨Nat.le_of_ble_eq_true rfl, Nat.le_of_ble_eq_true rfl⟩, (hts _ q2_74)⟩ ⟨kf_bl, kf_to hP hD hS hA hE [1] rfl rfl⟩ rfl rfl hl.1 rfl (lv_room (Nat.le_of_ble_eq_true rfl)) d_Mo_where_17 ⟨Nat.zero_le _, Nat.zero_le _⟩) (fun H locs hP hS => ?_)
      refine W.eq (g2 := F0 m 20 ls [.long (kv_gc g0), .long p1.toInt64]) rfl ?_
      refine kf_lc_ge (tgt := 34) hx hb d_Mo_where_20 d_Mo_where_21 (by decide) (fun c20 => ?_) (fun c20 => ?_)
      · refine lv_iconst (v := -1) hx hb d_Mo_where_34 (by decide) ?_
        exact kf_irB hx hb hr hlocks (kx_atM hP hD) hS (by unfold km_where; rw [if_pos (fun q => q.1.2.2 c20)]) d_Mo_where_35
      · refine lv_iload_n hx hb d_Mo_where_24 rfl (lv_at hl 2 rfl) ?_
        refine lv_if_lt (tgt := 34) hx hb d_Mo_where_25 (by decide) (fun c25 => ?_) (fun c25 => ?_)
        · refine lv_iconst (v := -1) hx hb d_Mo_where_34 (by decide) ?_
          exact kf_irB hx hb hr hlocks (kx_atM hP hD) hS (by unfold km_where; rw [if_pos (fun q => q.2.1 c25)]) d_Mo_where_35
        · refine lv_iload_n hx hb d_Mo_where_28 rfl (lv_at hl 2 rfl) ?_
          refine lv_bipush (v := 7) hx hb d_Mo_where_29 (by decide) ?_
          refine lv_icmp_le (tgt := 36) hx hb d_Mo_where_31 (by decide) (fun c31 => ?_) (fun c31 => ?_)
          · have hV : km_grP g0 p1 ∧ ¬ p2 < 0 ∧ p2 ≤ 7 := ⟨⟨kP_ne c4, c8, c20⟩, c25, c31⟩
            have hR := km_ctI hI.2.1
            have hG : km_grP g0 p1 := ⟨kP_ne c4, c8, c20⟩
            obtain ⟨n, hn, rfl⟩ := nI_of c8
            rw [nI_l hn] at c20
            have hn64 : n < 64 := km_own64 hR.2.2.1 c20 hn
            refine lv_aload_n hx hb d_Mo_where_36 rfl (lv_at hl 0 rfl) ?_
            refine va_get (D := D) (ci := 3) (v := .ref a0) (C := "FieldRowsModel") (T := F_Mo) (N := 3) hx hb hts ku_Mo hown hE.1 hP 0 rfl rfl 0 (by decide) (hts _ q2_144) (fun _ h9 => h9) rfl d_Mo_where_37 ?_
            refine lv_iload_n hx hb d_Mo_where_40 rfl (lv_at hl 1 rfl) ?_
            refine lv_i2l hx hb d_Mo_where_41 rfl ?_
            refine kf_tl (y := lN n) (nI_l hn) ?_
            refine kf_ro hP hD hS hA [1] rfl (va_runS (As := [.ref a0, .long (lN n)]) (rest := []) ⟨hx, hb, hml, hown, hts⟩ (c_Mo_beginOf l D cB cI _ a0 g0 hg0 (lN n) ) ⟨callB_of 2 hts g_Mo_beginOf rfl rfl rfl (hts _ q1_5) (hts _ q2_111) h_Mo_beginOf ⟨Nat.le_of_ble_eq_true rfl, Nat.le_of_ble_eq_true rfl⟩, (hts _ q2_112)⟩ ⟨kf_bl, kf_to hP hD hS hA hE [1] rfl rfl⟩ rfl rfl hl.1 rfl (lv_room (Nat.le_of_ble_eq_true rfl)) d_Mo_where_42 ⟨Nat.zero_le _, Nat.zero_le _⟩) (fun H locs hP hS => ?_)
            refine W.eq (g2 := F0 m 45 ls [.long (lN (ky_le g0 20 4) + (lN n) * lN (ky_le g0 32 4))]) rfl ?_
            refine lv_lstore_n (lv' := [(3, .long (lN (ky_le g0 20 4) + (lN n) * lN (ky_le g0 32 4))), (0, .ref y), (1, .int (nI n)), (2, .int p2)]) hx hb d_Mo_where_45 rfl hl (by decide) rfl (fun ls hl => ?_)
            refine lv_aload_n hx hb d_Mo_where_46 rfl (lv_at hl 1 rfl) ?_
            refine va_get (D := D) (ci := 3) (v := .ref a0) (C := "FieldRowsModel") (T := F_Mo) (N := 3) hx hb hts ku_Mo hown hE.1 hP 0 rfl rfl 0 (by decide) (hts _ q2_144) (fun _ h9 => h9) rfl d_Mo_where_47 ?_
            refine lv_iload_n hx hb d_Mo_where_50 rfl (lv_at hl 2 rfl) ?_
            refine lv_i2l hx hb d_Mo_where_51 rfl ?_
            refine kf_tl (y := lN n) (nI_l hn) ?_
            refine kf_ro hP hD hS hA [1] rfl (va_runS (As := [.ref a0, .long (lN n)]) (rest := []) ⟨hx, hb, hml, hown, hts⟩ (c_Mo_headOf l D cB cI _ a0 g0 hg0 n hn64 hJ.2 hZ) ⟨callB_of 2 hts g_Mo_headOf rfl rfl rfl (hts _ q1_5) (hts _ q2_117) h_Mo_headOf ⟨Nat.le_of_ble_eq_true rfl, Nat.le_of_ble_eq_true rfl⟩, (hts _ q2_118)⟩ ⟨kf_bl, kf_to hP hD hS hA hE [1] rfl rfl⟩ rfl rfl hl.1 rfl (lv_room (Nat.le_of_ble_eq_true rfl)) d_Mo_where_52 ⟨Nat.zero_le _, Nat.zero_le _⟩) (fun H locs hP hS => ?_)
            refine W.eq (g2 := F0 m 55 ls [.long (km_hd g0 n)]) rfl ?_
            refine lv_lstore (lv' := [(5, .long (km_hd g0 n)), (3, .long (lN (ky_le g0 20 4) + (lN n) * lN (ky_le g0 32 4))), (0, .ref y), (1, .int (nI n)), (2, .int p2)]) hx hb d_Mo_where_55 hl (by decide) rfl (fun ls hl => ?_)
            refine lv_iload_n hx hb d_Mo_where_57 rfl (lv_at hl 4 rfl) ?_
            rcases ky_sw8 p2 with rfl | rfl | rfl | rfl | rfl | rfl | rfl | rfl | hw
            · refine lv_tableIn (off := 42) (tgt := 100) hx hb d_Mo_where_58 (by decide) (by decide) (by decide) (by decide) ?_
              refine lv_lload_n hx hb d_Mo_where_100 rfl (lv_at hl 1 rfl) ?_
              refine lv_l2i hx hb d_Mo_where_101 rfl ?_
              exact kf_irB hx hb hr hlocks (kx_atM hP hD) hS (by unfold km_where; rw [if_neg (fun q => q hV), if_pos rfl, nI_l hn]) d_Mo_where_102
            · refine lv_tableIn (off := 45) (tgt := 103) hx hb d_Mo_where_58 (by decide) (by decide) (by decide) (by decide) ?_
              refine lv_aload_n hx hb d_Mo_where_103 rfl (lv_at hl 2 rfl) ?_
              refine va_get (D := D) (ci := 3) (v := .ref a0) (C := "FieldRowsModel") (T := F_Mo) (N := 3) hx hb hts ku_Mo hown hE.1 hP 0 rfl rfl 0 (by decide) (hts _ q2_144) (fun _ h9 => h9) rfl d_Mo_where_104 ?_
              refine lv_iload_n hx hb d_Mo_where_107 rfl (lv_at hl 3 rfl) ?_
              refine lv_i2l hx hb d_Mo_where_108 rfl ?_
              refine kf_tl (y := lN n) (nI_l hn) ?_
              refine kf_ro hP hD hS hA [1] rfl (va_runS (As := [.ref a0, .long (lN n)]) (rest := []) ⟨hx, hb, hml, hown, hts⟩ (c_Mo_blocksOf l D cB cI _ a0 g0 hg0 (lN n) ) ⟨callB_of 2 hts g_Mo_blocksOf rfl rfl rfl (hts _ q1_5) (hts _ q2_108) h_Mo_blocksOf ⟨Nat.le_of_ble_eq_true rfl, Nat.le_of_ble_eq_true rfl⟩, (hts _ q2_109)⟩ ⟨kf_bl, kf_to hP hD hS hA hE [1] rfl rfl⟩ rfl rfl hl.1 rfl (lv_room (Nat.le_of_ble_eq_true rfl)) d_Mo_where_109 ⟨Nat.zero_le _, Nat.zero_le _⟩) (fun H locs hP hS => ?_)
              refine W.eq (g2 := F0 m 112 ls [.long (ky_min (lN (ky_le g0 32 4)) (lN (ky_le g0 4 4) - (lN (ky_le g0 20 4) + (lN n) * lN (ky_le g0 32 4))))]) rfl ?_
              refine lv_l2i hx hb d_Mo_where_112 rfl ?_
              exact kf_irB hx hb hr hlocks (kx_atM hP hD) hS (by unfold km_where; rw [if_neg (fun q => q hV), if_neg (by decide), if_pos rfl, nI_l hn]) d_Mo_where_113
            · refine lv_tableIn (off := 56) (tgt := 114) hx hb d_Mo_where_58 (by decide) (by decide) (by decide) (by decide) ?_
              refine lv_aload_n hx hb d_Mo_where_114 rfl (lv_at hl 2 rfl) ?_
              refine va_get (D := D) (ci := 3) (v := .ref a0) (C := "FieldRowsModel") (T := F_Mo) (N := 3) hx hb hts ku_Mo hown hE.1 hP 0 rfl rfl 0 (by decide) (hts _ q2_144) (fun _ h9 => h9) rfl d_Mo_where_115 ?_
              refine lv_iload_n hx hb d_Mo_where_118 rfl (lv_at hl 3 rfl) ?_
              refine lv_i2l hx hb d_Mo_where_119 rfl ?_
              refine kf_tl (y := lN n) (nI_l hn) ?_
              refine kf_ro hP hD hS hA [1] rfl (va_runS (As := [.ref a0, .long (lN n)]) (rest := []) ⟨hx, hb, hml, hown, hts⟩ (c_Mo_hasCopy l D cB cI _ a0 g0 hg0 n hn64) ⟨callB_of 2 hts g_Mo_hasCopy rfl rfl rfl (hts _ q1_5) (hts _ q2_120) h_Mo_hasCopy ⟨Nat.le_of_ble_eq_true rfl, Nat.le_of_ble_eq_true rfl⟩, (hts _ q2_121)⟩ ⟨kf_bl, kf_to hP hD hS hA hE [1] rfl rfl⟩ rfl rfl hl.1 rfl (lv_room (Nat.le_of_ble_eq_true rfl)) d_Mo_where_120 ⟨Nat.zero_le _, Nat.zero_le _⟩) (fun H locs hP hS => ?_)
              refine W.eq (g2 := F0 m 123 ls [.int (kP (km_hcP g0 n))]) rfl ?_
              refine lv_if_eq (tgt := 130) hx hb d_Mo_where_123 (by decide) (fun c123 => ?_) (fun c123 => ?_)
              · refine lv_iconst (v := 0) hx hb d_Mo_where_130 (by decide) ?_
                exact kf_irB hx hb hr hlocks (kx_atM hP hD) hS (by unfold km_where; rw [if_neg (fun q => q hV), if_neg (by decide), if_neg (by decide), if_pos rfl, nI_clamp hn, if_neg (kP_eq c123)]) d_Mo_where_131
              · refine lv_iconst (v := 1) hx hb d_Mo_where_126 (by decide) ?_
                refine lv_goto (tgt := 131) hx hb d_Mo_where_127 (by decide) ?_
                exact kf_irB hx hb hr hlocks (kx_atM hP hD) hS (by unfold km_where; rw [if_neg (fun q => q hV), if_neg (by decide), if_neg (by decide), if_pos rfl, nI_clamp hn, if_pos (kP_ne c123)]) d_Mo_where_131
            · refine lv_tableIn (off := 74) (tgt := 132) hx hb d_Mo_where_58 (by decide) (by decide) (by decide) (by decide) ?_
              refine lv_lload_n hx hb d_Mo_where_132 rfl (lv_at hl 1 rfl) ?_
              refine lv_lload hx hb d_Mo_where_133 (lv_at hl 0 rfl) ?_
              refine lv_ladd hx hb d_Mo_where_135 ?_
              refine lv_l2i hx hb d_Mo_where_136 rfl ?_
              exact kf_irB hx hb hr hlocks (kx_atM hP hD) hS (by unfold km_where; rw [if_neg (fun q => q hV), if_neg (by decide), if_neg (by decide), if_neg (by decide), if_pos rfl, nI_clamp hn, nI_l hn]) d_Mo_where_137
            · refine lv_tableIn (off := 80) (tgt := 138) hx hb d_Mo_where_58 (by decide) (by decide) (by decide) (by decide) ?_
              refine lv_lload_n hx hb d_Mo_where_138 rfl (lv_at hl 1 rfl) ?_
              refine lv_lload hx hb d_Mo_where_139 (lv_at hl 0 rfl) ?_
              refine lv_ladd hx hb d_Mo_where_141 ?_
              refine lv_lconst (v := 1) hx hb d_Mo_where_142 (by decide) ?_
              refine lv_ladd hx hb d_Mo_where_143 ?_
              refine lv_l2i hx hb d_Mo_where_144 rfl ?_
              exact kf_irB hx hb hr hlocks (kx_atM hP hD) hS (by unfold km_where; rw [if_neg (fun q => q hV), if_neg (by decide), if_neg (by decide), if_neg (by decide), if_neg (by decide), if_pos rfl, nI_clamp hn, nI_l hn]) d_Mo_where_145
            · refine lv_tableIn (off := 88) (tgt := 146) hx hb d_Mo_where_58 (by decide) (by decide) (by decide) (by decide) ?_
              refine lv_lload_n hx hb d_Mo_where_146 rfl (lv_at hl 1 rfl) ?_
              refine lv_lload hx hb d_Mo_where_147 (lv_at hl 0 rfl) ?_
              refine lv_ladd hx hb d_Mo_where_149 ?_
              refine lv_ldc2 (v := 2) hx hb hown (hts _ q2_89) d_Mo_where_150 ?_
              refine lv_ladd hx hb d_Mo_where_153 ?_
              refine lv_l2i hx hb d_Mo_where_154 rfl ?_
              exact kf_irB hx hb hr hlocks (kx_atM hP hD) hS (by unfold km_where; rw [if_neg (fun q => q hV), if_neg (by decide), if_neg (by decide), if_neg (by decide), if_neg (by decide), if_neg (by decide), if_pos rfl, nI_clamp hn, nI_l hn]) d_Mo_where_155
            · refine lv_tableIn (off := 98) (tgt := 156) hx hb d_Mo_where_58 (by decide) (by decide) (by decide) (by decide) ?_
              refine lv_aload_n hx hb d_Mo_where_156 rfl (lv_at hl 2 rfl) ?_
              refine va_get (D := D) (ci := 3) (v := .ref a0) (C := "FieldRowsModel") (T := F_Mo) (N := 3) hx hb hts ku_Mo hown hE.1 hP 0 rfl rfl 0 (by decide) (hts _ q2_144) (fun _ h9 => h9) rfl d_Mo_where_157 ?_
              refine kf_ro hP hD hS hA [1] rfl (va_runS (As := [.ref a0]) (rest := []) ⟨hx, hb, hml, hown, hts⟩ (c_Mo_recordBlocks l D cB cI _ a0 g0 hg0  hZ) ⟨callB_of 1 hts g_Mo_recordBlocks rfl rfl rfl (hts _ q1_5) (hts _ q2_132) h_Mo_recordBlocks ⟨Nat.le_of_ble_eq_true rfl, Nat.le_of_ble_eq_true rfl⟩, (hts _ q2_133)⟩ ⟨kf_bl, kf_to hP hD hS hA hE [1] rfl rfl⟩ rfl rfl hl.1 rfl (lv_room (Nat.le_of_ble_eq_true rfl)) d_Mo_where_160 ⟨Nat.zero_le _, Nat.zero_le _⟩) (fun H locs hP hS => ?_)
              refine W.eq (g2 := F0 m 163 ls [.long (kv_rk g0)]) rfl ?_
              refine lv_l2i hx hb d_Mo_where_163 rfl ?_
              exact kf_irB hx hb hr hlocks (kx_atM hP hD) hS (by unfold km_where; rw [if_neg (fun q => q hV), if_neg (by decide), if_neg (by decide), if_neg (by decide), if_neg (by decide), if_neg (by decide), if_neg (by decide), if_pos rfl]) d_Mo_where_164
            · refine lv_tableOut (tgt := 165) hx hb d_Mo_where_58 (by decide) (by decide) ?_
              refine lv_aload_n hx hb d_Mo_where_165 rfl (lv_at hl 2 rfl) ?_
              refine va_get (D := D) (ci := 3) (v := .ref a0) (C := "FieldRowsModel") (T := F_Mo) (N := 3) hx hb hts ku_Mo hown hE.1 hP 0 rfl rfl 0 (by decide) (hts _ q2_144) (fun _ h9 => h9) rfl d_Mo_where_166 ?_
              refine lv_iload_n hx hb d_Mo_where_169 rfl (lv_at hl 3 rfl) ?_
              refine lv_i2l hx hb d_Mo_where_170 rfl ?_
              refine kf_tl (y := lN n) (nI_l hn) ?_
              refine kf_ro hP hD hS hA [1] rfl (va_runS (As := [.ref a0, .long (lN n)]) (rest := []) ⟨hx, hb, hml, hown, hts⟩ (c_Mo_fixedOf l D cB cI _ a0 g0 hg0 n hn64 hJ.2 hZ) ⟨callB_of 2 hts g_Mo_fixedOf rfl rfl rfl (hts _ q1_5) (hts _ q2_114) h_Mo_fixedOf ⟨Nat.le_of_ble_eq_true rfl, Nat.le_of_ble_eq_true rfl⟩, (hts _ q2_115)⟩ ⟨kf_bl, kf_to hP hD hS hA hE [1] rfl rfl⟩ rfl rfl hl.1 rfl (lv_room (Nat.le_of_ble_eq_true rfl)) d_Mo_where_171 ⟨Nat.zero_le _, Nat.zero_le _⟩) (fun H locs hP hS => ?_)
              refine W.eq (g2 := F0 m 174 ls [.long (km_hd g0 n + 2 + kv_rk g0)]) rfl ?_
              refine lv_l2i hx hb d_Mo_where_174 rfl ?_
              exact kf_irB hx hb hr hlocks (kx_atM hP hD) hS (by unfold km_where; rw [if_neg (fun q => q hV), if_neg (by decide), if_neg (by decide), if_neg (by decide), if_neg (by decide), if_neg (by decide), if_neg (by decide), if_neg (by decide), nI_clamp hn]) d_Mo_where_175
            · refine lv_tableOut (tgt := 165) hx hb d_Mo_where_58 (by omega) (by decide) ?_
              refine lv_aload_n hx hb d_Mo_where_165 rfl (lv_at hl 2 rfl) ?_
              refine va_get (D := D) (ci := 3) (v := .ref a0) (C := "FieldRowsModel") (T := F_Mo) (N := 3) hx hb hts ku_Mo hown hE.1 hP 0 rfl rfl 0 (by decide) (hts _ q2_144) (fun _ h9 => h9) rfl d_Mo_where_166 ?_
              refine lv_iload_n hx hb d_Mo_where_169 rfl (lv_at hl 3 rfl) ?_
              refine lv_i2l hx hb d_Mo_where_170 rfl ?_
              refine kf_tl (y := lN n) (nI_l hn) ?_
              refine kf_ro hP hD hS hA [1] rfl (va_runS (As := [.ref a0, .long (lN n)]) (rest := []) ⟨hx, hb, hml, hown, hts⟩ (c_Mo_fixedOf l D cB cI _ a0 g0 hg0 n hn64 hJ.2 hZ) ⟨callB_of 2 hts g_Mo_fixedOf rfl rfl rfl (hts _ q1_5) (hts _ q2_114) h_Mo_fixedOf ⟨Nat.le_of_ble_eq_true rfl, Nat.le_of_ble_eq_true rfl⟩, (hts _ q2_115)⟩ ⟨kf_bl, kf_to hP hD hS hA hE [1] rfl rfl⟩ rfl rfl hl.1 rfl (lv_room (Nat.le_of_ble_eq_true rfl)) d_Mo_where_171 ⟨Nat.zero_le _, Nat.zero_le _⟩) (fun H locs hP hS => ?_)
              refine W.eq (g2 := F0 m 174 ls [.long (km_hd g0 n + 2 + kv_rk g0)]) rfl ?_
              refine lv_l2i hx hb d_Mo_where_174 rfl ?_
              exact kf_irB hx hb hr hlocks (kx_atM hP hD) hS (by unfold km_where; rw [if_neg (fun q => q hV), if_neg hw.2.1, if_neg hw.2.2.1, if_neg hw.2.2.2.1, if_neg hw.2.2.2.2.1, if_neg hw.2.2.2.2.2.1, if_neg hw.2.2.2.2.2.2.1, if_neg hw.2.2.2.2.2.2.2.1, nI_clamp hn]) d_Mo_where_175
          · refine lv_iconst (v := -1) hx hb d_Mo_where_34 (by decide) ?_
            exact kf_irB hx hb hr hlocks (kx_atM hP hD) hS (by unfold km_where; rw [if_pos (fun q => c31 q.2.2)]) d_Mo_where_35
