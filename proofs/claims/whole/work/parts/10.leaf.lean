set_option maxRecDepth 100000 in
set_option maxHeartbeats 4000000 in
theorem c_FR_isField (l : Launch) (D : va_G) (cB cI : ClassId) (hz : Nat) (p0 : Int32) (p1 : Int32) : kf_Ct l y_FR_isField w_FR_isField 0 0 0 0 D (kT cB cI) [.int p0, .int p1] [] hz (some (.int (kP (ky_isFP p0 p1)))) (kf_po D []) := by
  refine kf_of (cc := b_FR_isField) (maxL := 2) (ret := (some .boolean)) (by decide) rfl (Nat.le_of_ble_eq_true rfl) ?_
  intro p e s m below meth c A H locs hx hb hr hml hown hts hlocks hin hP hD hS hA hE ls hl
  have hl : lv_has ls 2 [(0, .int p0), (1, .int p1)] := hl
  refine lv_iload_n hx hb d_FR_isField_0 rfl (lv_at hl 1 rfl) ?_
  refine lv_iconst (v := 1) hx hb d_FR_isField_1 (by decide) ?_
  refine lv_icmp_eq (tgt := 15) hx hb d_FR_isField_2 (by decide) (fun c2 => ?_) (fun c2 => ?_)
  · refine lv_iload_n hx hb d_FR_isField_15 rfl (lv_at hl 0 rfl) ?_
    refine lv_if_lt (tgt := 32) hx hb d_FR_isField_16 (by decide) (fun c16 => ?_) (fun c16 => ?_)
    · refine lv_iconst (v := 0) hx hb d_FR_isField_32 (by decide) ?_
      exact kf_zr hx hb hr hlocks hP hD hS (kP_f (by grind)) (kP_nar) d_FR_isField_33
    · refine lv_iload_n hx hb d_FR_isField_19 rfl (lv_at hl 0 rfl) ?_
      refine lv_sipush (v := 1024) hx hb d_FR_isField_20 (by decide) ?_
      refine lv_iload_n hx hb d_FR_isField_23 rfl (lv_at hl 1 rfl) ?_
      refine lv_isub hx hb d_FR_isField_24 ?_
      refine lv_icmp_gt (tgt := 32) hx hb d_FR_isField_25 (by decide) (fun c25 => ?_) (fun c25 => ?_)
      · refine lv_iconst (v := 0) hx hb d_FR_isField_32 (by decide) ?_
        exact kf_zr hx hb hr hlocks hP hD hS (kP_f (by grind)) (kP_nar) d_FR_isField_33
      · refine lv_iconst (v := 1) hx hb d_FR_isField_28 (by decide) ?_
        refine lv_goto (tgt := 33) hx hb d_FR_isField_29 (by decide) ?_
        exact kf_zr hx hb hr hlocks hP hD hS (kP_t (by grind)) (kP_nar) d_FR_isField_33
  · refine lv_iload_n hx hb d_FR_isField_5 rfl (lv_at hl 1 rfl) ?_
    refine lv_iconst (v := 2) hx hb d_FR_isField_6 (by decide) ?_
    refine lv_icmp_eq (tgt := 15) hx hb d_FR_isField_7 (by decide) (fun c7 => ?_) (fun c7 => ?_)
    · refine lv_iload_n hx hb d_FR_isField_15 rfl (lv_at hl 0 rfl) ?_
      refine lv_if_lt (tgt := 32) hx hb d_FR_isField_16 (by decide) (fun c16 => ?_) (fun c16 => ?_)
      · refine lv_iconst (v := 0) hx hb d_FR_isField_32 (by decide) ?_
        exact kf_zr hx hb hr hlocks hP hD hS (kP_f (by grind)) (kP_nar) d_FR_isField_33
      · refine lv_iload_n hx hb d_FR_isField_19 rfl (lv_at hl 0 rfl) ?_
        refine lv_sipush (v := 1024) hx hb d_FR_isField_20 (by decide) ?_
        refine lv_iload_n hx hb d_FR_isField_23 rfl (lv_at hl 1 rfl) ?_
        refine lv_isub hx hb d_FR_isField_24 ?_
        refine lv_icmp_gt (tgt := 32) hx hb d_FR_isField_25 (by decide) (fun c25 => ?_) (fun c25 => ?_)
        · refine lv_iconst (v := 0) hx hb d_FR_isField_32 (by decide) ?_
          exact kf_zr hx hb hr hlocks hP hD hS (kP_f (by grind)) (kP_nar) d_FR_isField_33
        · refine lv_iconst (v := 1) hx hb d_FR_isField_28 (by decide) ?_
          refine lv_goto (tgt := 33) hx hb d_FR_isField_29 (by decide) ?_
          exact kf_zr hx hb hr hlocks hP hD hS (kP_t (by grind)) (kP_nar) d_FR_isField_33
    · refine lv_iload_n hx hb d_FR_isField_10 rfl (lv_at hl 1 rfl) ?_
      refine lv_iconst (v := 4) hx hb d_FR_isField_11 (by decide) ?_
      refine lv_icmp_ne (tgt := 32) hx hb d_FR_isField_12 (by decide) (fun c12 => ?_) (fun c12 => ?_)
      · refine lv_iconst (v := 0) hx hb d_FR_isField_32 (by decide) ?_
        exact kf_zr hx hb hr hlocks hP hD hS (kP_f (by grind)) (kP_nar) d_FR_isField_33
      · refine lv_iload_n hx hb d_FR_isField_15 rfl (lv_at hl 0 rfl) ?_
        refine lv_if_lt (tgt := 32) hx hb d_FR_isField_16 (by decide) (fun c16 => ?_) (fun c16 => ?_)
        · refine lv_iconst (v := 0) hx hb d_FR_isField_32 (by decide) ?_
          exact kf_zr hx hb hr hlocks hP hD hS (kP_f (by grind)) (kP_nar) d_FR_isField_33
        · refine lv_iload_n hx hb d_FR_isField_19 rfl (lv_at hl 0 rfl) ?_
          refine lv_sipush (v := 1024) hx hb d_FR_isField_20 (by decide) ?_
          refine lv_iload_n hx hb d_FR_isField_23 rfl (lv_at hl 1 rfl) ?_
          refine lv_isub hx hb d_FR_isField_24 ?_
          refine lv_icmp_gt (tgt := 32) hx hb d_FR_isField_25 (by decide) (fun c25 => ?_) (fun c25 => ?_)
          · refine lv_iconst (v := 0) hx hb d_FR_isField_32 (by decide) ?_
            exact kf_zr hx hb hr hlocks hP hD hS (kP_f (by grind)) (kP_nar) d_FR_isField_33
          · refine lv_iconst (v := 1) hx hb d_FR_isField_28 (by decide) ?_
            refine lv_goto (tgt := 33) hx hb d_FR_isField_29 (by decide) ?_
            exact kf_zr hx hb hr hlocks hP hD hS (kP_t (by grind)) (kP_nar) d_FR_isField_33

set_option maxRecDepth 100000 in
set_option maxHeartbeats 4000000 in
theorem c_FR_firstFor (l : Launch) (D : va_G) (cB cI : ClassId) (hz : Nat) (p0 : Int64) : kf_Ct l y_FR_firstFor w_FR_firstFor 0 0 0 0 D (kT cB cI) [.long p0] [] hz (some (.int (kP (p0 = 0)))) (kf_po D []) := by
  refine kf_of (cc := b_FR_firstFor) (maxL := 2) (ret := (some .int)) (by decide) rfl (Nat.le_of_ble_eq_true rfl) ?_
  intro p e s m below meth c A H locs hx hb hr hml hown hts hlocks hin hP hD hS hA hE ls hl
  have hl : lv_has ls 2 [(0, .long p0)] := hl
  refine lv_lload_n hx hb d_FR_firstFor_0 rfl (lv_at hl 0 rfl) ?_
  refine lv_lconst (v := 0) hx hb d_FR_firstFor_1 (by decide) ?_
  refine kf_lc_ne (tgt := 10) hx hb d_FR_firstFor_2 d_FR_firstFor_3 (by decide) (fun c2 => ?_) (fun c2 => ?_)
  · refine lv_iconst (v := 0) hx hb d_FR_firstFor_10 (by decide) ?_
    exact kf_ir hx hb hr hlocks hP hD hS (kP_f (by grind)) d_FR_firstFor_11
  · refine lv_iconst (v := 1) hx hb d_FR_firstFor_6 (by decide) ?_
    refine lv_goto (tgt := 11) hx hb d_FR_firstFor_7 (by decide) ?_
    exact kf_ir hx hb hr hlocks hP hD hS (kP_t (by grind)) d_FR_firstFor_11

set_option maxRecDepth 100000 in
set_option maxHeartbeats 4000000 in
theorem c_FR_isEightfold (l : Launch) (D : va_G) (cB cI : ClassId) (hz : Nat) (p0 : Int64) (p1 : Int64) (p2 : Int64) : kf_Ct l y_FR_isEightfold w_FR_isEightfold 0 0 0 0 D (kT cB cI) [.long p0, .long p1, .long p2] [] hz (some (.int (kP (ky_e8P p0 p1 p2)))) (kf_po D []) := by
  refine kf_of (cc := b_FR_isEightfold) (maxL := 6) (ret := (some .boolean)) (by decide) rfl (Nat.le_of_ble_eq_true rfl) ?_
  intro p e s m below meth c A H locs hx hb hr hml hown hts hlocks hin hP hD hS hA hE ls hl
  have hl : lv_has ls 6 [(0, .long p0), (2, .long p1), (4, .long p2)] := hl
  refine lv_lload_n hx hb d_FR_isEightfold_0 rfl (lv_at hl 0 rfl) ?_
  refine lv_lload_n hx hb d_FR_isEightfold_1 rfl (lv_at hl 1 rfl) ?_
  refine kf_lc_lt (tgt := 27) hx hb d_FR_isEightfold_2 d_FR_isEightfold_3 (by decide) (fun c2 => ?_) (fun c2 => ?_)
  · refine lv_iconst (v := 0) hx hb d_FR_isEightfold_27 (by decide) ?_
    exact kf_zr hx hb hr hlocks hP hD hS (kP_f (by grind)) (kP_nar) d_FR_isEightfold_28
  · refine lv_lload_n hx hb d_FR_isEightfold_6 rfl (lv_at hl 0 rfl) ?_
    refine lv_lload hx hb d_FR_isEightfold_7 (lv_at hl 2 rfl) ?_
    refine kf_lc_gt (tgt := 27) hx hb d_FR_isEightfold_9 d_FR_isEightfold_10 (by decide) (fun c9 => ?_) (fun c9 => ?_)
    · refine lv_iconst (v := 0) hx hb d_FR_isEightfold_27 (by decide) ?_
      exact kf_zr hx hb hr hlocks hP hD hS (kP_f (by grind)) (kP_nar) d_FR_isEightfold_28
    · refine lv_lload_n hx hb d_FR_isEightfold_13 rfl (lv_at hl 0 rfl) ?_
      refine lv_ldc2 (v := 7) hx hb hown (hts _ q1_143) d_FR_isEightfold_14 ?_
      refine lv_land hx hb d_FR_isEightfold_17 ?_
      refine lv_lconst (v := 0) hx hb d_FR_isEightfold_18 (by decide) ?_
      refine kf_lc_ne (tgt := 27) hx hb d_FR_isEightfold_19 d_FR_isEightfold_20 (by decide) (fun c19 => ?_) (fun c19 => ?_)
      · refine lv_iconst (v := 0) hx hb d_FR_isEightfold_27 (by decide) ?_
        exact kf_zr hx hb hr hlocks hP hD hS (kP_f (by grind)) (kP_nar) d_FR_isEightfold_28
      · refine lv_iconst (v := 1) hx hb d_FR_isEightfold_23 (by decide) ?_
        refine lv_goto (tgt := 28) hx hb d_FR_isEightfold_24 (by decide) ?_
        exact kf_zr hx hb hr hlocks hP hD hS (kP_t (by grind)) (kP_nar) d_FR_isEightfold_28

set_option maxRecDepth 100000 in
set_option maxHeartbeats 4000000 in
theorem c_FR_isRecordLength (l : Launch) (D : va_G) (cB cI : ClassId) (hz : Nat) (p0 : Int64) : kf_Ct l y_FR_isRecordLength w_FR_isRecordLength 0 0 0 0 D (kT cB cI) [.long p0] [] hz (some (.int (kP (ky_rlP p0)))) (kf_po D []) := by
  refine kf_of (cc := b_FR_isRecordLength) (maxL := 2) (ret := (some .boolean)) (by decide) rfl (Nat.le_of_ble_eq_true rfl) ?_
  intro p e s m below meth c A H locs hx hb hr hml hown hts hlocks hin hP hD hS hA hE ls hl
  have hl : lv_has ls 2 [(0, .long p0)] := hl
  refine lv_lload_n hx hb d_FR_isRecordLength_0 rfl (lv_at hl 0 rfl) ?_
  refine lv_ldc2 (v := 128) hx hb hown (hts _ q1_147) d_FR_isRecordLength_1 ?_
  refine kf_lc_eq (tgt := 32) hx hb d_FR_isRecordLength_4 d_FR_isRecordLength_5 (by decide) (fun c4 => ?_) (fun c4 => ?_)
  · refine lv_iconst (v := 1) hx hb d_FR_isRecordLength_32 (by decide) ?_
    refine lv_goto (tgt := 37) hx hb d_FR_isRecordLength_33 (by decide) ?_
    exact kf_zr hx hb hr hlocks hP hD hS (kP_t (by grind)) (kP_nar) d_FR_isRecordLength_37
  · refine lv_lload_n hx hb d_FR_isRecordLength_8 rfl (lv_at hl 0 rfl) ?_
    refine lv_ldc2 (v := 256) hx hb hown (hts _ q1_148) d_FR_isRecordLength_9 ?_
    refine kf_lc_eq (tgt := 32) hx hb d_FR_isRecordLength_12 d_FR_isRecordLength_13 (by decide) (fun c12 => ?_) (fun c12 => ?_)
    · refine lv_iconst (v := 1) hx hb d_FR_isRecordLength_32 (by decide) ?_
      refine lv_goto (tgt := 37) hx hb d_FR_isRecordLength_33 (by decide) ?_
      exact kf_zr hx hb hr hlocks hP hD hS (kP_t (by grind)) (kP_nar) d_FR_isRecordLength_37
    · refine lv_lload_n hx hb d_FR_isRecordLength_16 rfl (lv_at hl 0 rfl) ?_
      refine lv_ldc2 (v := 512) hx hb hown (hts _ q1_149) d_FR_isRecordLength_17 ?_
      refine kf_lc_eq (tgt := 32) hx hb d_FR_isRecordLength_20 d_FR_isRecordLength_21 (by decide) (fun c20 => ?_) (fun c20 => ?_)
      · refine lv_iconst (v := 1) hx hb d_FR_isRecordLength_32 (by decide) ?_
        refine lv_goto (tgt := 37) hx hb d_FR_isRecordLength_33 (by decide) ?_
        exact kf_zr hx hb hr hlocks hP hD hS (kP_t (by grind)) (kP_nar) d_FR_isRecordLength_37
      · refine lv_lload_n hx hb d_FR_isRecordLength_24 rfl (lv_at hl 0 rfl) ?_
        refine lv_ldc2 (v := 1024) hx hb hown (hts _ q1_150) d_FR_isRecordLength_25 ?_
        refine kf_lc_ne (tgt := 36) hx hb d_FR_isRecordLength_28 d_FR_isRecordLength_29 (by decide) (fun c28 => ?_) (fun c28 => ?_)
        · refine lv_iconst (v := 0) hx hb d_FR_isRecordLength_36 (by decide) ?_
          exact kf_zr hx hb hr hlocks hP hD hS (kP_f (by grind)) (kP_nar) d_FR_isRecordLength_37
        · refine lv_iconst (v := 1) hx hb d_FR_isRecordLength_32 (by decide) ?_
          refine lv_goto (tgt := 37) hx hb d_FR_isRecordLength_33 (by decide) ?_
          exact kf_zr hx hb hr hlocks hP hD hS (kP_t (by grind)) (kP_nar) d_FR_isRecordLength_37

set_option maxRecDepth 100000 in
set_option maxHeartbeats 4000000 in
theorem c_FR_quotient (l : Launch) (D : va_G) (cB cI : ClassId) (hz : Nat) (p0 : Int64) (p1 : Int64) : kf_Ct l y_FR_quotient w_FR_quotient 0 0 0 0 D (kT cB cI) [.long p0, .long p1] [] hz (some (.long (ky_q p0 p1))) (kf_po D []) := by
  refine kf_of (cc := b_FR_quotient) (maxL := 4) (ret := (some .long)) (by decide) rfl (Nat.le_of_ble_eq_true rfl) ?_
  intro p e s m below meth c A H locs hx hb hr hml hown hts hlocks hin hP hD hS hA hE ls hl
  have hl : lv_has ls 4 [(0, .long p0), (2, .long p1)] := hl
  refine lv_lload_n hx hb d_FR_quotient_0 rfl (lv_at hl 1 rfl) ?_
  refine lv_lconst (v := 1) hx hb d_FR_quotient_1 (by decide) ?_
  refine kf_lc_ge (tgt := 10) hx hb d_FR_quotient_2 d_FR_quotient_3 (by decide) (fun c2 => ?_) (fun c2 => ?_)
  · refine lv_lload_n hx hb d_FR_quotient_10 rfl (lv_at hl 0 rfl) ?_
    refine lv_lload_n hx hb d_FR_quotient_11 rfl (lv_at hl 1 rfl) ?_
    refine lv_ldiv hx hb d_FR_quotient_12 (fun q => absurd (q ▸ c2) (by decide)) ?_
    exact kf_lr hx hb hr hlocks hP hD hS (by unfold ky_q; rw [if_pos c2]) d_FR_quotient_13
  · refine lv_lconst (v := 0) hx hb d_FR_quotient_6 (by decide) ?_
    refine lv_goto (tgt := 13) hx hb d_FR_quotient_7 (by decide) ?_
    exact kf_lr hx hb hr hlocks hP hD hS (by unfold ky_q; rw [if_neg c2]) d_FR_quotient_13

set_option maxRecDepth 100000 in
set_option maxHeartbeats 4000000 in
theorem c_FR_quotientUp (l : Launch) (D : va_G) (cB cI : ClassId) (hz : Nat) (p0 : Int64) (p1 : Int64) : kf_Ct l y_FR_quotientUp w_FR_quotientUp 1 23 0 0 D (kT cB cI) [.long p0, .long p1] [] hz (some (.long (ky_qU p0 p1))) (kf_po D []) := by
  refine kf_of (cc := b_FR_quotientUp) (maxL := 4) (ret := (some .long)) (by decide) rfl (Nat.le_of_ble_eq_true rfl) ?_
  intro p e s m below meth c A H locs hx hb hr hml hown hts hlocks hin hP hD hS hA hE ls hl
  have hl : lv_has ls 4 [(0, .long p0), (2, .long p1)] := hl
  refine lv_lload_n hx hb d_FR_quotientUp_0 rfl (lv_at hl 0 rfl) ?_
  refine lv_lload_n hx hb d_FR_quotientUp_1 rfl (lv_at hl 1 rfl) ?_
  refine lv_ladd hx hb d_FR_quotientUp_2 ?_
  refine lv_lconst (v := 1) hx hb d_FR_quotientUp_3 (by decide) ?_
  refine lv_lsub hx hb d_FR_quotientUp_4 ?_
  refine lv_lload_n hx hb d_FR_quotientUp_5 rfl (lv_at hl 1 rfl) ?_
  refine kf_ro hP hD hS hA [] rfl (va_runS (As := [.long ((p0 + p1) - 1), .long p1]) (rest := []) ⟨hx, hb, hml, hown, hts⟩ (c_FR_quotient l D cB cI _ ((p0 + p1) - 1) p1) ⟨callB_of 2 hts g_FR_quotient rfl rfl rfl (hts _ q1_1) (hts _ q1_118) h_FR_quotient ⟨Nat.le_of_ble_eq_true rfl, Nat.le_of_ble_eq_true rfl⟩, (hts _ q1_119)⟩ ⟨kf_bl, kf_to hP hD hS hA hE [] rfl rfl⟩ rfl rfl hl.1 rfl (lv_room (Nat.le_of_ble_eq_true rfl)) d_FR_quotientUp_6 ⟨Nat.zero_le _, Nat.zero_le _⟩) (fun H locs hP hS => ?_)
  refine W.eq (g2 := F0 m 9 ls [.long (ky_q ((p0 + p1) - 1) p1)]) rfl ?_
  exact kf_lr hx hb hr hlocks hP hD hS (rfl) d_FR_quotientUp_9

set_option maxRecDepth 100000 in
set_option maxHeartbeats 4000000 in
theorem c_Vol_groupStart (l : Launch) (D : va_G) (cB cI : ClassId) (hz : Nat) (h0 : Nat) (fi : Int64) (bl : Int64) (fs : Int64) (sh : Int64) (zz : Int64) (gb : Int64) (gf : Int64) (rb : Int64) (fc : Int32) (gc : Int64) (cb : Int64) (rk : Int64) (g : Int64) : kf_Ct l y_Vol_groupStart w_Vol_groupStart 0 0 0 0 D (kT cB cI) [.ref h0, .long g] [(h0, .inr (1, [.long fi, .long bl, .long fs, .long sh, .long zz, .long gb, .long gf, .long rb, .int fc, .long gc, .long cb, .long rk]))] hz (some (.long (fs + g * gb))) (kf_po D [(h0, .inr (1, [.long fi, .long bl, .long fs, .long sh, .long zz, .long gb, .long gf, .long rb, .int fc, .long gc, .long cb, .long rk]))]) := by
  refine kf_of (cc := b_Vol_groupStart) (maxL := 3) (ret := (some .long)) (by decide) rfl (Nat.le_of_ble_eq_true rfl) ?_
  intro p e s m below meth c A H locs hx hb hr hml hown hts hlocks hin hP hD hS hA hE ls hl
  have hl : lv_has ls 3 [(0, .ref h0), (1, .long g)] := hl
  refine lv_aload_n hx hb d_Vol_groupStart_0 rfl (lv_at hl 0 rfl) ?_
  refine va_get (D := D) (ci := 1) (v := .long fs) (C := "FieldRows$Volume") (T := F_Vol) (N := 12) hx hb hts ku_Vol hown hE.1 hP 0 rfl rfl 2 (by decide) (hts _ q1_34) (fun _ h9 => h9) rfl d_Vol_groupStart_1 ?_
  refine lv_lload_n hx hb d_Vol_groupStart_4 rfl (lv_at hl 1 rfl) ?_
  refine lv_aload_n hx hb d_Vol_groupStart_5 rfl (lv_at hl 0 rfl) ?_
  refine va_get (D := D) (ci := 1) (v := .long gb) (C := "FieldRows$Volume") (T := F_Vol) (N := 12) hx hb hts ku_Vol hown hE.1 hP 0 rfl rfl 5 (by decide) (hts _ q1_38) (fun _ h9 => h9) rfl d_Vol_groupStart_6 ?_
  refine lv_lmul hx hb d_Vol_groupStart_9 ?_
  refine lv_ladd hx hb d_Vol_groupStart_10 ?_
  exact kf_lr hx hb hr hlocks hP hD hS (rfl) d_Vol_groupStart_11

set_option maxRecDepth 100000 in
set_option maxHeartbeats 4000000 in
theorem c_Vol_groupLength (l : Launch) (D : va_G) (cB cI : ClassId) (hz : Nat) (h0 : Nat) (fi : Int64) (bl : Int64) (fs : Int64) (sh : Int64) (zz : Int64) (gb : Int64) (gf : Int64) (rb : Int64) (fc : Int32) (gc : Int64) (cb : Int64) (rk : Int64) (g : Int64) : kf_Ct l y_Vol_groupLength w_Vol_groupLength 1 22 0 0 D (kT cB cI) [.ref h0, .long g] [(h0, .inr (1, [.long fi, .long bl, .long fs, .long sh, .long zz, .long gb, .long gf, .long rb, .int fc, .long gc, .long cb, .long rk]))] hz (some (.long (ky_min gb (bl - (fs + g * gb))))) (kf_po D [(h0, .inr (1, [.long fi, .long bl, .long fs, .long sh, .long zz, .long gb, .long gf, .long rb, .int fc, .long gc, .long cb, .long rk]))]) := by
  refine kf_of (cc := b_Vol_groupLength) (maxL := 3) (ret := (some .long)) (by decide) rfl (Nat.le_of_ble_eq_true rfl) ?_
  intro p e s m below meth c A H locs hx hb hr hml hown hts hlocks hin hP hD hS hA hE ls hl
  have hl : lv_has ls 3 [(0, .ref h0), (1, .long g)] := hl
  refine lv_aload_n hx hb d_Vol_groupLength_0 rfl (lv_at hl 0 rfl) ?_
  refine va_get (D := D) (ci := 1) (v := .long gb) (C := "FieldRows$Volume") (T := F_Vol) (N := 12) hx hb hts ku_Vol hown hE.1 hP 0 rfl rfl 5 (by decide) (hts _ q1_38) (fun _ h9 => h9) rfl d_Vol_groupLength_1 ?_
  refine lv_aload_n hx hb d_Vol_groupLength_4 rfl (lv_at hl 0 rfl) ?_
  refine va_get (D := D) (ci := 1) (v := .long bl) (C := "FieldRows$Volume") (T := F_Vol) (N := 12) hx hb hts ku_Vol hown hE.1 hP 0 rfl rfl 1 (by decide) (hts _ q1_33) (fun _ h9 => h9) rfl d_Vol_groupLength_5 ?_
  refine lv_aload_n hx hb d_Vol_groupLength_8 rfl (lv_at hl 0 rfl) ?_
  refine lv_lload_n hx hb d_Vol_groupLength_9 rfl (lv_at hl 1 rfl) ?_
  refine kf_ro hP hD hS hA [0] rfl (va_runV (As := [.long g]) (rest := [.long bl, .long gb]) ⟨hx, hb, hml, hown, hts⟩ (c_Vol_groupStart l D cB cI _ h0 fi bl fs sh zz gb gf rb fc gc cb rk g) ⟨callB_of 1 hts g_Vol_groupStart rfl rfl rfl (hts _ q1_3) (hts _ q1_161) h_Vol_groupStart ⟨Nat.le_of_ble_eq_true rfl, Nat.le_of_ble_eq_true rfl⟩, (hts _ q1_162), (hts _ q1_163)⟩ ⟨kf_bl, va_recv hE.1 hP (ci := 1) (q0 := 0) rfl rfl, kf_to hP hD hS hA hE [0] rfl rfl⟩ rfl rfl hl.1 rfl (lv_room (Nat.le_of_ble_eq_true rfl)) d_Vol_groupLength_10 ⟨Nat.zero_le _, Nat.zero_le _⟩) (fun H locs hP hS => ?_)
  refine W.eq (g2 := F0 m 13 ls [.long (fs + g * gb), .long bl, .long gb]) rfl ?_
  refine lv_lsub hx hb d_Vol_groupLength_13 ?_
  refine va_mmin_long hx hb (hml.trans hl.1.symm) hown (hts _ q1_165) (hts _ q1_166) (hts _ q1_4) (hts _ q1_167) (Nat.le_of_ble_eq_true rfl) (Nat.le_of_ble_eq_true rfl) (Nat.zero_le _) (Nat.zero_le _) d_Vol_groupLength_14 ?_
  refine kf_tl (y := ky_min gb (bl - (fs + g * gb))) (rfl) ?_
  exact kf_lr hx hb hr hlocks hP hD hS (rfl) d_Vol_groupLength_17

set_option maxRecDepth 100000 in
set_option maxHeartbeats 4000000 in
theorem c_Vol_hasCopy (l : Launch) (D : va_G) (cB cI : ClassId) (hz : Nat) (h0 : Nat) (fi : Int64) (bl : Int64) (fs : Int64) (sh : Int64) (zz : Int64) (gb : Int64) (gf : Int64) (rb : Int64) (fc : Int32) (gc : Int64) (cb : Int64) (rk : Int64) (g : Int64) : kf_Ct l y_Vol_hasCopy w_Vol_hasCopy 0 0 0 0 D (kT cB cI) [.ref h0, .long g] [(h0, .inr (1, [.long fi, .long bl, .long fs, .long sh, .long zz, .long gb, .long gf, .long rb, .int fc, .long gc, .long cb, .long rk]))] hz (some (.int (kP (ky_hcP fc g)))) (kf_po D [(h0, .inr (1, [.long fi, .long bl, .long fs, .long sh, .long zz, .long gb, .long gf, .long rb, .int fc, .long gc, .long cb, .long rk]))]) := by
  refine kf_of (cc := b_Vol_hasCopy) (maxL := 4) (ret := (some .boolean)) (by decide) rfl (Nat.le_of_ble_eq_true rfl) ?_
  intro p e s m below meth c A H locs hx hb hr hml hown hts hlocks hin hP hD hS hA hE ls hl
  have hl : lv_has ls 4 [(0, .ref h0), (1, .long g)] := hl
  refine lv_aload_n hx hb d_Vol_hasCopy_0 rfl (lv_at hl 0 rfl) ?_
  refine va_get (D := D) (ci := 1) (v := .int fc) (C := "FieldRows$Volume") (T := F_Vol) (N := 12) hx hb hts ku_Vol hown hE.1 hP 0 rfl rfl 8 (by decide) (hts _ q1_43) (fun _ h9 => h9) rfl d_Vol_hasCopy_1 ?_
  refine lv_if_ne (tgt := 9) hx hb d_Vol_hasCopy_4 (by decide) (fun c4 => ?_) (fun c4 => ?_)
  · refine lv_iconst (v := 0) hx hb d_Vol_hasCopy_9 (by decide) ?_
    refine kf_ti (y := nI 0) (rfl) ?_
    refine lv_istore_n (lv' := [(3, .int (nI 0)), (0, .ref h0), (1, .long g)]) hx hb d_Vol_hasCopy_10 rfl hl (by decide) rfl (fun ls hl => ?_)
    refine kf_loop (σ := Nat) (fun k ls H locs => (k ≤ 9) ∧ (∀ j, j < k → ¬ (ky_few j).toInt64 = g) ∧ lv_has ls 4 [(3, .int (nI k)), (0, .ref h0), (1, .long g)] ∧ va_P D vwCl [(h0, .inr (1, [.long fi, .long bl, .long fs, .long sh, .long zz, .long gb, .long gf, .long rb, .int fc, .long gc, .long cb, .long rk]))] H ∧ va_D A [(h0, .inr (1, [.long fi, .long bl, .long fs, .long sh, .long zz, .long gb, .long gf, .long rb, .int fc, .long gc, .long cb, .long rk]))] ∧ va_S A s.heap H locs) (fun k => 9 - k) 0 ⟨Nat.zero_le _, fun j hj => absurd hj (Nat.not_lt_zero j), lv_sub hl [0, 1, 2] rfl, hP, hD, hS⟩ (fun k ls H locs hI ih => ?_)
    obtain ⟨hk, hno, hl, hP, hD, hS⟩ := hI
    rcases Nat.lt_or_ge k 9 with hk9 | hk9
    · refine lv_iload_n hx hb d_Vol_hasCopy_11 rfl (lv_at hl 0 rfl) ?_
      obtain ⟨tF, htFZ, htFT⟩ := hE.2.2 kf_zF (by simp [kf_zs])
      refine va_getsN hx hb htFZ hS hown (va_Nw.use rfl (hE.2.1 _ q1_180)) (fun _ h9 => h9) d_Vol_hasCopy_12 ?_
      refine va_tlen hx hb htFT hS (v := 9) (by decide) d_Vol_hasCopy_15 ?_
      refine lv_icmp_ge (tgt := 38) hx hb d_Vol_hasCopy_16 (by decide) (fun c16 => absurd c16 (nI_ge (a := k) (b := 9) hk9 (by decide))) (fun c16 => ?_)
      obtain ⟨tF, htFZ, htFT⟩ := hE.2.2 kf_zF (by simp [kf_zs])
      refine va_getsN hx hb htFZ hS hown (va_Nw.use rfl (hE.2.1 _ q1_180)) (fun _ h9 => h9) d_Vol_hasCopy_19 ?_
      refine lv_iload_n hx hb d_Vol_hasCopy_22 rfl (lv_at hl 0 rfl) ?_
      refine va_ti hx hb htFT hS (vp_in_nI hk9 (by decide)) (v := .int (ky_few k)) (by show Value.int (ky_few (nI k).toNatClampNeg) = _; rw [nI_clamp (by omega)]) d_Vol_hasCopy_23 ?_
      refine lv_i2l hx hb d_Vol_hasCopy_24 rfl ?_
      refine lv_lload_n hx hb d_Vol_hasCopy_25 rfl (lv_at hl 2 rfl) ?_
      refine kf_lc_ne (tgt := 32) hx hb d_Vol_hasCopy_26 d_Vol_hasCopy_27 (by decide) (fun c26 => ?_) (fun c26 => ?_)
      · refine lv_iinc (v := nI (k + 1)) (lv' := [(3, .int (nI (k + 1))), (0, .ref h0), (1, .long g)]) hx hb d_Vol_hasCopy_32 hl (k := 0) rfl ((nI_succ k).symm) (by decide) rfl (fun ls hl => ?_)
        refine lv_goto (tgt := 11) hx hb d_Vol_hasCopy_35 (by decide) ?_
        exact ih (k + 1) _ _ _ (by omega) ⟨by omega, fun j hj => by rcases (show j < k ∨ j = k by omega) with q | rfl; exact hno j q; exact c26, lv_sub hl [0, 1, 2] rfl, hP, hD, hS⟩
      · refine lv_iconst (v := 1) hx hb d_Vol_hasCopy_30 (by decide) ?_
        exact kf_zr hx hb hr hlocks hP hD hS (kP_t (Or.inr (ky_few_in hk9 c26))) (kP_nar) d_Vol_hasCopy_31
    · refine lv_iload_n hx hb d_Vol_hasCopy_11 rfl (lv_at hl 0 rfl) ?_
      obtain ⟨tF, htFZ, htFT⟩ := hE.2.2 kf_zF (by simp [kf_zs])
      refine va_getsN hx hb htFZ hS hown (va_Nw.use rfl (hE.2.1 _ q1_180)) (fun _ h9 => h9) d_Vol_hasCopy_12 ?_
      refine va_tlen hx hb htFT hS (v := 9) (by decide) d_Vol_hasCopy_15 ?_
      refine lv_icmp_ge (tgt := 38) hx hb d_Vol_hasCopy_16 (by decide) (fun c16 => ?_) (fun c16 => absurd (nI_le (a := 9) (b := k) hk9 (by omega)) c16)
      refine lv_iconst (v := 0) hx hb d_Vol_hasCopy_38 (by decide) ?_
      exact kf_zr hx hb hr hlocks hP hD hS (kP_f (fun q => q.elim c4 (ky_few_all (fun j hj => hno j (by omega))))) (kP_nar) d_Vol_hasCopy_39
  · refine lv_iconst (v := 1) hx hb d_Vol_hasCopy_7 (by decide) ?_
    exact kf_zr hx hb hr hlocks hP hD hS (kP_t (Or.inl c4)) (kP_nar) d_Vol_hasCopy_8

set_option maxRecDepth 100000 in
set_option maxHeartbeats 4000000 in
theorem c_Vol_blocksOfCopy (l : Launch) (D : va_G) (cB cI : ClassId) (hz : Nat) (h0 : Nat) (fi : Int64) (bl : Int64) (fs : Int64) (sh : Int64) (zz : Int64) (gb : Int64) (gf : Int64) (rb : Int64) (fc : Int32) (gc : Int64) (cb : Int64) (rk : Int64) (g : Int64) : kf_Ct l y_Vol_blocksOfCopy w_Vol_blocksOfCopy 1 23 0 0 D (kT cB cI) [.ref h0, .long g] [(h0, .inr (1, [.long fi, .long bl, .long fs, .long sh, .long zz, .long gb, .long gf, .long rb, .int fc, .long gc, .long cb, .long rk]))] hz (some (.long (ky_bc fc cb g))) (kf_po D [(h0, .inr (1, [.long fi, .long bl, .long fs, .long sh, .long zz, .long gb, .long gf, .long rb, .int fc, .long gc, .long cb, .long rk]))]) := by
  refine kf_of (cc := b_Vol_blocksOfCopy) (maxL := 3) (ret := (some .long)) (by decide) rfl (Nat.le_of_ble_eq_true rfl) ?_
  intro p e s m below meth c A H locs hx hb hr hml hown hts hlocks hin hP hD hS hA hE ls hl
  have hl : lv_has ls 3 [(0, .ref h0), (1, .long g)] := hl
  refine lv_aload_n hx hb d_Vol_blocksOfCopy_0 rfl (lv_at hl 0 rfl) ?_
  refine lv_lload_n hx hb d_Vol_blocksOfCopy_1 rfl (lv_at hl 1 rfl) ?_
  refine kf_ro hP hD hS hA [0] rfl (va_runV (As := [.long g]) (rest := []) ⟨hx, hb, hml, hown, hts⟩ (c_Vol_hasCopy l D cB cI _ h0 fi bl fs sh zz gb gf rb fc gc cb rk g) ⟨callB_of 1 hts g_Vol_hasCopy rfl rfl rfl (hts _ q1_3) (hts _ q1_176) h_Vol_hasCopy ⟨Nat.le_of_ble_eq_true rfl, Nat.le_of_ble_eq_true rfl⟩, (hts _ q1_177), (hts _ q1_178)⟩ ⟨kf_bl, va_recv hE.1 hP (ci := 1) (q0 := 0) rfl rfl, kf_to hP hD hS hA hE [0] rfl rfl⟩ rfl rfl hl.1 rfl (lv_room (Nat.le_of_ble_eq_true rfl)) d_Vol_blocksOfCopy_2 ⟨Nat.zero_le _, Nat.zero_le _⟩) (fun H locs hP hS => ?_)
  refine W.eq (g2 := F0 m 5 ls [.int (kP (ky_hcP fc g))]) rfl ?_
  refine lv_if_eq (tgt := 15) hx hb d_Vol_blocksOfCopy_5 (by decide) (fun c5 => ?_) (fun c5 => ?_)
  · refine lv_lconst (v := 0) hx hb d_Vol_blocksOfCopy_15 (by decide) ?_
    exact kf_lr hx hb hr hlocks hP hD hS (by unfold ky_bc; rw [if_neg (kP_eq c5)]) d_Vol_blocksOfCopy_16
  · refine lv_aload_n hx hb d_Vol_blocksOfCopy_8 rfl (lv_at hl 0 rfl) ?_
    refine va_get (D := D) (ci := 1) (v := .long cb) (C := "FieldRows$Volume") (T := F_Vol) (N := 12) hx hb hts ku_Vol hown hE.1 hP 0 rfl rfl 10 (by decide) (hts _ q1_46) (fun _ h9 => h9) rfl d_Vol_blocksOfCopy_9 ?_
    refine lv_goto (tgt := 16) hx hb d_Vol_blocksOfCopy_12 (by decide) ?_
    exact kf_lr hx hb hr hlocks hP hD hS (by unfold ky_bc; rw [if_pos (kP_ne c5)]) d_Vol_blocksOfCopy_16

set_option maxRecDepth 100000 in
set_option maxHeartbeats 4000000 in
theorem c_Vol_blockBitmap (l : Launch) (D : va_G) (cB cI : ClassId) (hz : Nat) (h0 : Nat) (fi : Int64) (bl : Int64) (fs : Int64) (sh : Int64) (zz : Int64) (gb : Int64) (gf : Int64) (rb : Int64) (fc : Int32) (gc : Int64) (cb : Int64) (rk : Int64) (g : Int64) : kf_Ct l y_Vol_blockBitmap w_Vol_blockBitmap 2 45 0 0 D (kT cB cI) [.ref h0, .long g] [(h0, .inr (1, [.long fi, .long bl, .long fs, .long sh, .long zz, .long gb, .long gf, .long rb, .int fc, .long gc, .long cb, .long rk]))] hz (some (.long (fs + g * gb + ky_bc fc cb g))) (kf_po D [(h0, .inr (1, [.long fi, .long bl, .long fs, .long sh, .long zz, .long gb, .long gf, .long rb, .int fc, .long gc, .long cb, .long rk]))]) := by
  refine kf_of (cc := b_Vol_blockBitmap) (maxL := 3) (ret := (some .long)) (by decide) rfl (Nat.le_of_ble_eq_true rfl) ?_
  intro p e s m below meth c A H locs hx hb hr hml hown hts hlocks hin hP hD hS hA hE ls hl
  have hl : lv_has ls 3 [(0, .ref h0), (1, .long g)] := hl
  refine lv_aload_n hx hb d_Vol_blockBitmap_0 rfl (lv_at hl 0 rfl) ?_
  refine lv_lload_n hx hb d_Vol_blockBitmap_1 rfl (lv_at hl 1 rfl) ?_
  refine kf_ro hP hD hS hA [0] rfl (va_runV (As := [.long g]) (rest := []) ⟨hx, hb, hml, hown, hts⟩ (c_Vol_groupStart l D cB cI _ h0 fi bl fs sh zz gb gf rb fc gc cb rk g) ⟨callB_of 1 hts g_Vol_groupStart rfl rfl rfl (hts _ q1_3) (hts _ q1_161) h_Vol_groupStart ⟨Nat.le_of_ble_eq_true rfl, Nat.le_of_ble_eq_true rfl⟩, (hts _ q1_162), (hts _ q1_163)⟩ ⟨kf_bl, va_recv hE.1 hP (ci := 1) (q0 := 0) rfl rfl, kf_to hP hD hS hA hE [0] rfl rfl⟩ rfl rfl hl.1 rfl (lv_room (Nat.le_of_ble_eq_true rfl)) d_Vol_blockBitmap_2 ⟨Nat.zero_le _, Nat.zero_le _⟩) (fun H locs hP hS => ?_)
  refine W.eq (g2 := F0 m 5 ls [.long (fs + g * gb)]) rfl ?_
  refine lv_aload_n hx hb d_Vol_blockBitmap_5 rfl (lv_at hl 0 rfl) ?_
  refine lv_lload_n hx hb d_Vol_blockBitmap_6 rfl (lv_at hl 1 rfl) ?_
  refine kf_ro hP hD hS hA [0] rfl (va_runV (As := [.long g]) (rest := [.long (fs + g * gb)]) ⟨hx, hb, hml, hown, hts⟩ (c_Vol_blocksOfCopy l D cB cI _ h0 fi bl fs sh zz gb gf rb fc gc cb rk g) ⟨callB_of 1 hts g_Vol_blocksOfCopy rfl rfl rfl (hts _ q1_3) (hts _ q1_172) h_Vol_blocksOfCopy ⟨Nat.le_of_ble_eq_true rfl, Nat.le_of_ble_eq_true rfl⟩, (hts _ q1_173), (hts _ q1_174)⟩ ⟨kf_bl, va_recv hE.1 hP (ci := 1) (q0 := 0) rfl rfl, kf_to hP hD hS hA hE [0] rfl rfl⟩ rfl rfl hl.1 rfl (lv_room (Nat.le_of_ble_eq_true rfl)) d_Vol_blockBitmap_7 ⟨Nat.zero_le _, Nat.zero_le _⟩) (fun H locs hP hS => ?_)
  refine W.eq (g2 := F0 m 10 ls [.long (ky_bc fc cb g), .long (fs + g * gb)]) rfl ?_
  refine lv_ladd hx hb d_Vol_blockBitmap_10 ?_
  exact kf_lr hx hb hr hlocks hP hD hS (rfl) d_Vol_blockBitmap_11

set_option maxRecDepth 100000 in
set_option maxHeartbeats 4000000 in
theorem c_Vol_fileBitmap (l : Launch) (D : va_G) (cB cI : ClassId) (hz : Nat) (h0 : Nat) (fi : Int64) (bl : Int64) (fs : Int64) (sh : Int64) (zz : Int64) (gb : Int64) (gf : Int64) (rb : Int64) (fc : Int32) (gc : Int64) (cb : Int64) (rk : Int64) (g : Int64) : kf_Ct l y_Vol_fileBitmap w_Vol_fileBitmap 3 67 0 0 D (kT cB cI) [.ref h0, .long g] [(h0, .inr (1, [.long fi, .long bl, .long fs, .long sh, .long zz, .long gb, .long gf, .long rb, .int fc, .long gc, .long cb, .long rk]))] hz (some (.long (fs + g * gb + ky_bc fc cb g + 1))) (kf_po D [(h0, .inr (1, [.long fi, .long bl, .long fs, .long sh, .long zz, .long gb, .long gf, .long rb, .int fc, .long gc, .long cb, .long rk]))]) := by
  refine kf_of (cc := b_Vol_fileBitmap) (maxL := 3) (ret := (some .long)) (by decide) rfl (Nat.le_of_ble_eq_true rfl) ?_
  intro p e s m below meth c A H locs hx hb hr hml hown hts hlocks hin hP hD hS hA hE ls hl
  have hl : lv_has ls 3 [(0, .ref h0), (1, .long g)] := hl
  refine lv_aload_n hx hb d_Vol_fileBitmap_0 rfl (lv_at hl 0 rfl) ?_
  refine lv_lload_n hx hb d_Vol_fileBitmap_1 rfl (lv_at hl 1 rfl) ?_
  refine kf_ro hP hD hS hA [0] rfl (va_runV (As := [.long g]) (rest := []) ⟨hx, hb, hml, hown, hts⟩ (c_Vol_blockBitmap l D cB cI _ h0 fi bl fs sh zz gb gf rb fc gc cb rk g) ⟨callB_of 1 hts g_Vol_blockBitmap rfl rfl rfl (hts _ q1_3) (hts _ q2_41) h_Vol_blockBitmap ⟨Nat.le_of_ble_eq_true rfl, Nat.le_of_ble_eq_true rfl⟩, (hts _ q2_34), (hts _ q2_35)⟩ ⟨kf_bl, va_recv hE.1 hP (ci := 1) (q0 := 0) rfl rfl, kf_to hP hD hS hA hE [0] rfl rfl⟩ rfl rfl hl.1 rfl (lv_room (Nat.le_of_ble_eq_true rfl)) d_Vol_fileBitmap_2 ⟨Nat.zero_le _, Nat.zero_le _⟩) (fun H locs hP hS => ?_)
  refine W.eq (g2 := F0 m 5 ls [.long (fs + g * gb + ky_bc fc cb g)]) rfl ?_
  refine lv_lconst (v := 1) hx hb d_Vol_fileBitmap_5 (by decide) ?_
  refine lv_ladd hx hb d_Vol_fileBitmap_6 ?_
  exact kf_lr hx hb hr hlocks hP hD hS (rfl) d_Vol_fileBitmap_7

set_option maxRecDepth 100000 in
set_option maxHeartbeats 4000000 in
theorem c_Vol_recordStart (l : Launch) (D : va_G) (cB cI : ClassId) (hz : Nat) (h0 : Nat) (fi : Int64) (bl : Int64) (fs : Int64) (sh : Int64) (zz : Int64) (gb : Int64) (gf : Int64) (rb : Int64) (fc : Int32) (gc : Int64) (cb : Int64) (rk : Int64) (g : Int64) : kf_Ct l y_Vol_recordStart w_Vol_recordStart 4 89 0 0 D (kT cB cI) [.ref h0, .long g] [(h0, .inr (1, [.long fi, .long bl, .long fs, .long sh, .long zz, .long gb, .long gf, .long rb, .int fc, .long gc, .long cb, .long rk]))] hz (some (.long (fs + g * gb + ky_bc fc cb g + 1 + 1))) (kf_po D [(h0, .inr (1, [.long fi, .long bl, .long fs, .long sh, .long zz, .long gb, .long gf, .long rb, .int fc, .long gc, .long cb, .long rk]))]) := by
  refine kf_of (cc := b_Vol_recordStart) (maxL := 3) (ret := (some .long)) (by decide) rfl (Nat.le_of_ble_eq_true rfl) ?_
  intro p e s m below meth c A H locs hx hb hr hml hown hts hlocks hin hP hD hS hA hE ls hl
  have hl : lv_has ls 3 [(0, .ref h0), (1, .long g)] := hl
  refine lv_aload_n hx hb d_Vol_recordStart_0 rfl (lv_at hl 0 rfl) ?_
  refine lv_lload_n hx hb d_Vol_recordStart_1 rfl (lv_at hl 1 rfl) ?_
  refine kf_ro hP hD hS hA [0] rfl (va_runV (As := [.long g]) (rest := []) ⟨hx, hb, hml, hown, hts⟩ (c_Vol_fileBitmap l D cB cI _ h0 fi bl fs sh zz gb gf rb fc gc cb rk g) ⟨callB_of 1 hts g_Vol_fileBitmap rfl rfl rfl (hts _ q1_3) (hts _ q2_46) h_Vol_fileBitmap ⟨Nat.le_of_ble_eq_true rfl, Nat.le_of_ble_eq_true rfl⟩, (hts _ q2_38), (hts _ q2_39)⟩ ⟨kf_bl, va_recv hE.1 hP (ci := 1) (q0 := 0) rfl rfl, kf_to hP hD hS hA hE [0] rfl rfl⟩ rfl rfl hl.1 rfl (lv_room (Nat.le_of_ble_eq_true rfl)) d_Vol_recordStart_2 ⟨Nat.zero_le _, Nat.zero_le _⟩) (fun H locs hP hS => ?_)
  refine W.eq (g2 := F0 m 5 ls [.long (fs + g * gb + ky_bc fc cb g + 1)]) rfl ?_
  refine lv_lconst (v := 1) hx hb d_Vol_recordStart_5 (by decide) ?_
  refine lv_ladd hx hb d_Vol_recordStart_6 ?_
  exact kf_lr hx hb hr hlocks hP hD hS (rfl) d_Vol_recordStart_7

set_option maxRecDepth 100000 in
set_option maxHeartbeats 4000000 in
theorem c_Vol_fixedBlocks (l : Launch) (D : va_G) (cB cI : ClassId) (hz : Nat) (h0 : Nat) (fi : Int64) (bl : Int64) (fs : Int64) (sh : Int64) (zz : Int64) (gb : Int64) (gf : Int64) (rb : Int64) (fc : Int32) (gc : Int64) (cb : Int64) (rk : Int64) (g : Int64) : kf_Ct l y_Vol_fixedBlocks w_Vol_fixedBlocks 2 45 0 0 D (kT cB cI) [.ref h0, .long g] [(h0, .inr (1, [.long fi, .long bl, .long fs, .long sh, .long zz, .long gb, .long gf, .long rb, .int fc, .long gc, .long cb, .long rk]))] hz (some (.long (ky_bc fc cb g + 2 + rk))) (kf_po D [(h0, .inr (1, [.long fi, .long bl, .long fs, .long sh, .long zz, .long gb, .long gf, .long rb, .int fc, .long gc, .long cb, .long rk]))]) := by
  refine kf_of (cc := b_Vol_fixedBlocks) (maxL := 3) (ret := (some .long)) (by decide) rfl (Nat.le_of_ble_eq_true rfl) ?_
  intro p e s m below meth c A H locs hx hb hr hml hown hts hlocks hin hP hD hS hA hE ls hl
  have hl : lv_has ls 3 [(0, .ref h0), (1, .long g)] := hl
  refine lv_aload_n hx hb d_Vol_fixedBlocks_0 rfl (lv_at hl 0 rfl) ?_
  refine lv_lload_n hx hb d_Vol_fixedBlocks_1 rfl (lv_at hl 1 rfl) ?_
  refine kf_ro hP hD hS hA [0] rfl (va_runV (As := [.long g]) (rest := []) ⟨hx, hb, hml, hown, hts⟩ (c_Vol_blocksOfCopy l D cB cI _ h0 fi bl fs sh zz gb gf rb fc gc cb rk g) ⟨callB_of 1 hts g_Vol_blocksOfCopy rfl rfl rfl (hts _ q1_3) (hts _ q1_172) h_Vol_blocksOfCopy ⟨Nat.le_of_ble_eq_true rfl, Nat.le_of_ble_eq_true rfl⟩, (hts _ q1_173), (hts _ q1_174)⟩ ⟨kf_bl, va_recv hE.1 hP (ci := 1) (q0 := 0) rfl rfl, kf_to hP hD hS hA hE [0] rfl rfl⟩ rfl rfl hl.1 rfl (lv_room (Nat.le_of_ble_eq_true rfl)) d_Vol_fixedBlocks_2 ⟨Nat.zero_le _, Nat.zero_le _⟩) (fun H locs hP hS => ?_)
  refine W.eq (g2 := F0 m 5 ls [.long (ky_bc fc cb g)]) rfl ?_
  refine lv_ldc2 (v := 2) hx hb hown (hts _ q1_132) d_Vol_fixedBlocks_5 ?_
  refine lv_ladd hx hb d_Vol_fixedBlocks_8 ?_
  refine lv_aload_n hx hb d_Vol_fixedBlocks_9 rfl (lv_at hl 0 rfl) ?_
  refine va_get (D := D) (ci := 1) (v := .long rk) (C := "FieldRows$Volume") (T := F_Vol) (N := 12) hx hb hts ku_Vol hown hE.1 hP 0 rfl rfl 11 (by decide) (hts _ q1_47) (fun _ h9 => h9) rfl d_Vol_fixedBlocks_10 ?_
  refine lv_ladd hx hb d_Vol_fixedBlocks_13 ?_
  exact kf_lr hx hb hr hlocks hP hD hS (rfl) d_Vol_fixedBlocks_14
