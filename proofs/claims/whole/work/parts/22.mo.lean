theorem kP_iff {P Q : Prop} [Decidable P] [Decidable Q] (h : P ↔ Q) : kP P = kP Q := by
  by_cases q : P
  · rw [← kP_t q, ← kP_t (h.mp q)]
  · rw [← kP_f q, ← kP_f (fun z => q (h.mpr z))]
theorem km_own64 {gc : Int64} {n : Nat} (h : gc ≤ 64) (h2 : ¬ gc ≤ lN n) (hn : n < 2 ^ 31) : n < 64 := by
  have h3 := kv_64 h
  have h4 : ¬ gc.toInt.toNat ≤ n := fun q => h2 ((kv_le hn).mpr q)
  omega
theorem km_le2 (f : Nat → Int32) (a : Nat) : ky_le f a 2 < 2 ^ 31 := Nat.lt_trans (ky_le_lt f 2 a) (by decide)
abbrev km_mdP (i : Int32) : Prop := km_inP i.toInt64 12 19 ∨ km_inP i.toInt64 44 53 ∨ km_inP i.toInt64 58 59 ∨ km_inP i.toInt64 90 91 ∨ km_inP i.toInt64 232 235
set_option maxRecDepth 100000 in
set_option maxHeartbeats 4000000 in
theorem c_Mo_areBlocksRight (l : Launch) (D : va_G) (cB cI : ClassId) (hz : Nat) (h1 : Nat) (f : Nat → Int32) (hf : km_ok f) (h32 : 1 ≤ lN (ky_le f 32 4)) (hsz : 1 ≤ kv_size f) : kf_Ct l y_Mo_areBlocksRight w_Mo_areBlocksRight 5 113 0 0 D (kT cB cI) [.ref h1] [(h1, .inl (cI, 1024, .inl f))] hz (some (.int (kP (km_rmP f)))) (kf_po D [(h1, .inl (cI, 1024, .inl f))]) := by
  refine kf_of (cc := b_Mo_areBlocksRight) (maxL := 6) (ret := (some .boolean)) (by decide) rfl (Nat.le_of_ble_eq_true rfl) ?_
  intro p e s m below meth c A H locs hx hb hr hml hown hts hlocks hin hP hD hS hA hE ls hl
  have hl : lv_has ls 6 [(0, .ref h1)] := hl
  refine lv_aload_n hx hb d_Mo_areBlocksRight_0 rfl (lv_at hl 0 rfl) ?_
  refine lv_iconst (v := 4) hx hb d_Mo_areBlocksRight_1 (by decide) ?_
  refine lv_iconst (v := 4) hx hb d_Mo_areBlocksRight_2 (by decide) ?_
  refine kf_ro hP hD hS hA [0] rfl (va_runS (As := [.ref h1, .int 4, .int 4]) (rest := []) ⟨hx, hb, hml, hown, hts⟩ (c_Mo_field l D cB cI _ h1 f hf 4 4 (by decide)) ⟨callB_of 3 hts g_Mo_field rfl rfl rfl (hts _ q1_5) (hts _ q2_76) h_Mo_field ⟨Nat.le_of_ble_eq_true rfl, Nat.le_of_ble_eq_true rfl⟩, (hts _ q2_77)⟩ ⟨kf_bl, kf_to hP hD hS hA hE [0] rfl rfl⟩ rfl rfl hl.1 rfl (lv_room (Nat.le_of_ble_eq_true rfl)) d_Mo_areBlocksRight_3 ⟨Nat.zero_le _, Nat.zero_le _⟩) (fun H locs hP hS => ?_)
  refine W.eq (g2 := F0 m 6 ls [.long (lN (ky_le f 4 4))]) rfl ?_
  refine lv_lstore_n (lv' := [(1, .long (lN (ky_le f 4 4))), (0, .ref h1)]) hx hb d_Mo_areBlocksRight_6 rfl hl (by decide) rfl (fun ls hl => ?_)
  refine lv_lload_n hx hb d_Mo_areBlocksRight_7 rfl (lv_at hl 0 rfl) ?_
  refine lv_aload_n hx hb d_Mo_areBlocksRight_8 rfl (lv_at hl 1 rfl) ?_
  refine lv_bipush (v := 20) hx hb d_Mo_areBlocksRight_9 (by decide) ?_
  refine lv_iconst (v := 4) hx hb d_Mo_areBlocksRight_11 (by decide) ?_
  refine kf_ro hP hD hS hA [0] rfl (va_runS (As := [.ref h1, .int 20, .int 4]) (rest := [.long (lN (ky_le f 4 4))]) ⟨hx, hb, hml, hown, hts⟩ (c_Mo_field l D cB cI _ h1 f hf 20 4 (by decide)) ⟨callB_of 3 hts g_Mo_field rfl rfl rfl (hts _ q1_5) (hts _ q2_76) h_Mo_field ⟨Nat.le_of_ble_eq_true rfl, Nat.le_of_ble_eq_true rfl⟩, (hts _ q2_77)⟩ ⟨kf_bl, kf_to hP hD hS hA hE [0] rfl rfl⟩ rfl rfl hl.1 rfl (lv_room (Nat.le_of_ble_eq_true rfl)) d_Mo_areBlocksRight_12 ⟨Nat.zero_le _, Nat.zero_le _⟩) (fun H locs hP hS => ?_)
  refine W.eq (g2 := F0 m 15 ls [.long (lN (ky_le f 20 4)), .long (lN (ky_le f 4 4))]) rfl ?_
  refine kf_lc_le (tgt := 38) hx hb d_Mo_areBlocksRight_15 d_Mo_areBlocksRight_16 (by decide) (fun c15 => ?_) (fun c15 => ?_)
  · refine lv_iconst (v := 0) hx hb d_Mo_areBlocksRight_38 (by decide) ?_
    exact kf_zr hx hb hr hlocks hP hD hS (kP_f (by clear hP hD hS hA hE hts hl; grind)) (kP_nar) d_Mo_areBlocksRight_39
  · refine lv_lload_n hx hb d_Mo_areBlocksRight_19 rfl (lv_at hl 0 rfl) ?_
    refine lv_ldc2 (v := 16777216) hx hb hown (hts _ q2_107) d_Mo_areBlocksRight_20 ?_
    refine kf_lc_gt (tgt := 38) hx hb d_Mo_areBlocksRight_23 d_Mo_areBlocksRight_24 (by decide) (fun c23 => ?_) (fun c23 => ?_)
    · refine lv_iconst (v := 0) hx hb d_Mo_areBlocksRight_38 (by decide) ?_
      exact kf_zr hx hb hr hlocks hP hD hS (kP_f (by clear hP hD hS hA hE hts hl; grind)) (kP_nar) d_Mo_areBlocksRight_39
    · refine lv_aload_n hx hb d_Mo_areBlocksRight_27 rfl (lv_at hl 1 rfl) ?_
      refine kf_ro hP hD hS hA [0] rfl (va_runS (As := [.ref h1]) (rest := []) ⟨hx, hb, hml, hown, hts⟩ (c_Mo_groupsOf l D cB cI _ h1 f hf  h32) ⟨callB_of 1 hts g_Mo_groupsOf rfl rfl rfl (hts _ q1_5) (hts _ q2_73) h_Mo_groupsOf ⟨Nat.le_of_ble_eq_true rfl, Nat.le_of_ble_eq_true rfl⟩, (hts _ q2_74)⟩ ⟨kf_bl, kf_to hP hD hS hA hE [0] rfl rfl⟩ rfl rfl hl.1 rfl (lv_room (Nat.le_of_ble_eq_true rfl)) d_Mo_areBlocksRight_28 ⟨Nat.zero_le _, Nat.zero_le _⟩) (fun H locs hP hS => ?_)
      refine W.eq (g2 := F0 m 31 ls [.long (kv_gc f)]) rfl ?_
      refine lv_ldc2 (v := 64) hx hb hown (hts _ q2_94) d_Mo_areBlocksRight_31 ?_
      refine kf_lc_le (tgt := 40) hx hb d_Mo_areBlocksRight_34 d_Mo_areBlocksRight_35 (by decide) (fun c34 => ?_) (fun c34 => ?_)
      · refine lv_iconst (v := 1) hx hb d_Mo_areBlocksRight_40 (by decide) ?_
        obtain ⟨k0, hk0⟩ : ∃ k0 : Nat, k0 = 0 := ⟨0, rfl⟩
        refine kf_ti (y := kP (∀ j, j < k0 → km_fxP f j)) (kP_t (fun j hj => absurd hj (by omega))) ?_
        refine lv_istore_n (lv' := [(3, .int (kP (∀ j, j < k0 → km_fxP f j))), (1, .long (lN (ky_le f 4 4))), (0, .ref h1)]) hx hb d_Mo_areBlocksRight_41 rfl hl (by decide) rfl (fun ls hl => ?_)
        refine lv_lconst (v := 0) hx hb d_Mo_areBlocksRight_42 (by decide) ?_
        refine kf_tl (y := lN k0) (by rw [hk0]; rfl) ?_
        refine lv_lstore (lv' := [(4, .long (lN k0)), (3, .int (kP (∀ j, j < k0 → km_fxP f j))), (1, .long (lN (ky_le f 4 4))), (0, .ref h1)]) hx hb d_Mo_areBlocksRight_43 hl (by decide) rfl (fun ls hl => ?_)
        have h64 := kv_64 c34
        refine kf_loop (σ := Nat) (fun k ls H locs => (k ≤ 64) ∧ (k ≤ (kv_gc f).toInt.toNat) ∧ lv_has ls 6 [(4, .long (lN k)), (3, .int (kP (∀ j, j < k → km_fxP f j))), (0, .ref h1)] ∧ va_P D vwCl [(h1, .inl (cI, 1024, .inl f))] H ∧ va_D A [(h1, .inl (cI, 1024, .inl f))] ∧ va_S A s.heap H locs) (fun k => 64 - k) k0 ⟨by omega, by omega, lv_sub hl [0, 1, 3] rfl, hP, hD, hS⟩ (fun k ls H locs hI ih => ?_)
        obtain ⟨hk, hkg, hl, hP, hD, hS⟩ := hI
        refine lv_lload hx hb d_Mo_areBlocksRight_45 (lv_at hl 0 rfl) ?_
        refine lv_aload_n hx hb d_Mo_areBlocksRight_47 rfl (lv_at hl 2 rfl) ?_
        refine kf_ro hP hD hS hA [0] rfl (va_runS (As := [.ref h1]) (rest := [.long (lN k)]) ⟨hx, hb, hml, hown, hts⟩ (c_Mo_groupsOf l D cB cI _ h1 f hf  h32) ⟨callB_of 1 hts g_Mo_groupsOf rfl rfl rfl (hts _ q1_5) (hts _ q2_73) h_Mo_groupsOf ⟨Nat.le_of_ble_eq_true rfl, Nat.le_of_ble_eq_true rfl⟩, (hts _ q2_74)⟩ ⟨kf_bl, kf_to hP hD hS hA hE [0] rfl rfl⟩ rfl rfl hl.1 rfl (lv_room (Nat.le_of_ble_eq_true rfl)) d_Mo_areBlocksRight_48 ⟨Nat.zero_le _, Nat.zero_le _⟩) (fun H locs hP hS => ?_)
        refine W.eq (g2 := F0 m 51 ls [.long (kv_gc f), .long (lN k)]) rfl ?_
        refine kf_lc_ge (tgt := 90) hx hb d_Mo_areBlocksRight_51 d_Mo_areBlocksRight_52 (by decide) (fun c51 => ?_) (fun c51 => ?_)
        · refine lv_iload_n hx hb d_Mo_areBlocksRight_90 rfl (lv_at hl 1 rfl) ?_
          exact kf_zr hx hb hr hlocks hP hD hS (kP_iff ⟨fun z => ⟨c15, c23, c34, fun j hj => z j (Nat.lt_of_lt_of_le hj ((kv_le (by omega)).mp c51))⟩, fun z j hj => z.2.2.2 j (by omega)⟩) (kP_nar) d_Mo_areBlocksRight_91
        · have hkn : k < (kv_gc f).toInt.toNat := Nat.lt_of_not_le (fun q => c51 ((kv_le (by omega)).mpr q))
          have hk64 : k < 64 := by omega
          refine lv_iload_n hx hb d_Mo_areBlocksRight_55 rfl (lv_at hl 1 rfl) ?_
          refine lv_if_eq (tgt := 79) hx hb d_Mo_areBlocksRight_56 (by decide) (fun c56 => ?_) (fun c56 => ?_)
          · refine lv_iconst (v := 0) hx hb d_Mo_areBlocksRight_79 (by decide) ?_
            refine kf_ti (y := kP (∀ j, j < k + 1 → km_fxP f j)) (kP_f (fun z => kP_eq c56 (fun j hj => z j (by omega)))) ?_
            refine lv_istore_n (lv' := [(3, .int (kP (∀ j, j < k + 1 → km_fxP f j))), (4, .long (lN k)), (0, .ref h1)]) hx hb d_Mo_areBlocksRight_80 rfl hl (by decide) rfl (fun ls hl => ?_)
            refine lv_lload hx hb d_Mo_areBlocksRight_81 (lv_at hl 1 rfl) ?_
            refine lv_lconst (v := 1) hx hb d_Mo_areBlocksRight_83 (by decide) ?_
            refine lv_ladd hx hb d_Mo_areBlocksRight_84 ?_
            refine kf_tl (y := lN (k + 1)) (lN_1 k) ?_
            refine lv_lstore (lv' := [(4, .long (lN (k + 1))), (3, .int (kP (∀ j, j < k + 1 → km_fxP f j))), (0, .ref h1)]) hx hb d_Mo_areBlocksRight_85 hl (by decide) rfl (fun ls hl => ?_)
            refine lv_goto (tgt := 45) hx hb d_Mo_areBlocksRight_87 (by decide) ?_
            exact ih (k + 1) _ _ _ (by omega) ⟨by omega, by omega, lv_sub hl [0, 1, 2] rfl, hP, hD, hS⟩
          · refine lv_aload_n hx hb d_Mo_areBlocksRight_59 rfl (lv_at hl 2 rfl) ?_
            refine lv_lload hx hb d_Mo_areBlocksRight_60 (lv_at hl 0 rfl) ?_
            refine kf_ro hP hD hS hA [0] rfl (va_runS (As := [.ref h1, .long (lN k)]) (rest := []) ⟨hx, hb, hml, hown, hts⟩ (c_Mo_blocksOf l D cB cI _ h1 f hf (lN k) ) ⟨callB_of 2 hts g_Mo_blocksOf rfl rfl rfl (hts _ q1_5) (hts _ q2_108) h_Mo_blocksOf ⟨Nat.le_of_ble_eq_true rfl, Nat.le_of_ble_eq_true rfl⟩, (hts _ q2_109)⟩ ⟨kf_bl, kf_to hP hD hS hA hE [0] rfl rfl⟩ rfl rfl hl.1 rfl (lv_room (Nat.le_of_ble_eq_true rfl)) d_Mo_areBlocksRight_62 ⟨Nat.zero_le _, Nat.zero_le _⟩) (fun H locs hP hS => ?_)
            refine W.eq (g2 := F0 m 65 ls [.long (ky_min (lN (ky_le f 32 4)) (lN (ky_le f 4 4) - (lN (ky_le f 20 4) + (lN k) * lN (ky_le f 32 4))))]) rfl ?_
            refine lv_aload_n hx hb d_Mo_areBlocksRight_65 rfl (lv_at hl 2 rfl) ?_
            refine lv_lload hx hb d_Mo_areBlocksRight_66 (lv_at hl 0 rfl) ?_
            refine kf_ro hP hD hS hA [0] rfl (va_runS (As := [.ref h1, .long (lN k)]) (rest := [.long (ky_min (lN (ky_le f 32 4)) (lN (ky_le f 4 4) - (lN (ky_le f 20 4) + (lN k) * lN (ky_le f 32 4))))]) ⟨hx, hb, hml, hown, hts⟩ (c_Mo_fixedOf l D cB cI _ h1 f hf k hk64 h32 hsz) ⟨callB_of 2 hts g_Mo_fixedOf rfl rfl rfl (hts _ q1_5) (hts _ q2_114) h_Mo_fixedOf ⟨Nat.le_of_ble_eq_true rfl, Nat.le_of_ble_eq_true rfl⟩, (hts _ q2_115)⟩ ⟨kf_bl, kf_to hP hD hS hA hE [0] rfl rfl⟩ rfl rfl hl.1 rfl (lv_room (Nat.le_of_ble_eq_true rfl)) d_Mo_areBlocksRight_68 ⟨Nat.zero_le _, Nat.zero_le _⟩) (fun H locs hP hS => ?_)
            refine W.eq (g2 := F0 m 71 ls [.long (km_hd f k + 2 + kv_rk f), .long (ky_min (lN (ky_le f 32 4)) (lN (ky_le f 4 4) - (lN (ky_le f 20 4) + (lN k) * lN (ky_le f 32 4))))]) rfl ?_
            refine kf_lc_le (tgt := 79) hx hb d_Mo_areBlocksRight_71 d_Mo_areBlocksRight_72 (by decide) (fun c71 => ?_) (fun c71 => ?_)
            · refine lv_iconst (v := 0) hx hb d_Mo_areBlocksRight_79 (by decide) ?_
              refine kf_ti (y := kP (∀ j, j < k + 1 → km_fxP f j)) (kP_f (fun z => Int64.not_le.mpr (z k (by omega)) c71)) ?_
              refine lv_istore_n (lv' := [(3, .int (kP (∀ j, j < k + 1 → km_fxP f j))), (4, .long (lN k)), (0, .ref h1)]) hx hb d_Mo_areBlocksRight_80 rfl hl (by decide) rfl (fun ls hl => ?_)
              refine lv_lload hx hb d_Mo_areBlocksRight_81 (lv_at hl 1 rfl) ?_
              refine lv_lconst (v := 1) hx hb d_Mo_areBlocksRight_83 (by decide) ?_
              refine lv_ladd hx hb d_Mo_areBlocksRight_84 ?_
              refine kf_tl (y := lN (k + 1)) (lN_1 k) ?_
              refine lv_lstore (lv' := [(4, .long (lN (k + 1))), (3, .int (kP (∀ j, j < k + 1 → km_fxP f j))), (0, .ref h1)]) hx hb d_Mo_areBlocksRight_85 hl (by decide) rfl (fun ls hl => ?_)
              refine lv_goto (tgt := 45) hx hb d_Mo_areBlocksRight_87 (by decide) ?_
              exact ih (k + 1) _ _ _ (by omega) ⟨by omega, by omega, lv_sub hl [0, 1, 2] rfl, hP, hD, hS⟩
            · refine lv_iconst (v := 1) hx hb d_Mo_areBlocksRight_75 (by decide) ?_
              refine lv_goto (tgt := 80) hx hb d_Mo_areBlocksRight_76 (by decide) ?_
              refine kf_ti (y := kP (∀ j, j < k + 1 → km_fxP f j)) (kP_t (fun j hj => by rcases (show j < k ∨ j = k by omega) with z | rfl; exact kP_ne c56 j z; exact Int64.not_le.mp c71)) ?_
              refine lv_istore_n (lv' := [(3, .int (kP (∀ j, j < k + 1 → km_fxP f j))), (4, .long (lN k)), (0, .ref h1)]) hx hb d_Mo_areBlocksRight_80 rfl hl (by decide) rfl (fun ls hl => ?_)
              refine lv_lload hx hb d_Mo_areBlocksRight_81 (lv_at hl 1 rfl) ?_
              refine lv_lconst (v := 1) hx hb d_Mo_areBlocksRight_83 (by decide) ?_
              refine lv_ladd hx hb d_Mo_areBlocksRight_84 ?_
              refine kf_tl (y := lN (k + 1)) (lN_1 k) ?_
              refine lv_lstore (lv' := [(4, .long (lN (k + 1))), (3, .int (kP (∀ j, j < k + 1 → km_fxP f j))), (0, .ref h1)]) hx hb d_Mo_areBlocksRight_85 hl (by decide) rfl (fun ls hl => ?_)
              refine lv_goto (tgt := 45) hx hb d_Mo_areBlocksRight_87 (by decide) ?_
              exact ih (k + 1) _ _ _ (by omega) ⟨by omega, by omega, lv_sub hl [0, 1, 2] rfl, hP, hD, hS⟩
      · refine lv_iconst (v := 0) hx hb d_Mo_areBlocksRight_38 (by decide) ?_
        exact kf_zr hx hb hr hlocks hP hD hS (kP_f (by clear hP hD hS hA hE hts hl; grind)) (kP_nar) d_Mo_areBlocksRight_39

set_option maxRecDepth 100000 in
set_option maxHeartbeats 4000000 in
theorem c_Mo_faultOfCounts (l : Launch) (D : va_G) (cB cI : ClassId) (hz : Nat) (h1 : Nat) (f : Nat → Int32) (hf : km_ok f) (h32 : 1 ≤ lN (ky_le f 32 4)) (hsz : 1 ≤ kv_size f) : kf_Ct l y_Mo_faultOfCounts w_Mo_faultOfCounts 6 138 0 0 D (kT cB cI) [.ref h1] [(h1, .inl (cI, 1024, .inl f))] hz (some (.int (km_ct f))) (kf_po D [(h1, .inl (cI, 1024, .inl f))]) := by
  refine kf_of (cc := b_Mo_faultOfCounts) (maxL := 7) (ret := (some .int)) (by decide) rfl (Nat.le_of_ble_eq_true rfl) ?_
  intro p e s m below meth c A H locs hx hb hr hml hown hts hlocks hin hP hD hS hA hE ls hl
  have hl : lv_has ls 7 [(0, .ref h1)] := hl
  refine lv_aload_n hx hb d_Mo_faultOfCounts_0 rfl (lv_at hl 0 rfl) ?_
  refine kf_ro hP hD hS hA [0] rfl (va_runS (As := [.ref h1]) (rest := []) ⟨hx, hb, hml, hown, hts⟩ (c_Mo_areBlocksRight l D cB cI _ h1 f hf  h32 hsz) ⟨callB_of 1 hts g_Mo_areBlocksRight rfl rfl rfl (hts _ q1_5) (hts _ q2_104) h_Mo_areBlocksRight ⟨Nat.le_of_ble_eq_true rfl, Nat.le_of_ble_eq_true rfl⟩, (hts _ q2_105)⟩ ⟨kf_bl, kf_to hP hD hS hA hE [0] rfl rfl⟩ rfl rfl hl.1 rfl (lv_room (Nat.le_of_ble_eq_true rfl)) d_Mo_faultOfCounts_1 ⟨Nat.zero_le _, Nat.zero_le _⟩) (fun H locs hP hS => ?_)
  refine W.eq (g2 := F0 m 4 ls [.int (kP (km_rmP f))]) rfl ?_
  refine lv_if_ne (tgt := 9) hx hb d_Mo_faultOfCounts_4 (by decide) (fun c4 => ?_) (fun c4 => ?_)
  · have hR := kP_ne c4
    refine lv_aload_n hx hb d_Mo_faultOfCounts_9 rfl (lv_at hl 0 rfl) ?_
    refine lv_iconst (v := 4) hx hb d_Mo_faultOfCounts_10 (by decide) ?_
    refine lv_iconst (v := 4) hx hb d_Mo_faultOfCounts_11 (by decide) ?_
    refine kf_ro hP hD hS hA [0] rfl (va_runS (As := [.ref h1, .int 4, .int 4]) (rest := []) ⟨hx, hb, hml, hown, hts⟩ (c_Mo_field l D cB cI _ h1 f hf 4 4 (by decide)) ⟨callB_of 3 hts g_Mo_field rfl rfl rfl (hts _ q1_5) (hts _ q2_76) h_Mo_field ⟨Nat.le_of_ble_eq_true rfl, Nat.le_of_ble_eq_true rfl⟩, (hts _ q2_77)⟩ ⟨kf_bl, kf_to hP hD hS hA hE [0] rfl rfl⟩ rfl rfl hl.1 rfl (lv_room (Nat.le_of_ble_eq_true rfl)) d_Mo_faultOfCounts_12 ⟨Nat.zero_le _, Nat.zero_le _⟩) (fun H locs hP hS => ?_)
    refine W.eq (g2 := F0 m 15 ls [.long (lN (ky_le f 4 4))]) rfl ?_
    refine lv_lstore_n (lv' := [(1, .long (lN (ky_le f 4 4))), (0, .ref h1)]) hx hb d_Mo_faultOfCounts_15 rfl hl (by decide) rfl (fun ls hl => ?_)
    refine lv_aload_n hx hb d_Mo_faultOfCounts_16 rfl (lv_at hl 1 rfl) ?_
    refine lv_iconst (v := 0) hx hb d_Mo_faultOfCounts_17 (by decide) ?_
    refine lv_iconst (v := 4) hx hb d_Mo_faultOfCounts_18 (by decide) ?_
    refine kf_ro hP hD hS hA [0] rfl (va_runS (As := [.ref h1, .int 0, .int 4]) (rest := []) ⟨hx, hb, hml, hown, hts⟩ (c_Mo_field l D cB cI _ h1 f hf 0 4 (by decide)) ⟨callB_of 3 hts g_Mo_field rfl rfl rfl (hts _ q1_5) (hts _ q2_76) h_Mo_field ⟨Nat.le_of_ble_eq_true rfl, Nat.le_of_ble_eq_true rfl⟩, (hts _ q2_77)⟩ ⟨kf_bl, kf_to hP hD hS hA hE [0] rfl rfl⟩ rfl rfl hl.1 rfl (lv_room (Nat.le_of_ble_eq_true rfl)) d_Mo_faultOfCounts_19 ⟨Nat.zero_le _, Nat.zero_le _⟩) (fun H locs hP hS => ?_)
    refine W.eq (g2 := F0 m 22 ls [.long (lN (ky_le f 0 4))]) rfl ?_
    refine lv_lstore_n (lv' := [(3, .long (lN (ky_le f 0 4))), (1, .long (lN (ky_le f 4 4))), (0, .ref h1)]) hx hb d_Mo_faultOfCounts_22 rfl hl (by decide) rfl (fun ls hl => ?_)
    refine lv_lload_n hx hb d_Mo_faultOfCounts_23 rfl (lv_at hl 0 rfl) ?_
    refine lv_aload_n hx hb d_Mo_faultOfCounts_24 rfl (lv_at hl 2 rfl) ?_
    refine kf_ro hP hD hS hA [0] rfl (va_runS (As := [.ref h1]) (rest := [.long (lN (ky_le f 0 4))]) ⟨hx, hb, hml, hown, hts⟩ (c_Mo_groupsOf l D cB cI _ h1 f hf  h32) ⟨callB_of 1 hts g_Mo_groupsOf rfl rfl rfl (hts _ q1_5) (hts _ q2_73) h_Mo_groupsOf ⟨Nat.le_of_ble_eq_true rfl, Nat.le_of_ble_eq_true rfl⟩, (hts _ q2_74)⟩ ⟨kf_bl, kf_to hP hD hS hA hE [0] rfl rfl⟩ rfl rfl hl.1 rfl (lv_room (Nat.le_of_ble_eq_true rfl)) d_Mo_faultOfCounts_25 ⟨Nat.zero_le _, Nat.zero_le _⟩) (fun H locs hP hS => ?_)
    refine W.eq (g2 := F0 m 28 ls [.long (kv_gc f), .long (lN (ky_le f 0 4))]) rfl ?_
    refine lv_aload_n hx hb d_Mo_faultOfCounts_28 rfl (lv_at hl 2 rfl) ?_
    refine lv_bipush (v := 40) hx hb d_Mo_faultOfCounts_29 (by decide) ?_
    refine lv_iconst (v := 4) hx hb d_Mo_faultOfCounts_31 (by decide) ?_
    refine kf_ro hP hD hS hA [0] rfl (va_runS (As := [.ref h1, .int 40, .int 4]) (rest := [.long (kv_gc f), .long (lN (ky_le f 0 4))]) ⟨hx, hb, hml, hown, hts⟩ (c_Mo_field l D cB cI _ h1 f hf 40 4 (by decide)) ⟨callB_of 3 hts g_Mo_field rfl rfl rfl (hts _ q1_5) (hts _ q2_76) h_Mo_field ⟨Nat.le_of_ble_eq_true rfl, Nat.le_of_ble_eq_true rfl⟩, (hts _ q2_77)⟩ ⟨kf_bl, kf_to hP hD hS hA hE [0] rfl rfl⟩ rfl rfl hl.1 rfl (lv_room (Nat.le_of_ble_eq_true rfl)) d_Mo_faultOfCounts_32 ⟨Nat.zero_le _, Nat.zero_le _⟩) (fun H locs hP hS => ?_)
    refine W.eq (g2 := F0 m 35 ls [.long (lN (ky_le f 40 4)), .long (kv_gc f), .long (lN (ky_le f 0 4))]) rfl ?_
    refine lv_lmul hx hb d_Mo_faultOfCounts_35 ?_
    refine kf_lc_eq (tgt := 42) hx hb d_Mo_faultOfCounts_36 d_Mo_faultOfCounts_37 (by decide) (fun c36 => ?_) (fun c36 => ?_)
    · refine lv_aload_n hx hb d_Mo_faultOfCounts_42 rfl (lv_at hl 2 rfl) ?_
      refine lv_bipush (v := 8) hx hb d_Mo_faultOfCounts_43 (by decide) ?_
      refine lv_iconst (v := 4) hx hb d_Mo_faultOfCounts_45 (by decide) ?_
      refine kf_ro hP hD hS hA [0] rfl (va_runS (As := [.ref h1, .int 8, .int 4]) (rest := []) ⟨hx, hb, hml, hown, hts⟩ (c_Mo_field l D cB cI _ h1 f hf 8 4 (by decide)) ⟨callB_of 3 hts g_Mo_field rfl rfl rfl (hts _ q1_5) (hts _ q2_76) h_Mo_field ⟨Nat.le_of_ble_eq_true rfl, Nat.le_of_ble_eq_true rfl⟩, (hts _ q2_77)⟩ ⟨kf_bl, kf_to hP hD hS hA hE [0] rfl rfl⟩ rfl rfl hl.1 rfl (lv_room (Nat.le_of_ble_eq_true rfl)) d_Mo_faultOfCounts_46 ⟨Nat.zero_le _, Nat.zero_le _⟩) (fun H locs hP hS => ?_)
      refine W.eq (g2 := F0 m 49 ls [.long (lN (ky_le f 8 4))]) rfl ?_
      refine lv_lload_n hx hb d_Mo_faultOfCounts_49 rfl (lv_at hl 1 rfl) ?_
      refine kf_lc_le (tgt := 57) hx hb d_Mo_faultOfCounts_50 d_Mo_faultOfCounts_51 (by decide) (fun c50 => ?_) (fun c50 => ?_)
      · refine lv_aload_n hx hb d_Mo_faultOfCounts_57 rfl (lv_at hl 2 rfl) ?_
        refine lv_bipush (v := 12) hx hb d_Mo_faultOfCounts_58 (by decide) ?_
        refine lv_iconst (v := 4) hx hb d_Mo_faultOfCounts_60 (by decide) ?_
        refine kf_ro hP hD hS hA [0] rfl (va_runS (As := [.ref h1, .int 12, .int 4]) (rest := []) ⟨hx, hb, hml, hown, hts⟩ (c_Mo_field l D cB cI _ h1 f hf 12 4 (by decide)) ⟨callB_of 3 hts g_Mo_field rfl rfl rfl (hts _ q1_5) (hts _ q2_76) h_Mo_field ⟨Nat.le_of_ble_eq_true rfl, Nat.le_of_ble_eq_true rfl⟩, (hts _ q2_77)⟩ ⟨kf_bl, kf_to hP hD hS hA hE [0] rfl rfl⟩ rfl rfl hl.1 rfl (lv_room (Nat.le_of_ble_eq_true rfl)) d_Mo_faultOfCounts_61 ⟨Nat.zero_le _, Nat.zero_le _⟩) (fun H locs hP hS => ?_)
        refine W.eq (g2 := F0 m 64 ls [.long (lN (ky_le f 12 4))]) rfl ?_
        refine lv_lload_n hx hb d_Mo_faultOfCounts_64 rfl (lv_at hl 1 rfl) ?_
        refine kf_lc_le (tgt := 72) hx hb d_Mo_faultOfCounts_65 d_Mo_faultOfCounts_66 (by decide) (fun c65 => ?_) (fun c65 => ?_)
        · refine lv_aload_n hx hb d_Mo_faultOfCounts_72 rfl (lv_at hl 2 rfl) ?_
          refine lv_bipush (v := 16) hx hb d_Mo_faultOfCounts_73 (by decide) ?_
          refine lv_iconst (v := 4) hx hb d_Mo_faultOfCounts_75 (by decide) ?_
          refine kf_ro hP hD hS hA [0] rfl (va_runS (As := [.ref h1, .int 16, .int 4]) (rest := []) ⟨hx, hb, hml, hown, hts⟩ (c_Mo_field l D cB cI _ h1 f hf 16 4 (by decide)) ⟨callB_of 3 hts g_Mo_field rfl rfl rfl (hts _ q1_5) (hts _ q2_76) h_Mo_field ⟨Nat.le_of_ble_eq_true rfl, Nat.le_of_ble_eq_true rfl⟩, (hts _ q2_77)⟩ ⟨kf_bl, kf_to hP hD hS hA hE [0] rfl rfl⟩ rfl rfl hl.1 rfl (lv_room (Nat.le_of_ble_eq_true rfl)) d_Mo_faultOfCounts_76 ⟨Nat.zero_le _, Nat.zero_le _⟩) (fun H locs hP hS => ?_)
          refine W.eq (g2 := F0 m 79 ls [.long (lN (ky_le f 16 4))]) rfl ?_
          refine lv_lload_n hx hb d_Mo_faultOfCounts_79 rfl (lv_at hl 0 rfl) ?_
          refine kf_lc_le (tgt := 87) hx hb d_Mo_faultOfCounts_80 d_Mo_faultOfCounts_81 (by decide) (fun c80 => ?_) (fun c80 => ?_)
          · refine lv_aload_n hx hb d_Mo_faultOfCounts_87 rfl (lv_at hl 2 rfl) ?_
            refine lv_bipush (v := 58) hx hb d_Mo_faultOfCounts_88 (by decide) ?_
            refine lv_iconst (v := 2) hx hb d_Mo_faultOfCounts_90 (by decide) ?_
            refine kf_ro hP hD hS hA [0] rfl (va_runS (As := [.ref h1, .int 58, .int 2]) (rest := []) ⟨hx, hb, hml, hown, hts⟩ (c_Mo_field l D cB cI _ h1 f hf 58 2 (by decide)) ⟨callB_of 3 hts g_Mo_field rfl rfl rfl (hts _ q1_5) (hts _ q2_76) h_Mo_field ⟨Nat.le_of_ble_eq_true rfl, Nat.le_of_ble_eq_true rfl⟩, (hts _ q2_77)⟩ ⟨kf_bl, kf_to hP hD hS hA hE [0] rfl rfl⟩ rfl rfl hl.1 rfl (lv_room (Nat.le_of_ble_eq_true rfl)) d_Mo_faultOfCounts_91 ⟨Nat.zero_le _, Nat.zero_le _⟩) (fun H locs hP hS => ?_)
            refine W.eq (g2 := F0 m 94 ls [.long (lN (ky_le f 58 2))]) rfl ?_
            refine lv_lconst (v := 1) hx hb d_Mo_faultOfCounts_94 (by decide) ?_
            refine kf_lc_eq (tgt := 116) hx hb d_Mo_faultOfCounts_95 d_Mo_faultOfCounts_96 (by decide) (fun c95 => ?_) (fun c95 => ?_)
            · refine lv_aload_n hx hb d_Mo_faultOfCounts_116 rfl (lv_at hl 2 rfl) ?_
              refine lv_bipush (v := 84) hx hb d_Mo_faultOfCounts_117 (by decide) ?_
              refine lv_iconst (v := 4) hx hb d_Mo_faultOfCounts_119 (by decide) ?_
              refine kf_ro hP hD hS hA [0] rfl (va_runS (As := [.ref h1, .int 84, .int 4]) (rest := []) ⟨hx, hb, hml, hown, hts⟩ (c_Mo_field l D cB cI _ h1 f hf 84 4 (by decide)) ⟨callB_of 3 hts g_Mo_field rfl rfl rfl (hts _ q1_5) (hts _ q2_76) h_Mo_field ⟨Nat.le_of_ble_eq_true rfl, Nat.le_of_ble_eq_true rfl⟩, (hts _ q2_77)⟩ ⟨kf_bl, kf_to hP hD hS hA hE [0] rfl rfl⟩ rfl rfl hl.1 rfl (lv_room (Nat.le_of_ble_eq_true rfl)) d_Mo_faultOfCounts_120 ⟨Nat.zero_le _, Nat.zero_le _⟩) (fun H locs hP hS => ?_)
              refine W.eq (g2 := F0 m 123 ls [.long (lN (ky_le f 84 4))]) rfl ?_
              refine lv_ldc2 (v := 11) hx hb hown (hts _ q2_68) d_Mo_faultOfCounts_123 ?_
              refine lv_lload_n hx hb d_Mo_faultOfCounts_126 rfl (lv_at hl 0 rfl) ?_
              refine kf_ro hP hD hS hA [] rfl (va_runS (As := [.long (lN (ky_le f 84 4)), .long 11, .long (lN (ky_le f 0 4))]) (rest := []) ⟨hx, hb, hml, hown, hts⟩ (c_Mo_isIn l D cB cI _ (lN (ky_le f 84 4)) 11 (lN (ky_le f 0 4))) ⟨callB_of 3 hts g_Mo_isIn rfl rfl rfl (hts _ q1_5) (hts _ q2_95) h_Mo_isIn ⟨Nat.le_of_ble_eq_true rfl, Nat.le_of_ble_eq_true rfl⟩, (hts _ q2_96)⟩ ⟨kf_bl, kf_to hP hD hS hA hE [] rfl rfl⟩ rfl rfl hl.1 rfl (lv_room (Nat.le_of_ble_eq_true rfl)) d_Mo_faultOfCounts_127 ⟨Nat.zero_le _, Nat.zero_le _⟩) (fun H locs hP hS => ?_)
              refine W.eq (g2 := F0 m 130 ls [.int (kP (km_inP (lN (ky_le f 84 4)) 11 (lN (ky_le f 0 4))))]) rfl ?_
              refine lv_if_ne (tgt := 136) hx hb d_Mo_faultOfCounts_130 (by decide) (fun c130 => ?_) (fun c130 => ?_)
              · refine lv_aload_n hx hb d_Mo_faultOfCounts_136 rfl (lv_at hl 2 rfl) ?_
                refine lv_bipush (v := 90) hx hb d_Mo_faultOfCounts_137 (by decide) ?_
                refine lv_iconst (v := 2) hx hb d_Mo_faultOfCounts_139 (by decide) ?_
                refine kf_ro hP hD hS hA [0] rfl (va_runS (As := [.ref h1, .int 90, .int 2]) (rest := []) ⟨hx, hb, hml, hown, hts⟩ (c_Mo_field l D cB cI _ h1 f hf 90 2 (by decide)) ⟨callB_of 3 hts g_Mo_field rfl rfl rfl (hts _ q1_5) (hts _ q2_76) h_Mo_field ⟨Nat.le_of_ble_eq_true rfl, Nat.le_of_ble_eq_true rfl⟩, (hts _ q2_77)⟩ ⟨kf_bl, kf_to hP hD hS hA hE [0] rfl rfl⟩ rfl rfl hl.1 rfl (lv_room (Nat.le_of_ble_eq_true rfl)) d_Mo_faultOfCounts_140 ⟨Nat.zero_le _, Nat.zero_le _⟩) (fun H locs hP hS => ?_)
                refine W.eq (g2 := F0 m 143 ls [.long (lN (ky_le f 90 2))]) rfl ?_
                refine lv_lstore (lv' := [(5, .long (lN (ky_le f 90 2))), (3, .long (lN (ky_le f 0 4))), (1, .long (lN (ky_le f 4 4))), (0, .ref h1)]) hx hb d_Mo_faultOfCounts_143 hl (by decide) rfl (fun ls hl => ?_)
                refine lv_lload hx hb d_Mo_faultOfCounts_145 (lv_at hl 0 rfl) ?_
                refine lv_aload_n hx hb d_Mo_faultOfCounts_147 rfl (lv_at hl 3 rfl) ?_
                refine kf_ro hP hD hS hA [0] rfl (va_runS (As := [.ref h1]) (rest := [.long (lN (ky_le f 90 2))]) ⟨hx, hb, hml, hown, hts⟩ (c_Mo_groupsOf l D cB cI _ h1 f hf  h32) ⟨callB_of 1 hts g_Mo_groupsOf rfl rfl rfl (hts _ q1_5) (hts _ q2_73) h_Mo_groupsOf ⟨Nat.le_of_ble_eq_true rfl, Nat.le_of_ble_eq_true rfl⟩, (hts _ q2_74)⟩ ⟨kf_bl, kf_to hP hD hS hA hE [0] rfl rfl⟩ rfl rfl hl.1 rfl (lv_room (Nat.le_of_ble_eq_true rfl)) d_Mo_faultOfCounts_148 ⟨Nat.zero_le _, Nat.zero_le _⟩) (fun H locs hP hS => ?_)
                refine W.eq (g2 := F0 m 151 ls [.long (kv_gc f), .long (lN (ky_le f 90 2))]) rfl ?_
                refine kf_lc_ge (tgt := 169) hx hb d_Mo_faultOfCounts_151 d_Mo_faultOfCounts_152 (by decide) (fun c151 => ?_) (fun c151 => ?_)
                · refine lv_bipush (v := 90) hx hb d_Mo_faultOfCounts_169 (by decide) ?_
                  have hc130 := by first | exact kP_ne c130 | exact kP_eq c130
                  exact kf_ir hx hb hr hlocks hP hD hS (by unfold km_ct; rw [if_neg (fun q => q hR)]; clear hR hP hD hS hA hE hts hl c4; grind) d_Mo_faultOfCounts_171
                · have h90 : ky_le f 90 2 < 64 := km_own64 hR.2.2.1 c151 (km_le2 f 90)
                  refine lv_aload_n hx hb d_Mo_faultOfCounts_155 rfl (lv_at hl 3 rfl) ?_
                  refine lv_lload hx hb d_Mo_faultOfCounts_156 (lv_at hl 0 rfl) ?_
                  refine kf_ro hP hD hS hA [0] rfl (va_runS (As := [.ref h1, .long (lN (ky_le f 90 2))]) (rest := []) ⟨hx, hb, hml, hown, hts⟩ (c_Mo_hasCopy l D cB cI _ h1 f hf ((ky_le f 90 2)) h90) ⟨callB_of 2 hts g_Mo_hasCopy rfl rfl rfl (hts _ q1_5) (hts _ q2_120) h_Mo_hasCopy ⟨Nat.le_of_ble_eq_true rfl, Nat.le_of_ble_eq_true rfl⟩, (hts _ q2_121)⟩ ⟨kf_bl, kf_to hP hD hS hA hE [0] rfl rfl⟩ rfl rfl hl.1 rfl (lv_room (Nat.le_of_ble_eq_true rfl)) d_Mo_faultOfCounts_158 ⟨Nat.zero_le _, Nat.zero_le _⟩) (fun H locs hP hS => ?_)
                  refine W.eq (g2 := F0 m 161 ls [.int (kP (km_hcP f ((ky_le f 90 2))))]) rfl ?_
                  refine lv_if_eq (tgt := 169) hx hb d_Mo_faultOfCounts_161 (by decide) (fun c161 => ?_) (fun c161 => ?_)
                  · refine lv_bipush (v := 90) hx hb d_Mo_faultOfCounts_169 (by decide) ?_
                    have hc130 := by first | exact kP_ne c130 | exact kP_eq c130
                    have hc161 := by first | exact kP_ne c161 | exact kP_eq c161
                    exact kf_ir hx hb hr hlocks hP hD hS (by unfold km_ct; rw [if_neg (fun q => q hR)]; clear hR hP hD hS hA hE hts hl c4; grind) d_Mo_faultOfCounts_171
                  · refine lv_bipush (v := -2) hx hb d_Mo_faultOfCounts_164 (by decide) ?_
                    refine lv_goto (tgt := 171) hx hb d_Mo_faultOfCounts_166 (by decide) ?_
                    have hc130 := by first | exact kP_ne c130 | exact kP_eq c130
                    have hc161 := by first | exact kP_ne c161 | exact kP_eq c161
                    exact kf_ir hx hb hr hlocks hP hD hS (by unfold km_ct; rw [if_neg (fun q => q hR)]; clear hR hP hD hS hA hE hts hl c4; grind) d_Mo_faultOfCounts_171
              · refine lv_bipush (v := 84) hx hb d_Mo_faultOfCounts_133 (by decide) ?_
                have hc130 := by first | exact kP_ne c130 | exact kP_eq c130
                exact kf_ir hx hb hr hlocks hP hD hS (by unfold km_ct; rw [if_neg (fun q => q hR)]; clear hR hP hD hS hA hE hts hl c4; grind) d_Mo_faultOfCounts_135
            · refine lv_aload_n hx hb d_Mo_faultOfCounts_99 rfl (lv_at hl 2 rfl) ?_
              refine lv_bipush (v := 58) hx hb d_Mo_faultOfCounts_100 (by decide) ?_
              refine lv_iconst (v := 2) hx hb d_Mo_faultOfCounts_102 (by decide) ?_
              refine kf_ro hP hD hS hA [0] rfl (va_runS (As := [.ref h1, .int 58, .int 2]) (rest := []) ⟨hx, hb, hml, hown, hts⟩ (c_Mo_field l D cB cI _ h1 f hf 58 2 (by decide)) ⟨callB_of 3 hts g_Mo_field rfl rfl rfl (hts _ q1_5) (hts _ q2_76) h_Mo_field ⟨Nat.le_of_ble_eq_true rfl, Nat.le_of_ble_eq_true rfl⟩, (hts _ q2_77)⟩ ⟨kf_bl, kf_to hP hD hS hA hE [0] rfl rfl⟩ rfl rfl hl.1 rfl (lv_room (Nat.le_of_ble_eq_true rfl)) d_Mo_faultOfCounts_103 ⟨Nat.zero_le _, Nat.zero_le _⟩) (fun H locs hP hS => ?_)
              refine W.eq (g2 := F0 m 106 ls [.long (lN (ky_le f 58 2))]) rfl ?_
              refine lv_ldc2 (v := 3) hx hb hown (hts _ q2_71) d_Mo_faultOfCounts_106 ?_
              refine kf_lc_eq (tgt := 116) hx hb d_Mo_faultOfCounts_109 d_Mo_faultOfCounts_110 (by decide) (fun c109 => ?_) (fun c109 => ?_)
              · refine lv_aload_n hx hb d_Mo_faultOfCounts_116 rfl (lv_at hl 2 rfl) ?_
                refine lv_bipush (v := 84) hx hb d_Mo_faultOfCounts_117 (by decide) ?_
                refine lv_iconst (v := 4) hx hb d_Mo_faultOfCounts_119 (by decide) ?_
                refine kf_ro hP hD hS hA [0] rfl (va_runS (As := [.ref h1, .int 84, .int 4]) (rest := []) ⟨hx, hb, hml, hown, hts⟩ (c_Mo_field l D cB cI _ h1 f hf 84 4 (by decide)) ⟨callB_of 3 hts g_Mo_field rfl rfl rfl (hts _ q1_5) (hts _ q2_76) h_Mo_field ⟨Nat.le_of_ble_eq_true rfl, Nat.le_of_ble_eq_true rfl⟩, (hts _ q2_77)⟩ ⟨kf_bl, kf_to hP hD hS hA hE [0] rfl rfl⟩ rfl rfl hl.1 rfl (lv_room (Nat.le_of_ble_eq_true rfl)) d_Mo_faultOfCounts_120 ⟨Nat.zero_le _, Nat.zero_le _⟩) (fun H locs hP hS => ?_)
                refine W.eq (g2 := F0 m 123 ls [.long (lN (ky_le f 84 4))]) rfl ?_
                refine lv_ldc2 (v := 11) hx hb hown (hts _ q2_68) d_Mo_faultOfCounts_123 ?_
                refine lv_lload_n hx hb d_Mo_faultOfCounts_126 rfl (lv_at hl 0 rfl) ?_
                refine kf_ro hP hD hS hA [] rfl (va_runS (As := [.long (lN (ky_le f 84 4)), .long 11, .long (lN (ky_le f 0 4))]) (rest := []) ⟨hx, hb, hml, hown, hts⟩ (c_Mo_isIn l D cB cI _ (lN (ky_le f 84 4)) 11 (lN (ky_le f 0 4))) ⟨callB_of 3 hts g_Mo_isIn rfl rfl rfl (hts _ q1_5) (hts _ q2_95) h_Mo_isIn ⟨Nat.le_of_ble_eq_true rfl, Nat.le_of_ble_eq_true rfl⟩, (hts _ q2_96)⟩ ⟨kf_bl, kf_to hP hD hS hA hE [] rfl rfl⟩ rfl rfl hl.1 rfl (lv_room (Nat.le_of_ble_eq_true rfl)) d_Mo_faultOfCounts_127 ⟨Nat.zero_le _, Nat.zero_le _⟩) (fun H locs hP hS => ?_)
                refine W.eq (g2 := F0 m 130 ls [.int (kP (km_inP (lN (ky_le f 84 4)) 11 (lN (ky_le f 0 4))))]) rfl ?_
                refine lv_if_ne (tgt := 136) hx hb d_Mo_faultOfCounts_130 (by decide) (fun c130 => ?_) (fun c130 => ?_)
                · refine lv_aload_n hx hb d_Mo_faultOfCounts_136 rfl (lv_at hl 2 rfl) ?_
                  refine lv_bipush (v := 90) hx hb d_Mo_faultOfCounts_137 (by decide) ?_
                  refine lv_iconst (v := 2) hx hb d_Mo_faultOfCounts_139 (by decide) ?_
                  refine kf_ro hP hD hS hA [0] rfl (va_runS (As := [.ref h1, .int 90, .int 2]) (rest := []) ⟨hx, hb, hml, hown, hts⟩ (c_Mo_field l D cB cI _ h1 f hf 90 2 (by decide)) ⟨callB_of 3 hts g_Mo_field rfl rfl rfl (hts _ q1_5) (hts _ q2_76) h_Mo_field ⟨Nat.le_of_ble_eq_true rfl, Nat.le_of_ble_eq_true rfl⟩, (hts _ q2_77)⟩ ⟨kf_bl, kf_to hP hD hS hA hE [0] rfl rfl⟩ rfl rfl hl.1 rfl (lv_room (Nat.le_of_ble_eq_true rfl)) d_Mo_faultOfCounts_140 ⟨Nat.zero_le _, Nat.zero_le _⟩) (fun H locs hP hS => ?_)
                  refine W.eq (g2 := F0 m 143 ls [.long (lN (ky_le f 90 2))]) rfl ?_
                  refine lv_lstore (lv' := [(5, .long (lN (ky_le f 90 2))), (3, .long (lN (ky_le f 0 4))), (1, .long (lN (ky_le f 4 4))), (0, .ref h1)]) hx hb d_Mo_faultOfCounts_143 hl (by decide) rfl (fun ls hl => ?_)
                  refine lv_lload hx hb d_Mo_faultOfCounts_145 (lv_at hl 0 rfl) ?_
                  refine lv_aload_n hx hb d_Mo_faultOfCounts_147 rfl (lv_at hl 3 rfl) ?_
                  refine kf_ro hP hD hS hA [0] rfl (va_runS (As := [.ref h1]) (rest := [.long (lN (ky_le f 90 2))]) ⟨hx, hb, hml, hown, hts⟩ (c_Mo_groupsOf l D cB cI _ h1 f hf  h32) ⟨callB_of 1 hts g_Mo_groupsOf rfl rfl rfl (hts _ q1_5) (hts _ q2_73) h_Mo_groupsOf ⟨Nat.le_of_ble_eq_true rfl, Nat.le_of_ble_eq_true rfl⟩, (hts _ q2_74)⟩ ⟨kf_bl, kf_to hP hD hS hA hE [0] rfl rfl⟩ rfl rfl hl.1 rfl (lv_room (Nat.le_of_ble_eq_true rfl)) d_Mo_faultOfCounts_148 ⟨Nat.zero_le _, Nat.zero_le _⟩) (fun H locs hP hS => ?_)
                  refine W.eq (g2 := F0 m 151 ls [.long (kv_gc f), .long (lN (ky_le f 90 2))]) rfl ?_
                  refine kf_lc_ge (tgt := 169) hx hb d_Mo_faultOfCounts_151 d_Mo_faultOfCounts_152 (by decide) (fun c151 => ?_) (fun c151 => ?_)
                  · refine lv_bipush (v := 90) hx hb d_Mo_faultOfCounts_169 (by decide) ?_
                    have hc130 := by first | exact kP_ne c130 | exact kP_eq c130
                    exact kf_ir hx hb hr hlocks hP hD hS (by unfold km_ct; rw [if_neg (fun q => q hR)]; clear hR hP hD hS hA hE hts hl c4; grind) d_Mo_faultOfCounts_171
                  · have h90 : ky_le f 90 2 < 64 := km_own64 hR.2.2.1 c151 (km_le2 f 90)
                    refine lv_aload_n hx hb d_Mo_faultOfCounts_155 rfl (lv_at hl 3 rfl) ?_
                    refine lv_lload hx hb d_Mo_faultOfCounts_156 (lv_at hl 0 rfl) ?_
                    refine kf_ro hP hD hS hA [0] rfl (va_runS (As := [.ref h1, .long (lN (ky_le f 90 2))]) (rest := []) ⟨hx, hb, hml, hown, hts⟩ (c_Mo_hasCopy l D cB cI _ h1 f hf ((ky_le f 90 2)) h90) ⟨callB_of 2 hts g_Mo_hasCopy rfl rfl rfl (hts _ q1_5) (hts _ q2_120) h_Mo_hasCopy ⟨Nat.le_of_ble_eq_true rfl, Nat.le_of_ble_eq_true rfl⟩, (hts _ q2_121)⟩ ⟨kf_bl, kf_to hP hD hS hA hE [0] rfl rfl⟩ rfl rfl hl.1 rfl (lv_room (Nat.le_of_ble_eq_true rfl)) d_Mo_faultOfCounts_158 ⟨Nat.zero_le _, Nat.zero_le _⟩) (fun H locs hP hS => ?_)
                    refine W.eq (g2 := F0 m 161 ls [.int (kP (km_hcP f ((ky_le f 90 2))))]) rfl ?_
                    refine lv_if_eq (tgt := 169) hx hb d_Mo_faultOfCounts_161 (by decide) (fun c161 => ?_) (fun c161 => ?_)
                    · refine lv_bipush (v := 90) hx hb d_Mo_faultOfCounts_169 (by decide) ?_
                      have hc130 := by first | exact kP_ne c130 | exact kP_eq c130
                      have hc161 := by first | exact kP_ne c161 | exact kP_eq c161
                      exact kf_ir hx hb hr hlocks hP hD hS (by unfold km_ct; rw [if_neg (fun q => q hR)]; clear hR hP hD hS hA hE hts hl c4; grind) d_Mo_faultOfCounts_171
                    · refine lv_bipush (v := -2) hx hb d_Mo_faultOfCounts_164 (by decide) ?_
                      refine lv_goto (tgt := 171) hx hb d_Mo_faultOfCounts_166 (by decide) ?_
                      have hc130 := by first | exact kP_ne c130 | exact kP_eq c130
                      have hc161 := by first | exact kP_ne c161 | exact kP_eq c161
                      exact kf_ir hx hb hr hlocks hP hD hS (by unfold km_ct; rw [if_neg (fun q => q hR)]; clear hR hP hD hS hA hE hts hl c4; grind) d_Mo_faultOfCounts_171
                · refine lv_bipush (v := 84) hx hb d_Mo_faultOfCounts_133 (by decide) ?_
                  have hc130 := by first | exact kP_ne c130 | exact kP_eq c130
                  exact kf_ir hx hb hr hlocks hP hD hS (by unfold km_ct; rw [if_neg (fun q => q hR)]; clear hR hP hD hS hA hE hts hl c4; grind) d_Mo_faultOfCounts_135
              · refine lv_bipush (v := 58) hx hb d_Mo_faultOfCounts_113 (by decide) ?_
                exact kf_ir hx hb hr hlocks hP hD hS (by unfold km_ct; rw [if_neg (fun q => q hR)]; clear hR hP hD hS hA hE hts hl c4; grind) d_Mo_faultOfCounts_115
          · refine lv_bipush (v := 16) hx hb d_Mo_faultOfCounts_84 (by decide) ?_
            exact kf_ir hx hb hr hlocks hP hD hS (by unfold km_ct; rw [if_neg (fun q => q hR)]; clear hR hP hD hS hA hE hts hl c4; grind) d_Mo_faultOfCounts_86
        · refine lv_bipush (v := 12) hx hb d_Mo_faultOfCounts_69 (by decide) ?_
          exact kf_ir hx hb hr hlocks hP hD hS (by unfold km_ct; rw [if_neg (fun q => q hR)]; clear hR hP hD hS hA hE hts hl c4; grind) d_Mo_faultOfCounts_71
      · refine lv_bipush (v := 8) hx hb d_Mo_faultOfCounts_54 (by decide) ?_
        exact kf_ir hx hb hr hlocks hP hD hS (by unfold km_ct; rw [if_neg (fun q => q hR)]; clear hR hP hD hS hA hE hts hl c4; grind) d_Mo_faultOfCounts_56
    · refine lv_iconst (v := 0) hx hb d_Mo_faultOfCounts_40 (by decide) ?_
      exact kf_ir hx hb hr hlocks hP hD hS (by unfold km_ct; rw [if_neg (fun q => q hR)]; clear hR hP hD hS hA hE hts hl c4; grind) d_Mo_faultOfCounts_41
  · refine lv_iconst (v := 4) hx hb d_Mo_faultOfCounts_7 (by decide) ?_
    exact kf_ir hx hb hr hlocks hP hD hS (by unfold km_ct; rw [if_pos (kP_eq c4)]) d_Mo_faultOfCounts_8

set_option maxRecDepth 100000 in
set_option maxHeartbeats 4000000 in
theorem c_Mo_isListed (l : Launch) (D : va_G) (cB cI : ClassId) (hz : Nat) (p0 : Int32) (p1 : Int32) : kf_Ct l y_Mo_isListed w_Mo_isListed 0 0 0 0 D (kT cB cI) [.int p0, .int p1] [] hz (some (.int (kP (km_liP p0 p1)))) (kf_po D []) := by
  refine kf_of (cc := b_Mo_isListed) (maxL := 2) (ret := (some .boolean)) (by decide) rfl (Nat.le_of_ble_eq_true rfl) ?_
  intro p e s m below meth c A H locs hx hb hr hml hown hts hlocks hin hP hD hS hA hE ls hl
  have hl : lv_has ls 2 [(0, .int p0), (1, .int p1)] := hl
  refine lv_iload_n hx hb d_Mo_isListed_0 rfl (lv_at hl 0 rfl) ?_
  refine lv_if_ne (tgt := 22) hx hb d_Mo_isListed_1 (by decide) (fun c1 => ?_) (fun c1 => ?_)
  · refine lv_iload_n hx hb d_Mo_isListed_22 rfl (lv_at hl 0 rfl) ?_
    refine lv_iconst (v := 1) hx hb d_Mo_isListed_23 (by decide) ?_
    refine lv_icmp_ne (tgt := 51) hx hb d_Mo_isListed_24 (by decide) (fun c24 => ?_) (fun c24 => ?_)
    · refine lv_iload_n hx hb d_Mo_isListed_51 rfl (lv_at hl 1 rfl) ?_
      refine lv_iconst (v := 2) hx hb d_Mo_isListed_52 (by decide) ?_
      refine lv_icmp_ge (tgt := 60) hx hb d_Mo_isListed_53 (by decide) (fun c53 => ?_) (fun c53 => ?_)
      · refine lv_iconst (v := 0) hx hb d_Mo_isListed_60 (by decide) ?_
        exact kf_zr hx hb hr hlocks hP hD hS (kP_f (by grind)) (kP_nar) d_Mo_isListed_61
      · refine lv_iconst (v := 1) hx hb d_Mo_isListed_56 (by decide) ?_
        refine lv_goto (tgt := 61) hx hb d_Mo_isListed_57 (by decide) ?_
        exact kf_zr hx hb hr hlocks hP hD hS (kP_t (by grind)) (kP_nar) d_Mo_isListed_61
    · refine lv_iload_n hx hb d_Mo_isListed_27 rfl (lv_at hl 1 rfl) ?_
      refine lv_iconst (v := 1) hx hb d_Mo_isListed_28 (by decide) ?_
      refine lv_icmp_eq (tgt := 43) hx hb d_Mo_isListed_29 (by decide) (fun c29 => ?_) (fun c29 => ?_)
      · refine lv_iconst (v := 1) hx hb d_Mo_isListed_43 (by decide) ?_
        refine lv_goto (tgt := 61) hx hb d_Mo_isListed_44 (by decide) ?_
        exact kf_zr hx hb hr hlocks hP hD hS (kP_t (by grind)) (kP_nar) d_Mo_isListed_61
      · refine lv_iload_n hx hb d_Mo_isListed_32 rfl (lv_at hl 1 rfl) ?_
        refine lv_iconst (v := 2) hx hb d_Mo_isListed_33 (by decide) ?_
        refine lv_icmp_eq (tgt := 43) hx hb d_Mo_isListed_34 (by decide) (fun c34 => ?_) (fun c34 => ?_)
        · refine lv_iconst (v := 1) hx hb d_Mo_isListed_43 (by decide) ?_
          refine lv_goto (tgt := 61) hx hb d_Mo_isListed_44 (by decide) ?_
          exact kf_zr hx hb hr hlocks hP hD hS (kP_t (by grind)) (kP_nar) d_Mo_isListed_61
        · refine lv_iload_n hx hb d_Mo_isListed_37 rfl (lv_at hl 1 rfl) ?_
          refine lv_bipush (v := 6) hx hb d_Mo_isListed_38 (by decide) ?_
          refine lv_icmp_ne (tgt := 47) hx hb d_Mo_isListed_40 (by decide) (fun c40 => ?_) (fun c40 => ?_)
          · refine lv_iconst (v := 0) hx hb d_Mo_isListed_47 (by decide) ?_
            refine lv_goto (tgt := 61) hx hb d_Mo_isListed_48 (by decide) ?_
            exact kf_zr hx hb hr hlocks hP hD hS (kP_f (by grind)) (kP_nar) d_Mo_isListed_61
          · refine lv_iconst (v := 1) hx hb d_Mo_isListed_43 (by decide) ?_
            refine lv_goto (tgt := 61) hx hb d_Mo_isListed_44 (by decide) ?_
            exact kf_zr hx hb hr hlocks hP hD hS (kP_t (by grind)) (kP_nar) d_Mo_isListed_61
  · refine lv_iload_n hx hb d_Mo_isListed_4 rfl (lv_at hl 1 rfl) ?_
    refine lv_iconst (v := 2) hx hb d_Mo_isListed_5 (by decide) ?_
    refine lv_icmp_eq (tgt := 14) hx hb d_Mo_isListed_6 (by decide) (fun c6 => ?_) (fun c6 => ?_)
    · refine lv_iconst (v := 1) hx hb d_Mo_isListed_14 (by decide) ?_
      refine lv_goto (tgt := 61) hx hb d_Mo_isListed_15 (by decide) ?_
      exact kf_zr hx hb hr hlocks hP hD hS (kP_t (by grind)) (kP_nar) d_Mo_isListed_61
    · refine lv_iload_n hx hb d_Mo_isListed_9 rfl (lv_at hl 1 rfl) ?_
      refine lv_iconst (v := 5) hx hb d_Mo_isListed_10 (by decide) ?_
      refine lv_icmp_ne (tgt := 18) hx hb d_Mo_isListed_11 (by decide) (fun c11 => ?_) (fun c11 => ?_)
      · refine lv_iconst (v := 0) hx hb d_Mo_isListed_18 (by decide) ?_
        refine lv_goto (tgt := 61) hx hb d_Mo_isListed_19 (by decide) ?_
        exact kf_zr hx hb hr hlocks hP hD hS (kP_f (by grind)) (kP_nar) d_Mo_isListed_61
      · refine lv_iconst (v := 1) hx hb d_Mo_isListed_14 (by decide) ?_
        refine lv_goto (tgt := 61) hx hb d_Mo_isListed_15 (by decide) ?_
        exact kf_zr hx hb hr hlocks hP hD hS (kP_t (by grind)) (kP_nar) d_Mo_isListed_61

set_option maxRecDepth 100000 in
set_option maxHeartbeats 4000000 in
theorem c_Mo_faultOfFeatures (l : Launch) (D : va_G) (cB cI : ClassId) (hz : Nat) (h1 : Nat) (f : Nat → Int32) (hf : km_ok f) : kf_Ct l y_Mo_faultOfFeatures w_Mo_faultOfFeatures 2 47 0 0 D (kT cB cI) [.ref h1] [(h1, .inl (cI, 1024, .inl f))] hz (some (.int (km_out f 3))) (kf_po D [(h1, .inl (cI, 1024, .inl f))]) := by
  refine kf_of (cc := b_Mo_faultOfFeatures) (maxL := 3) (ret := (some .int)) (by decide) rfl (Nat.le_of_ble_eq_true rfl) ?_
  intro p e s m below meth c A H locs hx hb hr hml hown hts hlocks hin hP hD hS hA hE ls hl
  have hl : lv_has ls 3 [(0, .ref h1)] := hl
  refine lv_iconst (v := 0) hx hb d_Mo_faultOfFeatures_0 (by decide) ?_
  refine kf_ti (y := nI 0) (rfl) ?_
  refine lv_istore_n (lv' := [(1, .int (nI 0)), (0, .ref h1)]) hx hb d_Mo_faultOfFeatures_1 rfl hl (by decide) rfl (fun ls hl => ?_)
  refine kf_loop (σ := Nat) (fun k ls H locs => (k ≤ 3) ∧ (km_out f 3 = km_out f (3 - k)) ∧ lv_has ls 3 [(1, .int (nI k)), (0, .ref h1)] ∧ va_P D vwCl [(h1, .inl (cI, 1024, .inl f))] H ∧ va_D A [(h1, .inl (cI, 1024, .inl f))] ∧ va_S A s.heap H locs) (fun k => 3 - k) 0 ⟨Nat.zero_le _, rfl, lv_sub hl [0, 1] rfl, hP, hD, hS⟩ (fun k ls H locs hI ih => ?_)
  obtain ⟨hk, hq, hl, hP, hD, hS⟩ := hI
  rcases Nat.lt_or_ge k 3 with hkn | hkn
  · refine lv_iload_n hx hb d_Mo_faultOfFeatures_2 rfl (lv_at hl 0 rfl) ?_
    refine lv_iconst (v := 3) hx hb d_Mo_faultOfFeatures_3 (by decide) ?_
    refine lv_icmp_ge (tgt := 89) hx hb d_Mo_faultOfFeatures_4 (by decide) (fun c4 => absurd c4 (nI_ge (a := k) (b := 3) hkn (by decide))) (fun c4 => ?_)
    refine lv_iconst (v := 0) hx hb d_Mo_faultOfFeatures_7 (by decide) ?_
    refine kf_ti (y := nI 0) (rfl) ?_
    refine lv_istore_n (lv' := [(2, .int (nI 0)), (1, .int (nI k)), (0, .ref h1)]) hx hb d_Mo_faultOfFeatures_8 rfl hl (by decide) rfl (fun ls hl => ?_)
    refine kf_loop (σ := Nat) (fun b ls H locs => (b ≤ 32) ∧ (km_out f 3 = km_inn f k (if k = 1 ∧ (¬ km_hasP f 96 1 ∨ ¬ km_hasP f 96 6) then 96 else km_out f (2 - k)) (32 - b)) ∧ lv_has ls 3 [(2, .int (nI b)), (1, .int (nI k)), (0, .ref h1)] ∧ va_P D vwCl [(h1, .inl (cI, 1024, .inl f))] H ∧ va_D A [(h1, .inl (cI, 1024, .inl f))] ∧ va_S A s.heap H locs) (fun b => 32 - b) 0 ⟨Nat.zero_le _, by rw [hq, show 3 - k = (2 - k) + 1 by omega]; show km_inn f (2 - (2 - k)) (if 2 - (2 - k) = 1 ∧ (¬ km_hasP f 96 1 ∨ ¬ km_hasP f 96 6) then 96 else km_out f (2 - k)) 32 = _; rw [show 2 - (2 - k) = k by omega], lv_sub hl [0, 1, 2] rfl, hP, hD, hS⟩ (fun b ls H locs hI ih2 => ?_)
    obtain ⟨hb2, hq2, hl, hP, hD, hS⟩ := hI
    rcases Nat.lt_or_ge b 32 with hbn | hbn
    · refine lv_iload_n hx hb d_Mo_faultOfFeatures_9 rfl (lv_at hl 0 rfl) ?_
      refine lv_bipush (v := 32) hx hb d_Mo_faultOfFeatures_10 (by decide) ?_
      refine lv_icmp_ge (tgt := 54) hx hb d_Mo_faultOfFeatures_12 (by decide) (fun c12 => absurd c12 (nI_ge (a := b) (b := 32) hbn (by decide))) (fun c12 => ?_)
      refine lv_aload_n hx hb d_Mo_faultOfFeatures_15 rfl (lv_at hl 2 rfl) ?_
      refine lv_bipush (v := 92) hx hb d_Mo_faultOfFeatures_16 (by decide) ?_
      refine lv_iconst (v := 4) hx hb d_Mo_faultOfFeatures_18 (by decide) ?_
      refine lv_iload_n hx hb d_Mo_faultOfFeatures_19 rfl (lv_at hl 1 rfl) ?_
      refine lv_imul hx hb d_Mo_faultOfFeatures_20 ?_
      refine lv_iadd hx hb d_Mo_faultOfFeatures_21 ?_
      refine kf_ti (y := nI (92 + 4 * k)) (by rw [show (92 : Int32) = nI 92 from rfl, show (4 : Int32) = nI 4 from rfl, pk_mul, nI_add]) ?_
      refine lv_iload_n hx hb d_Mo_faultOfFeatures_22 rfl (lv_at hl 0 rfl) ?_
      refine kf_ro hP hD hS hA [0] rfl (va_runS (As := [.ref h1, .int (nI (92 + 4 * k)), .int (nI b)]) (rest := []) ⟨hx, hb, hml, hown, hts⟩ (c_Mo_has l D cB cI _ h1 f hf ((92 + 4 * k)) b (by omega) (by omega)) ⟨callB_of 3 hts g_Mo_has rfl rfl rfl (hts _ q1_5) (hts _ q2_123) h_Mo_has ⟨Nat.le_of_ble_eq_true rfl, Nat.le_of_ble_eq_true rfl⟩, (hts _ q2_124)⟩ ⟨kf_bl, kf_to hP hD hS hA hE [0] rfl rfl⟩ rfl rfl hl.1 rfl (lv_room (Nat.le_of_ble_eq_true rfl)) d_Mo_faultOfFeatures_23 ⟨Nat.zero_le _, Nat.zero_le _⟩) (fun H locs hP hS => ?_)
      refine W.eq (g2 := F0 m 26 ls [.int (kP (km_hasP f ((92 + 4 * k)) b))]) rfl ?_
      refine lv_if_eq (tgt := 48) hx hb d_Mo_faultOfFeatures_26 (by decide) (fun c26 => ?_) (fun c26 => ?_)
      · refine lv_iinc (v := nI (b + 1)) (lv' := [(2, .int (nI (b + 1))), (1, .int (nI k)), (0, .ref h1)]) hx hb d_Mo_faultOfFeatures_48 hl (k := 0) rfl ((nI_succ b).symm) (by decide) rfl (fun ls hl => ?_)
        refine lv_goto (tgt := 9) hx hb d_Mo_faultOfFeatures_51 (by decide) ?_
        exact ih2 (b + 1) _ _ _ (by omega) ⟨by omega, by rw [hq2, show 32 - b = (32 - (b + 1)) + 1 by omega]; show (if km_hasP f (92 + 4 * k) (31 - (32 - (b + 1))) ∧ ¬ km_liP (nI k) (nI (31 - (32 - (b + 1)))) then _ else km_inn f k (if k = 1 ∧ (¬ km_hasP f 96 1 ∨ ¬ km_hasP f 96 6) then 96 else km_out f (2 - k)) (32 - (b + 1))) = _; rw [show 31 - (32 - (b + 1)) = b by omega, if_neg (fun z => kP_eq c26 z.1)], lv_sub hl [0, 1, 2] rfl, hP, hD, hS⟩
      · refine lv_iload_n hx hb d_Mo_faultOfFeatures_29 rfl (lv_at hl 1 rfl) ?_
        refine lv_iload_n hx hb d_Mo_faultOfFeatures_30 rfl (lv_at hl 0 rfl) ?_
        refine kf_ro hP hD hS hA [] rfl (va_runS (As := [.int (nI k), .int (nI b)]) (rest := []) ⟨hx, hb, hml, hown, hts⟩ (c_Mo_isListed l D cB cI _ (nI k) (nI b)) ⟨callB_of 2 hts g_Mo_isListed rfl rfl rfl (hts _ q1_5) (hts _ q2_138) h_Mo_isListed ⟨Nat.le_of_ble_eq_true rfl, Nat.le_of_ble_eq_true rfl⟩, (hts _ q2_139)⟩ ⟨kf_bl, kf_to hP hD hS hA hE [] rfl rfl⟩ rfl rfl hl.1 rfl (lv_room (Nat.le_of_ble_eq_true rfl)) d_Mo_faultOfFeatures_31 ⟨Nat.zero_le _, Nat.zero_le _⟩) (fun H locs hP hS => ?_)
        refine W.eq (g2 := F0 m 34 ls [.int (kP (km_liP (nI k) (nI b)))]) rfl ?_
        refine lv_if_ne (tgt := 48) hx hb d_Mo_faultOfFeatures_34 (by decide) (fun c34 => ?_) (fun c34 => ?_)
        · refine lv_iinc (v := nI (b + 1)) (lv' := [(2, .int (nI (b + 1))), (1, .int (nI k)), (0, .ref h1)]) hx hb d_Mo_faultOfFeatures_48 hl (k := 0) rfl ((nI_succ b).symm) (by decide) rfl (fun ls hl => ?_)
          refine lv_goto (tgt := 9) hx hb d_Mo_faultOfFeatures_51 (by decide) ?_
          exact ih2 (b + 1) _ _ _ (by omega) ⟨by omega, by rw [hq2, show 32 - b = (32 - (b + 1)) + 1 by omega]; show (if km_hasP f (92 + 4 * k) (31 - (32 - (b + 1))) ∧ ¬ km_liP (nI k) (nI (31 - (32 - (b + 1)))) then _ else km_inn f k (if k = 1 ∧ (¬ km_hasP f 96 1 ∨ ¬ km_hasP f 96 6) then 96 else km_out f (2 - k)) (32 - (b + 1))) = _; rw [show 31 - (32 - (b + 1)) = b by omega, if_neg (fun z => z.2 (kP_ne c34))], lv_sub hl [0, 1, 2] rfl, hP, hD, hS⟩
        · refine lv_sipush (v := 2000) hx hb d_Mo_faultOfFeatures_37 (by decide) ?_
          refine lv_bipush (v := 32) hx hb d_Mo_faultOfFeatures_40 (by decide) ?_
          refine lv_iload_n hx hb d_Mo_faultOfFeatures_42 rfl (lv_at hl 1 rfl) ?_
          refine lv_imul hx hb d_Mo_faultOfFeatures_43 ?_
          refine lv_iadd hx hb d_Mo_faultOfFeatures_44 ?_
          refine lv_iload_n hx hb d_Mo_faultOfFeatures_45 rfl (lv_at hl 0 rfl) ?_
          refine lv_iadd hx hb d_Mo_faultOfFeatures_46 ?_
          exact kf_ir hx hb hr hlocks hP hD hS (by rw [hq2, show 32 - b = (32 - (b + 1)) + 1 by omega]; show _ = (if km_hasP f (92 + 4 * k) (31 - (32 - (b + 1))) ∧ ¬ km_liP (nI k) (nI (31 - (32 - (b + 1)))) then 2000 + 32 * nI k + nI (31 - (32 - (b + 1))) else _); rw [show 31 - (32 - (b + 1)) = b by omega, if_pos ⟨kP_ne c26, kP_eq c34⟩]) d_Mo_faultOfFeatures_47
    · refine lv_iload_n hx hb d_Mo_faultOfFeatures_9 rfl (lv_at hl 0 rfl) ?_
      refine lv_bipush (v := 32) hx hb d_Mo_faultOfFeatures_10 (by decide) ?_
      refine lv_icmp_ge (tgt := 54) hx hb d_Mo_faultOfFeatures_12 (by decide) (fun c12 => ?_) (fun c12 => absurd (nI_le (a := 32) (b := b) hbn (by omega)) c12)
      have hq3 : km_out f 3 = (if k = 1 ∧ (¬ km_hasP f 96 1 ∨ ¬ km_hasP f 96 6) then 96 else km_out f (2 - k)) := by rw [hq2, show 32 - b = 0 by omega]; rfl
      refine lv_iload_n hx hb d_Mo_faultOfFeatures_54 rfl (lv_at hl 1 rfl) ?_
      refine lv_iconst (v := 1) hx hb d_Mo_faultOfFeatures_55 (by decide) ?_
      refine lv_icmp_ne (tgt := 83) hx hb d_Mo_faultOfFeatures_56 (by decide) (fun c56 => ?_) (fun c56 => ?_)
      · refine lv_iinc (v := nI (k + 1)) (lv' := [(1, .int (nI (k + 1))), (2, .int (nI b)), (0, .ref h1)]) hx hb d_Mo_faultOfFeatures_83 hl (k := 1) rfl ((nI_succ k).symm) (by decide) rfl (fun ls hl => ?_)
        refine lv_goto (tgt := 2) hx hb d_Mo_faultOfFeatures_86 (by decide) ?_
        exact ih (k + 1) _ _ _ (by omega) ⟨by omega, by rw [hq3, if_neg (fun z => c56 (by rw [z.1]; rfl)), show 2 - k = 3 - (k + 1) by omega], lv_sub hl [0, 2] rfl, hP, hD, hS⟩
      · refine lv_aload_n hx hb d_Mo_faultOfFeatures_59 rfl (lv_at hl 2 rfl) ?_
        refine lv_bipush (v := 96) hx hb d_Mo_faultOfFeatures_60 (by decide) ?_
        refine lv_iconst (v := 1) hx hb d_Mo_faultOfFeatures_62 (by decide) ?_
        refine kf_ro hP hD hS hA [0] rfl (va_runS (As := [.ref h1, .int 96, .int 1]) (rest := []) ⟨hx, hb, hml, hown, hts⟩ (c_Mo_has l D cB cI _ h1 f hf 96 1 (by decide) (by decide)) ⟨callB_of 3 hts g_Mo_has rfl rfl rfl (hts _ q1_5) (hts _ q2_123) h_Mo_has ⟨Nat.le_of_ble_eq_true rfl, Nat.le_of_ble_eq_true rfl⟩, (hts _ q2_124)⟩ ⟨kf_bl, kf_to hP hD hS hA hE [0] rfl rfl⟩ rfl rfl hl.1 rfl (lv_room (Nat.le_of_ble_eq_true rfl)) d_Mo_faultOfFeatures_63 ⟨Nat.zero_le _, Nat.zero_le _⟩) (fun H locs hP hS => ?_)
        refine W.eq (g2 := F0 m 66 ls [.int (kP (km_hasP f 96 1))]) rfl ?_
        refine lv_if_eq (tgt := 80) hx hb d_Mo_faultOfFeatures_66 (by decide) (fun c66 => ?_) (fun c66 => ?_)
        · refine lv_bipush (v := 96) hx hb d_Mo_faultOfFeatures_80 (by decide) ?_
          exact kf_ir hx hb hr hlocks hP hD hS (by rw [hq3, if_pos ⟨(nI_eq (b := 1) (by omega) (by decide)).mp c56, Or.inl (kP_eq c66)⟩]) d_Mo_faultOfFeatures_82
        · refine lv_aload_n hx hb d_Mo_faultOfFeatures_69 rfl (lv_at hl 2 rfl) ?_
          refine lv_bipush (v := 96) hx hb d_Mo_faultOfFeatures_70 (by decide) ?_
          refine lv_bipush (v := 6) hx hb d_Mo_faultOfFeatures_72 (by decide) ?_
          refine kf_ro hP hD hS hA [0] rfl (va_runS (As := [.ref h1, .int 96, .int 6]) (rest := []) ⟨hx, hb, hml, hown, hts⟩ (c_Mo_has l D cB cI _ h1 f hf 96 6 (by decide) (by decide)) ⟨callB_of 3 hts g_Mo_has rfl rfl rfl (hts _ q1_5) (hts _ q2_123) h_Mo_has ⟨Nat.le_of_ble_eq_true rfl, Nat.le_of_ble_eq_true rfl⟩, (hts _ q2_124)⟩ ⟨kf_bl, kf_to hP hD hS hA hE [0] rfl rfl⟩ rfl rfl hl.1 rfl (lv_room (Nat.le_of_ble_eq_true rfl)) d_Mo_faultOfFeatures_74 ⟨Nat.zero_le _, Nat.zero_le _⟩) (fun H locs hP hS => ?_)
          refine W.eq (g2 := F0 m 77 ls [.int (kP (km_hasP f 96 6))]) rfl ?_
          refine lv_if_ne (tgt := 83) hx hb d_Mo_faultOfFeatures_77 (by decide) (fun c77 => ?_) (fun c77 => ?_)
          · refine lv_iinc (v := nI (k + 1)) (lv' := [(1, .int (nI (k + 1))), (2, .int (nI b)), (0, .ref h1)]) hx hb d_Mo_faultOfFeatures_83 hl (k := 1) rfl ((nI_succ k).symm) (by decide) rfl (fun ls hl => ?_)
            refine lv_goto (tgt := 2) hx hb d_Mo_faultOfFeatures_86 (by decide) ?_
            exact ih (k + 1) _ _ _ (by omega) ⟨by omega, by rw [hq3, if_neg (fun z => z.2.elim (fun y => y (kP_ne c66)) (fun y => y (kP_ne c77))), show 2 - k = 3 - (k + 1) by omega], lv_sub hl [0, 2] rfl, hP, hD, hS⟩
          · refine lv_bipush (v := 96) hx hb d_Mo_faultOfFeatures_80 (by decide) ?_
            exact kf_ir hx hb hr hlocks hP hD hS (by rw [hq3, if_pos ⟨(nI_eq (b := 1) (by omega) (by decide)).mp c56, Or.inr (kP_eq c77)⟩]) d_Mo_faultOfFeatures_82
  · refine lv_iload_n hx hb d_Mo_faultOfFeatures_2 rfl (lv_at hl 0 rfl) ?_
    refine lv_iconst (v := 3) hx hb d_Mo_faultOfFeatures_3 (by decide) ?_
    refine lv_icmp_ge (tgt := 89) hx hb d_Mo_faultOfFeatures_4 (by decide) (fun c4 => ?_) (fun c4 => absurd (nI_le (a := 3) (b := k) hkn (by omega)) c4)
    refine lv_bipush (v := -2) hx hb d_Mo_faultOfFeatures_89 (by decide) ?_
    exact kf_ir hx hb hr hlocks hP hD hS (by rw [hq, show 3 - k = 0 by omega]; rfl) d_Mo_faultOfFeatures_91

set_option maxRecDepth 100000 in
set_option maxHeartbeats 4000000 in
theorem c_Mo_faultOfRest (l : Launch) (D : va_G) (cB cI : ClassId) (hz : Nat) (h1 : Nat) (f : Nat → Int32) (hf : km_ok f) : kf_Ct l y_Mo_faultOfRest w_Mo_faultOfRest 2 47 0 0 D (kT cB cI) [.ref h1] [(h1, .inl (cI, 1024, .inl f))] hz (some (.int (km_re f))) (kf_po D [(h1, .inl (cI, 1024, .inl f))]) := by
  refine kf_of (cc := b_Mo_faultOfRest) (maxL := 1) (ret := (some .int)) (by decide) rfl (Nat.le_of_ble_eq_true rfl) ?_
  intro p e s m below meth c A H locs hx hb hr hml hown hts hlocks hin hP hD hS hA hE ls hl
  have hl : lv_has ls 1 [(0, .ref h1)] := hl
  refine lv_aload_n hx hb d_Mo_faultOfRest_0 rfl (lv_at hl 0 rfl) ?_
  refine lv_sipush (v := 224) hx hb d_Mo_faultOfRest_1 (by decide) ?_
  refine lv_iconst (v := 4) hx hb d_Mo_faultOfRest_4 (by decide) ?_
  refine kf_ro hP hD hS hA [0] rfl (va_runS (As := [.ref h1, .int 224, .int 4]) (rest := []) ⟨hx, hb, hml, hown, hts⟩ (c_Mo_field l D cB cI _ h1 f hf 224 4 (by decide)) ⟨callB_of 3 hts g_Mo_field rfl rfl rfl (hts _ q1_5) (hts _ q2_76) h_Mo_field ⟨Nat.le_of_ble_eq_true rfl, Nat.le_of_ble_eq_true rfl⟩, (hts _ q2_77)⟩ ⟨kf_bl, kf_to hP hD hS hA hE [0] rfl rfl⟩ rfl rfl hl.1 rfl (lv_room (Nat.le_of_ble_eq_true rfl)) d_Mo_faultOfRest_5 ⟨Nat.zero_le _, Nat.zero_le _⟩) (fun H locs hP hS => ?_)
  refine W.eq (g2 := F0 m 8 ls [.long (lN (ky_le f 224 4))]) rfl ?_
  refine lv_aload_n hx hb d_Mo_faultOfRest_8 rfl (lv_at hl 0 rfl) ?_
  refine lv_bipush (v := 92) hx hb d_Mo_faultOfRest_9 (by decide) ?_
  refine lv_iconst (v := 2) hx hb d_Mo_faultOfRest_11 (by decide) ?_
  refine kf_ro hP hD hS hA [0] rfl (va_runS (As := [.ref h1, .int 92, .int 2]) (rest := [.long (lN (ky_le f 224 4))]) ⟨hx, hb, hml, hown, hts⟩ (c_Mo_has l D cB cI _ h1 f hf 92 2 (by decide) (by decide)) ⟨callB_of 3 hts g_Mo_has rfl rfl rfl (hts _ q1_5) (hts _ q2_123) h_Mo_has ⟨Nat.le_of_ble_eq_true rfl, Nat.le_of_ble_eq_true rfl⟩, (hts _ q2_124)⟩ ⟨kf_bl, kf_to hP hD hS hA hE [0] rfl rfl⟩ rfl rfl hl.1 rfl (lv_room (Nat.le_of_ble_eq_true rfl)) d_Mo_faultOfRest_12 ⟨Nat.zero_le _, Nat.zero_le _⟩) (fun H locs hP hS => ?_)
  refine W.eq (g2 := F0 m 15 ls [.int (kP (km_hasP f 92 2)), .long (lN (ky_le f 224 4))]) rfl ?_
  refine lv_if_eq (tgt := 24) hx hb d_Mo_faultOfRest_15 (by decide) (fun c15 => ?_) (fun c15 => ?_)
  · refine lv_lconst (v := 0) hx hb d_Mo_faultOfRest_24 (by decide) ?_
    refine kf_lc_eq (tgt := 33) hx hb d_Mo_faultOfRest_25 d_Mo_faultOfRest_26 (by decide) (fun c25 => ?_) (fun c25 => ?_)
    · refine lv_aload_n hx hb d_Mo_faultOfRest_33 rfl (lv_at hl 0 rfl) ?_
      refine lv_sipush (v := 232) hx hb d_Mo_faultOfRest_34 (by decide) ?_
      refine lv_iconst (v := 4) hx hb d_Mo_faultOfRest_37 (by decide) ?_
      refine kf_ro hP hD hS hA [0] rfl (va_runS (As := [.ref h1, .int 232, .int 4]) (rest := []) ⟨hx, hb, hml, hown, hts⟩ (c_Mo_field l D cB cI _ h1 f hf 232 4 (by decide)) ⟨callB_of 3 hts g_Mo_field rfl rfl rfl (hts _ q1_5) (hts _ q2_76) h_Mo_field ⟨Nat.le_of_ble_eq_true rfl, Nat.le_of_ble_eq_true rfl⟩, (hts _ q2_77)⟩ ⟨kf_bl, kf_to hP hD hS hA hE [0] rfl rfl⟩ rfl rfl hl.1 rfl (lv_room (Nat.le_of_ble_eq_true rfl)) d_Mo_faultOfRest_38 ⟨Nat.zero_le _, Nat.zero_le _⟩) (fun H locs hP hS => ?_)
      refine W.eq (g2 := F0 m 41 ls [.long (lN (ky_le f 232 4))]) rfl ?_
      refine lv_aload_n hx hb d_Mo_faultOfRest_41 rfl (lv_at hl 0 rfl) ?_
      refine lv_iconst (v := 0) hx hb d_Mo_faultOfRest_42 (by decide) ?_
      refine lv_iconst (v := 4) hx hb d_Mo_faultOfRest_43 (by decide) ?_
      refine kf_ro hP hD hS hA [0] rfl (va_runS (As := [.ref h1, .int 0, .int 4]) (rest := [.long (lN (ky_le f 232 4))]) ⟨hx, hb, hml, hown, hts⟩ (c_Mo_field l D cB cI _ h1 f hf 0 4 (by decide)) ⟨callB_of 3 hts g_Mo_field rfl rfl rfl (hts _ q1_5) (hts _ q2_76) h_Mo_field ⟨Nat.le_of_ble_eq_true rfl, Nat.le_of_ble_eq_true rfl⟩, (hts _ q2_77)⟩ ⟨kf_bl, kf_to hP hD hS hA hE [0] rfl rfl⟩ rfl rfl hl.1 rfl (lv_room (Nat.le_of_ble_eq_true rfl)) d_Mo_faultOfRest_44 ⟨Nat.zero_le _, Nat.zero_le _⟩) (fun H locs hP hS => ?_)
      refine W.eq (g2 := F0 m 47 ls [.long (lN (ky_le f 0 4)), .long (lN (ky_le f 232 4))]) rfl ?_
      refine kf_lc_le (tgt := 55) hx hb d_Mo_faultOfRest_47 d_Mo_faultOfRest_48 (by decide) (fun c47 => ?_) (fun c47 => ?_)
      · refine lv_aload_n hx hb d_Mo_faultOfRest_55 rfl (lv_at hl 0 rfl) ?_
        refine lv_sipush (v := 252) hx hb d_Mo_faultOfRest_56 (by decide) ?_
        refine lv_iconst (v := 1) hx hb d_Mo_faultOfRest_59 (by decide) ?_
        refine kf_ro hP hD hS hA [0] rfl (va_runS (As := [.ref h1, .int 252, .int 1]) (rest := []) ⟨hx, hb, hml, hown, hts⟩ (c_Mo_field l D cB cI _ h1 f hf 252 1 (by decide)) ⟨callB_of 3 hts g_Mo_field rfl rfl rfl (hts _ q1_5) (hts _ q2_76) h_Mo_field ⟨Nat.le_of_ble_eq_true rfl, Nat.le_of_ble_eq_true rfl⟩, (hts _ q2_77)⟩ ⟨kf_bl, kf_to hP hD hS hA hE [0] rfl rfl⟩ rfl rfl hl.1 rfl (lv_room (Nat.le_of_ble_eq_true rfl)) d_Mo_faultOfRest_60 ⟨Nat.zero_le _, Nat.zero_le _⟩) (fun H locs hP hS => ?_)
        refine W.eq (g2 := F0 m 63 ls [.long (lN (ky_le f 252 1))]) rfl ?_
        refine lv_aload_n hx hb d_Mo_faultOfRest_63 rfl (lv_at hl 0 rfl) ?_
        refine lv_bipush (v := 92) hx hb d_Mo_faultOfRest_64 (by decide) ?_
        refine lv_iconst (v := 5) hx hb d_Mo_faultOfRest_66 (by decide) ?_
        refine kf_ro hP hD hS hA [0] rfl (va_runS (As := [.ref h1, .int 92, .int 5]) (rest := [.long (lN (ky_le f 252 1))]) ⟨hx, hb, hml, hown, hts⟩ (c_Mo_has l D cB cI _ h1 f hf 92 5 (by decide) (by decide)) ⟨callB_of 3 hts g_Mo_has rfl rfl rfl (hts _ q1_5) (hts _ q2_123) h_Mo_has ⟨Nat.le_of_ble_eq_true rfl, Nat.le_of_ble_eq_true rfl⟩, (hts _ q2_124)⟩ ⟨kf_bl, kf_to hP hD hS hA hE [0] rfl rfl⟩ rfl rfl hl.1 rfl (lv_room (Nat.le_of_ble_eq_true rfl)) d_Mo_faultOfRest_67 ⟨Nat.zero_le _, Nat.zero_le _⟩) (fun H locs hP hS => ?_)
        refine W.eq (g2 := F0 m 70 ls [.int (kP (km_hasP f 92 5)), .long (lN (ky_le f 252 1))]) rfl ?_
        refine lv_if_eq (tgt := 77) hx hb d_Mo_faultOfRest_70 (by decide) (fun c70 => ?_) (fun c70 => ?_)
        · refine lv_lconst (v := 0) hx hb d_Mo_faultOfRest_77 (by decide) ?_
          refine kf_lc_eq (tgt := 86) hx hb d_Mo_faultOfRest_78 d_Mo_faultOfRest_79 (by decide) (fun c78 => ?_) (fun c78 => ?_)
          · refine lv_aload_n hx hb d_Mo_faultOfRest_86 rfl (lv_at hl 0 rfl) ?_
            refine lv_sipush (v := 254) hx hb d_Mo_faultOfRest_87 (by decide) ?_
            refine lv_iconst (v := 2) hx hb d_Mo_faultOfRest_90 (by decide) ?_
            refine kf_ro hP hD hS hA [0] rfl (va_runS (As := [.ref h1, .int 254, .int 2]) (rest := []) ⟨hx, hb, hml, hown, hts⟩ (c_Mo_field l D cB cI _ h1 f hf 254 2 (by decide)) ⟨callB_of 3 hts g_Mo_field rfl rfl rfl (hts _ q1_5) (hts _ q2_76) h_Mo_field ⟨Nat.le_of_ble_eq_true rfl, Nat.le_of_ble_eq_true rfl⟩, (hts _ q2_77)⟩ ⟨kf_bl, kf_to hP hD hS hA hE [0] rfl rfl⟩ rfl rfl hl.1 rfl (lv_room (Nat.le_of_ble_eq_true rfl)) d_Mo_faultOfRest_91 ⟨Nat.zero_le _, Nat.zero_le _⟩) (fun H locs hP hS => ?_)
            refine W.eq (g2 := F0 m 94 ls [.long (lN (ky_le f 254 2))]) rfl ?_
            refine lv_lconst (v := 0) hx hb d_Mo_faultOfRest_94 (by decide) ?_
            refine kf_lc_ne (tgt := 104) hx hb d_Mo_faultOfRest_95 d_Mo_faultOfRest_96 (by decide) (fun c95 => ?_) (fun c95 => ?_)
            · refine lv_sipush (v := 254) hx hb d_Mo_faultOfRest_104 (by decide) ?_
              have hc15 := by first | exact kP_ne c15 | exact kP_eq c15
              have hc70 := by first | exact kP_ne c70 | exact kP_eq c70
              exact kf_ir hx hb hr hlocks hP hD hS (by clear hP hD hS hA hE hts hl; unfold km_re; grind) d_Mo_faultOfRest_107
            · refine lv_bipush (v := -2) hx hb d_Mo_faultOfRest_99 (by decide) ?_
              refine lv_goto (tgt := 107) hx hb d_Mo_faultOfRest_101 (by decide) ?_
              have hc15 := by first | exact kP_ne c15 | exact kP_eq c15
              have hc70 := by first | exact kP_ne c70 | exact kP_eq c70
              exact kf_ir hx hb hr hlocks hP hD hS (by clear hP hD hS hA hE hts hl; unfold km_re; grind) d_Mo_faultOfRest_107
          · refine lv_sipush (v := 252) hx hb d_Mo_faultOfRest_82 (by decide) ?_
            have hc15 := by first | exact kP_ne c15 | exact kP_eq c15
            have hc70 := by first | exact kP_ne c70 | exact kP_eq c70
            exact kf_ir hx hb hr hlocks hP hD hS (by clear hP hD hS hA hE hts hl; unfold km_re; grind) d_Mo_faultOfRest_85
        · refine lv_lconst (v := 1) hx hb d_Mo_faultOfRest_73 (by decide) ?_
          refine lv_goto (tgt := 78) hx hb d_Mo_faultOfRest_74 (by decide) ?_
          refine kf_lc_eq (tgt := 86) hx hb d_Mo_faultOfRest_78 d_Mo_faultOfRest_79 (by decide) (fun c78 => ?_) (fun c78 => ?_)
          · refine lv_aload_n hx hb d_Mo_faultOfRest_86 rfl (lv_at hl 0 rfl) ?_
            refine lv_sipush (v := 254) hx hb d_Mo_faultOfRest_87 (by decide) ?_
            refine lv_iconst (v := 2) hx hb d_Mo_faultOfRest_90 (by decide) ?_
            refine kf_ro hP hD hS hA [0] rfl (va_runS (As := [.ref h1, .int 254, .int 2]) (rest := []) ⟨hx, hb, hml, hown, hts⟩ (c_Mo_field l D cB cI _ h1 f hf 254 2 (by decide)) ⟨callB_of 3 hts g_Mo_field rfl rfl rfl (hts _ q1_5) (hts _ q2_76) h_Mo_field ⟨Nat.le_of_ble_eq_true rfl, Nat.le_of_ble_eq_true rfl⟩, (hts _ q2_77)⟩ ⟨kf_bl, kf_to hP hD hS hA hE [0] rfl rfl⟩ rfl rfl hl.1 rfl (lv_room (Nat.le_of_ble_eq_true rfl)) d_Mo_faultOfRest_91 ⟨Nat.zero_le _, Nat.zero_le _⟩) (fun H locs hP hS => ?_)
            refine W.eq (g2 := F0 m 94 ls [.long (lN (ky_le f 254 2))]) rfl ?_
            refine lv_lconst (v := 0) hx hb d_Mo_faultOfRest_94 (by decide) ?_
            refine kf_lc_ne (tgt := 104) hx hb d_Mo_faultOfRest_95 d_Mo_faultOfRest_96 (by decide) (fun c95 => ?_) (fun c95 => ?_)
            · refine lv_sipush (v := 254) hx hb d_Mo_faultOfRest_104 (by decide) ?_
              have hc15 := by first | exact kP_ne c15 | exact kP_eq c15
              have hc70 := by first | exact kP_ne c70 | exact kP_eq c70
              exact kf_ir hx hb hr hlocks hP hD hS (by clear hP hD hS hA hE hts hl; unfold km_re; grind) d_Mo_faultOfRest_107
            · refine lv_bipush (v := -2) hx hb d_Mo_faultOfRest_99 (by decide) ?_
              refine lv_goto (tgt := 107) hx hb d_Mo_faultOfRest_101 (by decide) ?_
              have hc15 := by first | exact kP_ne c15 | exact kP_eq c15
              have hc70 := by first | exact kP_ne c70 | exact kP_eq c70
              exact kf_ir hx hb hr hlocks hP hD hS (by clear hP hD hS hA hE hts hl; unfold km_re; grind) d_Mo_faultOfRest_107
          · refine lv_sipush (v := 252) hx hb d_Mo_faultOfRest_82 (by decide) ?_
            have hc15 := by first | exact kP_ne c15 | exact kP_eq c15
            have hc70 := by first | exact kP_ne c70 | exact kP_eq c70
            exact kf_ir hx hb hr hlocks hP hD hS (by clear hP hD hS hA hE hts hl; unfold km_re; grind) d_Mo_faultOfRest_85
      · refine lv_sipush (v := 232) hx hb d_Mo_faultOfRest_51 (by decide) ?_
        have hc15 := by first | exact kP_ne c15 | exact kP_eq c15
        exact kf_ir hx hb hr hlocks hP hD hS (by clear hP hD hS hA hE hts hl; unfold km_re; grind) d_Mo_faultOfRest_54
    · refine lv_sipush (v := 224) hx hb d_Mo_faultOfRest_29 (by decide) ?_
      have hc15 := by first | exact kP_ne c15 | exact kP_eq c15
      exact kf_ir hx hb hr hlocks hP hD hS (by clear hP hD hS hA hE hts hl; unfold km_re; grind) d_Mo_faultOfRest_32
  · refine lv_ldc2 (v := 8) hx hb hown (hts _ q2_72) d_Mo_faultOfRest_18 ?_
    refine lv_goto (tgt := 25) hx hb d_Mo_faultOfRest_21 (by decide) ?_
    refine kf_lc_eq (tgt := 33) hx hb d_Mo_faultOfRest_25 d_Mo_faultOfRest_26 (by decide) (fun c25 => ?_) (fun c25 => ?_)
    · refine lv_aload_n hx hb d_Mo_faultOfRest_33 rfl (lv_at hl 0 rfl) ?_
      refine lv_sipush (v := 232) hx hb d_Mo_faultOfRest_34 (by decide) ?_
      refine lv_iconst (v := 4) hx hb d_Mo_faultOfRest_37 (by decide) ?_
      refine kf_ro hP hD hS hA [0] rfl (va_runS (As := [.ref h1, .int 232, .int 4]) (rest := []) ⟨hx, hb, hml, hown, hts⟩ (c_Mo_field l D cB cI _ h1 f hf 232 4 (by decide)) ⟨callB_of 3 hts g_Mo_field rfl rfl rfl (hts _ q1_5) (hts _ q2_76) h_Mo_field ⟨Nat.le_of_ble_eq_true rfl, Nat.le_of_ble_eq_true rfl⟩, (hts _ q2_77)⟩ ⟨kf_bl, kf_to hP hD hS hA hE [0] rfl rfl⟩ rfl rfl hl.1 rfl (lv_room (Nat.le_of_ble_eq_true rfl)) d_Mo_faultOfRest_38 ⟨Nat.zero_le _, Nat.zero_le _⟩) (fun H locs hP hS => ?_)
      refine W.eq (g2 := F0 m 41 ls [.long (lN (ky_le f 232 4))]) rfl ?_
      refine lv_aload_n hx hb d_Mo_faultOfRest_41 rfl (lv_at hl 0 rfl) ?_
      refine lv_iconst (v := 0) hx hb d_Mo_faultOfRest_42 (by decide) ?_
      refine lv_iconst (v := 4) hx hb d_Mo_faultOfRest_43 (by decide) ?_
      refine kf_ro hP hD hS hA [0] rfl (va_runS (As := [.ref h1, .int 0, .int 4]) (rest := [.long (lN (ky_le f 232 4))]) ⟨hx, hb, hml, hown, hts⟩ (c_Mo_field l D cB cI _ h1 f hf 0 4 (by decide)) ⟨callB_of 3 hts g_Mo_field rfl rfl rfl (hts _ q1_5) (hts _ q2_76) h_Mo_field ⟨Nat.le_of_ble_eq_true rfl, Nat.le_of_ble_eq_true rfl⟩, (hts _ q2_77)⟩ ⟨kf_bl, kf_to hP hD hS hA hE [0] rfl rfl⟩ rfl rfl hl.1 rfl (lv_room (Nat.le_of_ble_eq_true rfl)) d_Mo_faultOfRest_44 ⟨Nat.zero_le _, Nat.zero_le _⟩) (fun H locs hP hS => ?_)
      refine W.eq (g2 := F0 m 47 ls [.long (lN (ky_le f 0 4)), .long (lN (ky_le f 232 4))]) rfl ?_
      refine kf_lc_le (tgt := 55) hx hb d_Mo_faultOfRest_47 d_Mo_faultOfRest_48 (by decide) (fun c47 => ?_) (fun c47 => ?_)
      · refine lv_aload_n hx hb d_Mo_faultOfRest_55 rfl (lv_at hl 0 rfl) ?_
        refine lv_sipush (v := 252) hx hb d_Mo_faultOfRest_56 (by decide) ?_
        refine lv_iconst (v := 1) hx hb d_Mo_faultOfRest_59 (by decide) ?_
        refine kf_ro hP hD hS hA [0] rfl (va_runS (As := [.ref h1, .int 252, .int 1]) (rest := []) ⟨hx, hb, hml, hown, hts⟩ (c_Mo_field l D cB cI _ h1 f hf 252 1 (by decide)) ⟨callB_of 3 hts g_Mo_field rfl rfl rfl (hts _ q1_5) (hts _ q2_76) h_Mo_field ⟨Nat.le_of_ble_eq_true rfl, Nat.le_of_ble_eq_true rfl⟩, (hts _ q2_77)⟩ ⟨kf_bl, kf_to hP hD hS hA hE [0] rfl rfl⟩ rfl rfl hl.1 rfl (lv_room (Nat.le_of_ble_eq_true rfl)) d_Mo_faultOfRest_60 ⟨Nat.zero_le _, Nat.zero_le _⟩) (fun H locs hP hS => ?_)
        refine W.eq (g2 := F0 m 63 ls [.long (lN (ky_le f 252 1))]) rfl ?_
        refine lv_aload_n hx hb d_Mo_faultOfRest_63 rfl (lv_at hl 0 rfl) ?_
        refine lv_bipush (v := 92) hx hb d_Mo_faultOfRest_64 (by decide) ?_
        refine lv_iconst (v := 5) hx hb d_Mo_faultOfRest_66 (by decide) ?_
        refine kf_ro hP hD hS hA [0] rfl (va_runS (As := [.ref h1, .int 92, .int 5]) (rest := [.long (lN (ky_le f 252 1))]) ⟨hx, hb, hml, hown, hts⟩ (c_Mo_has l D cB cI _ h1 f hf 92 5 (by decide) (by decide)) ⟨callB_of 3 hts g_Mo_has rfl rfl rfl (hts _ q1_5) (hts _ q2_123) h_Mo_has ⟨Nat.le_of_ble_eq_true rfl, Nat.le_of_ble_eq_true rfl⟩, (hts _ q2_124)⟩ ⟨kf_bl, kf_to hP hD hS hA hE [0] rfl rfl⟩ rfl rfl hl.1 rfl (lv_room (Nat.le_of_ble_eq_true rfl)) d_Mo_faultOfRest_67 ⟨Nat.zero_le _, Nat.zero_le _⟩) (fun H locs hP hS => ?_)
        refine W.eq (g2 := F0 m 70 ls [.int (kP (km_hasP f 92 5)), .long (lN (ky_le f 252 1))]) rfl ?_
        refine lv_if_eq (tgt := 77) hx hb d_Mo_faultOfRest_70 (by decide) (fun c70 => ?_) (fun c70 => ?_)
        · refine lv_lconst (v := 0) hx hb d_Mo_faultOfRest_77 (by decide) ?_
          refine kf_lc_eq (tgt := 86) hx hb d_Mo_faultOfRest_78 d_Mo_faultOfRest_79 (by decide) (fun c78 => ?_) (fun c78 => ?_)
          · refine lv_aload_n hx hb d_Mo_faultOfRest_86 rfl (lv_at hl 0 rfl) ?_
            refine lv_sipush (v := 254) hx hb d_Mo_faultOfRest_87 (by decide) ?_
            refine lv_iconst (v := 2) hx hb d_Mo_faultOfRest_90 (by decide) ?_
            refine kf_ro hP hD hS hA [0] rfl (va_runS (As := [.ref h1, .int 254, .int 2]) (rest := []) ⟨hx, hb, hml, hown, hts⟩ (c_Mo_field l D cB cI _ h1 f hf 254 2 (by decide)) ⟨callB_of 3 hts g_Mo_field rfl rfl rfl (hts _ q1_5) (hts _ q2_76) h_Mo_field ⟨Nat.le_of_ble_eq_true rfl, Nat.le_of_ble_eq_true rfl⟩, (hts _ q2_77)⟩ ⟨kf_bl, kf_to hP hD hS hA hE [0] rfl rfl⟩ rfl rfl hl.1 rfl (lv_room (Nat.le_of_ble_eq_true rfl)) d_Mo_faultOfRest_91 ⟨Nat.zero_le _, Nat.zero_le _⟩) (fun H locs hP hS => ?_)
            refine W.eq (g2 := F0 m 94 ls [.long (lN (ky_le f 254 2))]) rfl ?_
            refine lv_lconst (v := 0) hx hb d_Mo_faultOfRest_94 (by decide) ?_
            refine kf_lc_ne (tgt := 104) hx hb d_Mo_faultOfRest_95 d_Mo_faultOfRest_96 (by decide) (fun c95 => ?_) (fun c95 => ?_)
            · refine lv_sipush (v := 254) hx hb d_Mo_faultOfRest_104 (by decide) ?_
              have hc15 := by first | exact kP_ne c15 | exact kP_eq c15
              have hc70 := by first | exact kP_ne c70 | exact kP_eq c70
              exact kf_ir hx hb hr hlocks hP hD hS (by clear hP hD hS hA hE hts hl; unfold km_re; grind) d_Mo_faultOfRest_107
            · refine lv_bipush (v := -2) hx hb d_Mo_faultOfRest_99 (by decide) ?_
              refine lv_goto (tgt := 107) hx hb d_Mo_faultOfRest_101 (by decide) ?_
              have hc15 := by first | exact kP_ne c15 | exact kP_eq c15
              have hc70 := by first | exact kP_ne c70 | exact kP_eq c70
              exact kf_ir hx hb hr hlocks hP hD hS (by clear hP hD hS hA hE hts hl; unfold km_re; grind) d_Mo_faultOfRest_107
          · refine lv_sipush (v := 252) hx hb d_Mo_faultOfRest_82 (by decide) ?_
            have hc15 := by first | exact kP_ne c15 | exact kP_eq c15
            have hc70 := by first | exact kP_ne c70 | exact kP_eq c70
            exact kf_ir hx hb hr hlocks hP hD hS (by clear hP hD hS hA hE hts hl; unfold km_re; grind) d_Mo_faultOfRest_85
        · refine lv_lconst (v := 1) hx hb d_Mo_faultOfRest_73 (by decide) ?_
          refine lv_goto (tgt := 78) hx hb d_Mo_faultOfRest_74 (by decide) ?_
          refine kf_lc_eq (tgt := 86) hx hb d_Mo_faultOfRest_78 d_Mo_faultOfRest_79 (by decide) (fun c78 => ?_) (fun c78 => ?_)
          · refine lv_aload_n hx hb d_Mo_faultOfRest_86 rfl (lv_at hl 0 rfl) ?_
            refine lv_sipush (v := 254) hx hb d_Mo_faultOfRest_87 (by decide) ?_
            refine lv_iconst (v := 2) hx hb d_Mo_faultOfRest_90 (by decide) ?_
            refine kf_ro hP hD hS hA [0] rfl (va_runS (As := [.ref h1, .int 254, .int 2]) (rest := []) ⟨hx, hb, hml, hown, hts⟩ (c_Mo_field l D cB cI _ h1 f hf 254 2 (by decide)) ⟨callB_of 3 hts g_Mo_field rfl rfl rfl (hts _ q1_5) (hts _ q2_76) h_Mo_field ⟨Nat.le_of_ble_eq_true rfl, Nat.le_of_ble_eq_true rfl⟩, (hts _ q2_77)⟩ ⟨kf_bl, kf_to hP hD hS hA hE [0] rfl rfl⟩ rfl rfl hl.1 rfl (lv_room (Nat.le_of_ble_eq_true rfl)) d_Mo_faultOfRest_91 ⟨Nat.zero_le _, Nat.zero_le _⟩) (fun H locs hP hS => ?_)
            refine W.eq (g2 := F0 m 94 ls [.long (lN (ky_le f 254 2))]) rfl ?_
            refine lv_lconst (v := 0) hx hb d_Mo_faultOfRest_94 (by decide) ?_
            refine kf_lc_ne (tgt := 104) hx hb d_Mo_faultOfRest_95 d_Mo_faultOfRest_96 (by decide) (fun c95 => ?_) (fun c95 => ?_)
            · refine lv_sipush (v := 254) hx hb d_Mo_faultOfRest_104 (by decide) ?_
              have hc15 := by first | exact kP_ne c15 | exact kP_eq c15
              have hc70 := by first | exact kP_ne c70 | exact kP_eq c70
              exact kf_ir hx hb hr hlocks hP hD hS (by clear hP hD hS hA hE hts hl; unfold km_re; grind) d_Mo_faultOfRest_107
            · refine lv_bipush (v := -2) hx hb d_Mo_faultOfRest_99 (by decide) ?_
              refine lv_goto (tgt := 107) hx hb d_Mo_faultOfRest_101 (by decide) ?_
              have hc15 := by first | exact kP_ne c15 | exact kP_eq c15
              have hc70 := by first | exact kP_ne c70 | exact kP_eq c70
              exact kf_ir hx hb hr hlocks hP hD hS (by clear hP hD hS hA hE hts hl; unfold km_re; grind) d_Mo_faultOfRest_107
          · refine lv_sipush (v := 252) hx hb d_Mo_faultOfRest_82 (by decide) ?_
            have hc15 := by first | exact kP_ne c15 | exact kP_eq c15
            have hc70 := by first | exact kP_ne c70 | exact kP_eq c70
            exact kf_ir hx hb hr hlocks hP hD hS (by clear hP hD hS hA hE hts hl; unfold km_re; grind) d_Mo_faultOfRest_85
      · refine lv_sipush (v := 232) hx hb d_Mo_faultOfRest_51 (by decide) ?_
        have hc15 := by first | exact kP_ne c15 | exact kP_eq c15
        exact kf_ir hx hb hr hlocks hP hD hS (by clear hP hD hS hA hE hts hl; unfold km_re; grind) d_Mo_faultOfRest_54
    · refine lv_sipush (v := 224) hx hb d_Mo_faultOfRest_29 (by decide) ?_
      have hc15 := by first | exact kP_ne c15 | exact kP_eq c15
      exact kf_ir hx hb hr hlocks hP hD hS (by clear hP hD hS hA hE hts hl; unfold km_re; grind) d_Mo_faultOfRest_32

set_option maxRecDepth 100000 in
set_option maxHeartbeats 4000000 in
theorem c_Mo_faultOf (l : Launch) (D : va_G) (cB cI : ClassId) (hz : Nat) (h1 : Nat) (f : Nat → Int32) (hf : km_ok f) : kf_Ct l y_Mo_faultOf w_Mo_faultOf 7 164 0 0 D (kT cB cI) [.ref h1] [(h1, .inl (cI, 1024, .inl f))] hz (some (.int (km_fault f))) (kf_po D [(h1, .inl (cI, 1024, .inl f))]) := by
  refine kf_of (cc := b_Mo_faultOf) (maxL := 2) (ret := (some .int)) (by decide) rfl (Nat.le_of_ble_eq_true rfl) ?_
  intro p e s m below meth c A H locs hx hb hr hml hown hts hlocks hin hP hD hS hA hE ls hl
  have hl : lv_has ls 2 [(0, .ref h1)] := hl
  refine lv_aload_n hx hb d_Mo_faultOf_0 rfl (lv_at hl 0 rfl) ?_
  refine kf_ro hP hD hS hA [0] rfl (va_runS (As := [.ref h1]) (rest := []) ⟨hx, hb, hml, hown, hts⟩ (c_Mo_faultOfSizes l D cB cI _ h1 f hf  ) ⟨callB_of 1 hts g_Mo_faultOfSizes rfl rfl rfl (hts _ q1_5) (hts _ q2_86) h_Mo_faultOfSizes ⟨Nat.le_of_ble_eq_true rfl, Nat.le_of_ble_eq_true rfl⟩, (hts _ q2_87)⟩ ⟨kf_bl, kf_to hP hD hS hA hE [0] rfl rfl⟩ rfl rfl hl.1 rfl (lv_room (Nat.le_of_ble_eq_true rfl)) d_Mo_faultOf_1 ⟨Nat.zero_le _, Nat.zero_le _⟩) (fun H locs hP hS => ?_)
  refine W.eq (g2 := F0 m 4 ls [.int (km_sz f)]) rfl ?_
  refine lv_istore_n (lv' := [(1, .int (km_sz f)), (0, .ref h1)]) hx hb d_Mo_faultOf_4 rfl hl (by decide) rfl (fun ls hl => ?_)
  refine lv_iload_n hx hb d_Mo_faultOf_5 rfl (lv_at hl 0 rfl) ?_
  refine lv_bipush (v := -2) hx hb d_Mo_faultOf_6 (by decide) ?_
  refine lv_icmp_ne (tgt := 18) hx hb d_Mo_faultOf_8 (by decide) (fun c8 => ?_) (fun c8 => ?_)
  · refine lv_iload_n hx hb d_Mo_faultOf_18 rfl (lv_at hl 0 rfl) ?_
    refine lv_istore_n (lv' := [(1, .int (km_sz f)), (0, .ref h1)]) hx hb d_Mo_faultOf_19 rfl hl (by decide) rfl (fun ls hl => ?_)
    refine lv_iload_n hx hb d_Mo_faultOf_20 rfl (lv_at hl 0 rfl) ?_
    refine lv_bipush (v := -2) hx hb d_Mo_faultOf_21 (by decide) ?_
    refine lv_icmp_ne (tgt := 33) hx hb d_Mo_faultOf_23 (by decide) (fun c23 => ?_) (fun c23 => absurd c23 c8)
    refine lv_iload_n hx hb d_Mo_faultOf_33 rfl (lv_at hl 0 rfl) ?_
    refine lv_istore_n (lv' := [(1, .int (km_sz f)), (0, .ref h1)]) hx hb d_Mo_faultOf_34 rfl hl (by decide) rfl (fun ls hl => ?_)
    refine lv_iload_n hx hb d_Mo_faultOf_35 rfl (lv_at hl 0 rfl) ?_
    refine lv_bipush (v := -2) hx hb d_Mo_faultOf_36 (by decide) ?_
    refine lv_icmp_ne (tgt := 48) hx hb d_Mo_faultOf_38 (by decide) (fun c38 => ?_) (fun c38 => absurd c38 c8)
    refine lv_iload_n hx hb d_Mo_faultOf_48 rfl (lv_at hl 0 rfl) ?_
    exact kf_ir hx hb hr hlocks hP hD hS (by clear hP hD hS hA hE hts hl; unfold km_fault; grind) d_Mo_faultOf_49
  · have hI := km_szI c8
    have hI2 := km_size1 hI.1
    refine lv_aload_n hx hb d_Mo_faultOf_11 rfl (lv_at hl 1 rfl) ?_
    refine kf_ro hP hD hS hA [0] rfl (va_runS (As := [.ref h1]) (rest := []) ⟨hx, hb, hml, hown, hts⟩ (c_Mo_faultOfCounts l D cB cI _ h1 f hf  hI.2 hI2) ⟨callB_of 1 hts g_Mo_faultOfCounts rfl rfl rfl (hts _ q1_5) (hts _ q2_101) h_Mo_faultOfCounts ⟨Nat.le_of_ble_eq_true rfl, Nat.le_of_ble_eq_true rfl⟩, (hts _ q2_102)⟩ ⟨kf_bl, kf_to hP hD hS hA hE [0] rfl rfl⟩ rfl rfl hl.1 rfl (lv_room (Nat.le_of_ble_eq_true rfl)) d_Mo_faultOf_12 ⟨Nat.zero_le _, Nat.zero_le _⟩) (fun H locs hP hS => ?_)
    refine W.eq (g2 := F0 m 15 ls [.int (km_ct f)]) rfl ?_
    refine lv_goto (tgt := 19) hx hb d_Mo_faultOf_15 (by decide) ?_
    refine lv_istore_n (lv' := [(1, .int (km_ct f)), (0, .ref h1)]) hx hb d_Mo_faultOf_19 rfl hl (by decide) rfl (fun ls hl => ?_)
    refine lv_iload_n hx hb d_Mo_faultOf_20 rfl (lv_at hl 0 rfl) ?_
    refine lv_bipush (v := -2) hx hb d_Mo_faultOf_21 (by decide) ?_
    refine lv_icmp_ne (tgt := 33) hx hb d_Mo_faultOf_23 (by decide) (fun c23 => ?_) (fun c23 => ?_)
    · refine lv_iload_n hx hb d_Mo_faultOf_33 rfl (lv_at hl 0 rfl) ?_
      refine lv_istore_n (lv' := [(1, .int (km_ct f)), (0, .ref h1)]) hx hb d_Mo_faultOf_34 rfl hl (by decide) rfl (fun ls hl => ?_)
      refine lv_iload_n hx hb d_Mo_faultOf_35 rfl (lv_at hl 0 rfl) ?_
      refine lv_bipush (v := -2) hx hb d_Mo_faultOf_36 (by decide) ?_
      refine lv_icmp_ne (tgt := 48) hx hb d_Mo_faultOf_38 (by decide) (fun c38 => ?_) (fun c38 => absurd c38 c23)
      refine lv_iload_n hx hb d_Mo_faultOf_48 rfl (lv_at hl 0 rfl) ?_
      exact kf_ir hx hb hr hlocks hP hD hS (by clear hP hD hS hA hE hts hl; unfold km_fault; grind) d_Mo_faultOf_49
    · refine lv_aload_n hx hb d_Mo_faultOf_26 rfl (lv_at hl 1 rfl) ?_
      refine kf_ro hP hD hS hA [0] rfl (va_runS (As := [.ref h1]) (rest := []) ⟨hx, hb, hml, hown, hts⟩ (c_Mo_faultOfFeatures l D cB cI _ h1 f hf  ) ⟨callB_of 1 hts g_Mo_faultOfFeatures rfl rfl rfl (hts _ q1_5) (hts _ q2_135) h_Mo_faultOfFeatures ⟨Nat.le_of_ble_eq_true rfl, Nat.le_of_ble_eq_true rfl⟩, (hts _ q2_136)⟩ ⟨kf_bl, kf_to hP hD hS hA hE [0] rfl rfl⟩ rfl rfl hl.1 rfl (lv_room (Nat.le_of_ble_eq_true rfl)) d_Mo_faultOf_27 ⟨Nat.zero_le _, Nat.zero_le _⟩) (fun H locs hP hS => ?_)
      refine W.eq (g2 := F0 m 30 ls [.int (km_out f 3)]) rfl ?_
      refine lv_goto (tgt := 34) hx hb d_Mo_faultOf_30 (by decide) ?_
      refine lv_istore_n (lv' := [(1, .int (km_out f 3)), (0, .ref h1)]) hx hb d_Mo_faultOf_34 rfl hl (by decide) rfl (fun ls hl => ?_)
      refine lv_iload_n hx hb d_Mo_faultOf_35 rfl (lv_at hl 0 rfl) ?_
      refine lv_bipush (v := -2) hx hb d_Mo_faultOf_36 (by decide) ?_
      refine lv_icmp_ne (tgt := 48) hx hb d_Mo_faultOf_38 (by decide) (fun c38 => ?_) (fun c38 => ?_)
      · refine lv_iload_n hx hb d_Mo_faultOf_48 rfl (lv_at hl 0 rfl) ?_
        exact kf_ir hx hb hr hlocks hP hD hS (by clear hP hD hS hA hE hts hl; unfold km_fault; grind) d_Mo_faultOf_49
      · refine lv_aload_n hx hb d_Mo_faultOf_41 rfl (lv_at hl 1 rfl) ?_
        refine kf_ro hP hD hS hA [0] rfl (va_runS (As := [.ref h1]) (rest := []) ⟨hx, hb, hml, hown, hts⟩ (c_Mo_faultOfRest l D cB cI _ h1 f hf  ) ⟨callB_of 1 hts g_Mo_faultOfRest rfl rfl rfl (hts _ q1_5) (hts _ q2_141) h_Mo_faultOfRest ⟨Nat.le_of_ble_eq_true rfl, Nat.le_of_ble_eq_true rfl⟩, (hts _ q2_142)⟩ ⟨kf_bl, kf_to hP hD hS hA hE [0] rfl rfl⟩ rfl rfl hl.1 rfl (lv_room (Nat.le_of_ble_eq_true rfl)) d_Mo_faultOf_42 ⟨Nat.zero_le _, Nat.zero_le _⟩) (fun H locs hP hS => ?_)
        refine W.eq (g2 := F0 m 45 ls [.int (km_re f)]) rfl ?_
        refine lv_goto (tgt := 49) hx hb d_Mo_faultOf_45 (by decide) ?_
        exact kf_ir hx hb hr hlocks hP hD hS (by clear hP hD hS hA hE hts hl; unfold km_fault; grind) d_Mo_faultOf_49

set_option maxRecDepth 100000 in
set_option maxHeartbeats 4000000 in
theorem c_Mo_rowOf_0 (l : Launch) (D : va_G) (cB cI : ClassId) (hz : Nat) (y : Nat) (a0 : Nat) (a1 : Nat) (a2 : Nat) : kf_Ct l y_Mo_rowOf w_Mo_rowOf 0 0 0 0 D (kT cB cI) [.ref y, .int 0] [(y, .inr (3, [.ref a0, .ref a1, .ref a2]))] hz (some (.ref a0)) (kf_po D [(y, .inr (3, [.ref a0, .ref a1, .ref a2]))]) := by
  refine kf_of (cc := b_Mo_rowOf) (maxL := 2) (ret := (some (.array .int))) (by decide) rfl (Nat.le_of_ble_eq_true rfl) ?_
  intro p e s m below meth c A H locs hx hb hr hml hown hts hlocks hin hP hD hS hA hE ls hl
  have hl : lv_has ls 2 [(0, .ref y), (1, .int 0)] := hl
  refine lv_iload_n hx hb d_Mo_rowOf_0 rfl (lv_at hl 1 rfl) ?_
  refine lv_if_ne (tgt := 11) hx hb d_Mo_rowOf_1 (by decide) (fun c1 => absurd rfl c1) (fun c1 => ?_)
  refine lv_aload_n hx hb d_Mo_rowOf_4 rfl (lv_at hl 0 rfl) ?_
  refine va_get (D := D) (ci := 3) (v := .ref a0) (C := "FieldRowsModel") (T := F_Mo) (N := 3) hx hb hts ku_Mo hown hE.1 hP 0 rfl rfl 0 (by decide) (hts _ q2_144) (fun _ h9 => h9) rfl d_Mo_rowOf_5 ?_
  refine lv_goto (tgt := 15) hx hb d_Mo_rowOf_8 (by decide) ?_
  exact kf_ar hx hb hr hlocks (Or.inr ⟨_, rfl⟩) (Or.inr ⟨_, rfl⟩) hP hD hS d_Mo_rowOf_15

set_option maxRecDepth 100000 in
set_option maxHeartbeats 4000000 in
theorem c_Mo_rowOf_1 (l : Launch) (D : va_G) (cB cI : ClassId) (hz : Nat) (y : Nat) (a0 : Nat) (a1 : Nat) (a2 : Nat) : kf_Ct l y_Mo_rowOf w_Mo_rowOf 0 0 0 0 D (kT cB cI) [.ref y, .int 1] [(y, .inr (3, [.ref a0, .ref a1, .ref a2]))] hz (some (.ref a1)) (kf_po D [(y, .inr (3, [.ref a0, .ref a1, .ref a2]))]) := by
  refine kf_of (cc := b_Mo_rowOf) (maxL := 2) (ret := (some (.array .int))) (by decide) rfl (Nat.le_of_ble_eq_true rfl) ?_
  intro p e s m below meth c A H locs hx hb hr hml hown hts hlocks hin hP hD hS hA hE ls hl
  have hl : lv_has ls 2 [(0, .ref y), (1, .int 1)] := hl
  refine lv_iload_n hx hb d_Mo_rowOf_0 rfl (lv_at hl 1 rfl) ?_
  refine lv_if_ne (tgt := 11) hx hb d_Mo_rowOf_1 (by decide) (fun c1 => ?_) (fun c1 => absurd c1 (by decide))
  refine lv_aload_n hx hb d_Mo_rowOf_11 rfl (lv_at hl 0 rfl) ?_
  refine va_get (D := D) (ci := 3) (v := .ref a1) (C := "FieldRowsModel") (T := F_Mo) (N := 3) hx hb hts ku_Mo hown hE.1 hP 0 rfl rfl 1 (by decide) (hts _ q2_145) (fun _ h9 => h9) rfl d_Mo_rowOf_12 ?_
  exact kf_ar hx hb hr hlocks (Or.inr ⟨_, rfl⟩) (Or.inr ⟨_, rfl⟩) hP hD hS d_Mo_rowOf_15

set_option maxRecDepth 100000 in
set_option maxHeartbeats 4000000 in
theorem c_Mo_isRight (l : Launch) (D : va_G) (cB cI : ClassId) (hz : Nat) (y : Nat) (a0 : Nat) (a1 : Nat) (a2 : Nat) (g0 : Nat → Int32) (hg0 : km_ok g0) : kf_Ct l y_Mo_isRight w_Mo_isRight 8 185 0 0 D (kT cB cI) [.ref y] [(y, .inr (3, [.ref a0, .ref a1, .ref a2])), (a0, .inl (cI, 1024, .inl g0))] hz (some (.int (kP (km_fault g0 = -2)))) (kf_po D [(y, .inr (3, [.ref a0, .ref a1, .ref a2])), (a0, .inl (cI, 1024, .inl g0))]) := by
  refine kf_of (cc := b_Mo_isRight) (maxL := 1) (ret := (some .boolean)) (by decide) rfl (Nat.le_of_ble_eq_true rfl) ?_
  intro p e s m below meth c A H locs hx hb hr hml hown hts hlocks hin hP hD hS hA hE ls hl
  have hl : lv_has ls 1 [(0, .ref y)] := hl
  refine lv_aload_n hx hb d_Mo_isRight_0 rfl (lv_at hl 0 rfl) ?_
  refine va_get (D := D) (ci := 3) (v := .ref a0) (C := "FieldRowsModel") (T := F_Mo) (N := 3) hx hb hts ku_Mo hown hE.1 hP 0 rfl rfl 0 (by decide) (hts _ q2_144) (fun _ h9 => h9) rfl d_Mo_isRight_1 ?_
  refine kf_ro hP hD hS hA [1] rfl (va_runS (As := [.ref a0]) (rest := []) ⟨hx, hb, hml, hown, hts⟩ (c_Mo_faultOf l D cB cI _ a0 g0 hg0  ) ⟨callB_of 1 hts g_Mo_faultOf rfl rfl rfl (hts _ q1_5) (hts _ q2_83) h_Mo_faultOf ⟨Nat.le_of_ble_eq_true rfl, Nat.le_of_ble_eq_true rfl⟩, (hts _ q2_84)⟩ ⟨kf_bl, kf_to hP hD hS hA hE [1] rfl rfl⟩ rfl rfl hl.1 rfl (lv_room (Nat.le_of_ble_eq_true rfl)) d_Mo_isRight_4 ⟨Nat.zero_le _, Nat.zero_le _⟩) (fun H locs hP hS => ?_)
  refine W.eq (g2 := F0 m 7 ls [.int (km_fault g0)]) rfl ?_
  refine lv_bipush (v := -2) hx hb d_Mo_isRight_7 (by decide) ?_
  refine lv_icmp_ne (tgt := 16) hx hb d_Mo_isRight_9 (by decide) (fun c9 => ?_) (fun c9 => ?_)
  · refine lv_iconst (v := 0) hx hb d_Mo_isRight_16 (by decide) ?_
    exact kf_zr hx hb hr hlocks hP hD hS (kP_f c9) (kP_nar) d_Mo_isRight_17
  · refine lv_iconst (v := 1) hx hb d_Mo_isRight_12 (by decide) ?_
    refine lv_goto (tgt := 17) hx hb d_Mo_isRight_13 (by decide) ?_
    exact kf_zr hx hb hr hlocks hP hD hS (kP_t c9) (kP_nar) d_Mo_isRight_17

set_option maxRecDepth 100000 in
set_option maxHeartbeats 4000000 in
theorem c_Mo_isField (l : Launch) (D : va_G) (cB cI : ClassId) (hz : Nat) (p0 : Int32) (p1 : Int32) (p2 : Int32) : kf_Ct l y_Mo_isField w_Mo_isField 1 20 0 0 D (kT cB cI) [.int p0, .int p1, .int p2] [] hz (some (.int (kP ((p0 = 0 ∨ p0 = 1) ∧ ky_isFP p1 p2)))) (kf_po D []) := by
  refine kf_of (cc := b_Mo_isField) (maxL := 3) (ret := (some .boolean)) (by decide) rfl (Nat.le_of_ble_eq_true rfl) ?_
  intro p e s m below meth c A H locs hx hb hr hml hown hts hlocks hin hP hD hS hA hE ls hl
  have hl : lv_has ls 3 [(0, .int p0), (1, .int p1), (2, .int p2)] := hl
  refine lv_iload_n hx hb d_Mo_isField_0 rfl (lv_at hl 0 rfl) ?_
  refine kf_ro hP hD hS hA [] rfl (va_runS (As := [.int p0]) (rest := []) ⟨hx, hb, hml, hown, hts⟩ (c_Mo_isRow l D cB cI _ p0) ⟨callB_of 1 hts g_Mo_isRow rfl rfl rfl (hts _ q1_5) (hts _ q2_160) h_Mo_isRow ⟨Nat.le_of_ble_eq_true rfl, Nat.le_of_ble_eq_true rfl⟩, (hts _ q2_161)⟩ ⟨kf_bl, kf_to hP hD hS hA hE [] rfl rfl⟩ rfl rfl hl.1 rfl (lv_room (Nat.le_of_ble_eq_true rfl)) d_Mo_isField_1 ⟨Nat.zero_le _, Nat.zero_le _⟩) (fun H locs hP hS => ?_)
  refine W.eq (g2 := F0 m 4 ls [.int (kP (p0 = 0 ∨ p0 = 1))]) rfl ?_
  refine lv_if_eq (tgt := 39) hx hb d_Mo_isField_4 (by decide) (fun c4 => ?_) (fun c4 => ?_)
  · refine lv_iconst (v := 0) hx hb d_Mo_isField_39 (by decide) ?_
    have hc4 := by first | exact kP_ne c4 | exact kP_eq c4
    exact kf_zr hx hb hr hlocks hP hD hS (kP_f (by clear hP hD hS hA hE hts hl; grind)) (kP_nar) d_Mo_isField_40
  · refine lv_iload_n hx hb d_Mo_isField_7 rfl (lv_at hl 2 rfl) ?_
    refine lv_iconst (v := 1) hx hb d_Mo_isField_8 (by decide) ?_
    refine lv_icmp_eq (tgt := 22) hx hb d_Mo_isField_9 (by decide) (fun c9 => ?_) (fun c9 => ?_)
    · refine lv_iload_n hx hb d_Mo_isField_22 rfl (lv_at hl 1 rfl) ?_
      refine lv_if_lt (tgt := 39) hx hb d_Mo_isField_23 (by decide) (fun c23 => ?_) (fun c23 => ?_)
      · refine lv_iconst (v := 0) hx hb d_Mo_isField_39 (by decide) ?_
        have hc4 := by first | exact kP_ne c4 | exact kP_eq c4
        exact kf_zr hx hb hr hlocks hP hD hS (kP_f (by clear hP hD hS hA hE hts hl; grind)) (kP_nar) d_Mo_isField_40
      · refine lv_iload_n hx hb d_Mo_isField_26 rfl (lv_at hl 1 rfl) ?_
        refine lv_sipush (v := 1024) hx hb d_Mo_isField_27 (by decide) ?_
        refine lv_iload_n hx hb d_Mo_isField_30 rfl (lv_at hl 2 rfl) ?_
        refine lv_isub hx hb d_Mo_isField_31 ?_
        refine lv_icmp_gt (tgt := 39) hx hb d_Mo_isField_32 (by decide) (fun c32 => ?_) (fun c32 => ?_)
        · refine lv_iconst (v := 0) hx hb d_Mo_isField_39 (by decide) ?_
          have hc4 := by first | exact kP_ne c4 | exact kP_eq c4
          exact kf_zr hx hb hr hlocks hP hD hS (kP_f (by clear hP hD hS hA hE hts hl; grind)) (kP_nar) d_Mo_isField_40
        · refine lv_iconst (v := 1) hx hb d_Mo_isField_35 (by decide) ?_
          refine lv_goto (tgt := 40) hx hb d_Mo_isField_36 (by decide) ?_
          have hc4 := by first | exact kP_ne c4 | exact kP_eq c4
          exact kf_zr hx hb hr hlocks hP hD hS (kP_t (by clear hP hD hS hA hE hts hl; grind)) (kP_nar) d_Mo_isField_40
    · refine lv_iload_n hx hb d_Mo_isField_12 rfl (lv_at hl 2 rfl) ?_
      refine lv_iconst (v := 2) hx hb d_Mo_isField_13 (by decide) ?_
      refine lv_icmp_eq (tgt := 22) hx hb d_Mo_isField_14 (by decide) (fun c14 => ?_) (fun c14 => ?_)
      · refine lv_iload_n hx hb d_Mo_isField_22 rfl (lv_at hl 1 rfl) ?_
        refine lv_if_lt (tgt := 39) hx hb d_Mo_isField_23 (by decide) (fun c23 => ?_) (fun c23 => ?_)
        · refine lv_iconst (v := 0) hx hb d_Mo_isField_39 (by decide) ?_
          have hc4 := by first | exact kP_ne c4 | exact kP_eq c4
          exact kf_zr hx hb hr hlocks hP hD hS (kP_f (by clear hP hD hS hA hE hts hl; grind)) (kP_nar) d_Mo_isField_40
        · refine lv_iload_n hx hb d_Mo_isField_26 rfl (lv_at hl 1 rfl) ?_
          refine lv_sipush (v := 1024) hx hb d_Mo_isField_27 (by decide) ?_
          refine lv_iload_n hx hb d_Mo_isField_30 rfl (lv_at hl 2 rfl) ?_
          refine lv_isub hx hb d_Mo_isField_31 ?_
          refine lv_icmp_gt (tgt := 39) hx hb d_Mo_isField_32 (by decide) (fun c32 => ?_) (fun c32 => ?_)
          · refine lv_iconst (v := 0) hx hb d_Mo_isField_39 (by decide) ?_
            have hc4 := by first | exact kP_ne c4 | exact kP_eq c4
            exact kf_zr hx hb hr hlocks hP hD hS (kP_f (by clear hP hD hS hA hE hts hl; grind)) (kP_nar) d_Mo_isField_40
          · refine lv_iconst (v := 1) hx hb d_Mo_isField_35 (by decide) ?_
            refine lv_goto (tgt := 40) hx hb d_Mo_isField_36 (by decide) ?_
            have hc4 := by first | exact kP_ne c4 | exact kP_eq c4
            exact kf_zr hx hb hr hlocks hP hD hS (kP_t (by clear hP hD hS hA hE hts hl; grind)) (kP_nar) d_Mo_isField_40
      · refine lv_iload_n hx hb d_Mo_isField_17 rfl (lv_at hl 2 rfl) ?_
        refine lv_iconst (v := 4) hx hb d_Mo_isField_18 (by decide) ?_
        refine lv_icmp_ne (tgt := 39) hx hb d_Mo_isField_19 (by decide) (fun c19 => ?_) (fun c19 => ?_)
        · refine lv_iconst (v := 0) hx hb d_Mo_isField_39 (by decide) ?_
          have hc4 := by first | exact kP_ne c4 | exact kP_eq c4
          exact kf_zr hx hb hr hlocks hP hD hS (kP_f (by clear hP hD hS hA hE hts hl; grind)) (kP_nar) d_Mo_isField_40
        · refine lv_iload_n hx hb d_Mo_isField_22 rfl (lv_at hl 1 rfl) ?_
          refine lv_if_lt (tgt := 39) hx hb d_Mo_isField_23 (by decide) (fun c23 => ?_) (fun c23 => ?_)
          · refine lv_iconst (v := 0) hx hb d_Mo_isField_39 (by decide) ?_
            have hc4 := by first | exact kP_ne c4 | exact kP_eq c4
            exact kf_zr hx hb hr hlocks hP hD hS (kP_f (by clear hP hD hS hA hE hts hl; grind)) (kP_nar) d_Mo_isField_40
          · refine lv_iload_n hx hb d_Mo_isField_26 rfl (lv_at hl 1 rfl) ?_
            refine lv_sipush (v := 1024) hx hb d_Mo_isField_27 (by decide) ?_
            refine lv_iload_n hx hb d_Mo_isField_30 rfl (lv_at hl 2 rfl) ?_
            refine lv_isub hx hb d_Mo_isField_31 ?_
            refine lv_icmp_gt (tgt := 39) hx hb d_Mo_isField_32 (by decide) (fun c32 => ?_) (fun c32 => ?_)
            · refine lv_iconst (v := 0) hx hb d_Mo_isField_39 (by decide) ?_
              have hc4 := by first | exact kP_ne c4 | exact kP_eq c4
              exact kf_zr hx hb hr hlocks hP hD hS (kP_f (by clear hP hD hS hA hE hts hl; grind)) (kP_nar) d_Mo_isField_40
            · refine lv_iconst (v := 1) hx hb d_Mo_isField_35 (by decide) ?_
              refine lv_goto (tgt := 40) hx hb d_Mo_isField_36 (by decide) ?_
              have hc4 := by first | exact kP_ne c4 | exact kP_eq c4
              exact kf_zr hx hb hr hlocks hP hD hS (kP_t (by clear hP hD hS hA hE hts hl; grind)) (kP_nar) d_Mo_isField_40

set_option maxRecDepth 100000 in
set_option maxHeartbeats 4000000 in
theorem c_Mo_mayDiffer (l : Launch) (D : va_G) (cB cI : ClassId) (hz : Nat) (p0 : Int32) : kf_Ct l y_Mo_mayDiffer w_Mo_mayDiffer 1 25 0 0 D (kT cB cI) [.int p0] [] hz (some (.int (kP (km_mdP p0)))) (kf_po D []) := by
  refine kf_of (cc := b_Mo_mayDiffer) (maxL := 1) (ret := (some .boolean)) (by decide) rfl (Nat.le_of_ble_eq_true rfl) ?_
  intro p e s m below meth c A H locs hx hb hr hml hown hts hlocks hin hP hD hS hA hE ls hl
  have hl : lv_has ls 1 [(0, .int p0)] := hl
  refine lv_iload_n hx hb d_Mo_mayDiffer_0 rfl (lv_at hl 0 rfl) ?_
  refine lv_i2l hx hb d_Mo_mayDiffer_1 rfl ?_
  refine lv_ldc2 (v := 12) hx hb hown (hts _ q2_198) d_Mo_mayDiffer_2 ?_
  refine lv_ldc2 (v := 19) hx hb hown (hts _ q2_199) d_Mo_mayDiffer_5 ?_
  refine kf_ro hP hD hS hA [] rfl (va_runS (As := [.long p0.toInt64, .long 12, .long 19]) (rest := []) ⟨hx, hb, hml, hown, hts⟩ (c_Mo_isIn l D cB cI _ p0.toInt64 12 19) ⟨callB_of 3 hts g_Mo_isIn rfl rfl rfl (hts _ q1_5) (hts _ q2_95) h_Mo_isIn ⟨Nat.le_of_ble_eq_true rfl, Nat.le_of_ble_eq_true rfl⟩, (hts _ q2_96)⟩ ⟨kf_bl, kf_to hP hD hS hA hE [] rfl rfl⟩ rfl rfl hl.1 rfl (lv_room (Nat.le_of_ble_eq_true rfl)) d_Mo_mayDiffer_8 ⟨Nat.zero_le _, Nat.zero_le _⟩) (fun H locs hP hS => ?_)
  refine W.eq (g2 := F0 m 11 ls [.int (kP (km_inP p0.toInt64 12 19))]) rfl ?_
  refine lv_if_ne (tgt := 70) hx hb d_Mo_mayDiffer_11 (by decide) (fun c11 => ?_) (fun c11 => ?_)
  · refine lv_iconst (v := 1) hx hb d_Mo_mayDiffer_70 (by decide) ?_
    refine lv_goto (tgt := 75) hx hb d_Mo_mayDiffer_71 (by decide) ?_
    have hc11 := by first | exact kP_ne c11 | exact kP_eq c11
    exact kf_zr hx hb hr hlocks hP hD hS (kP_t (by clear hP hD hS hA hE hts hl; grind)) (kP_nar) d_Mo_mayDiffer_75
  · refine lv_iload_n hx hb d_Mo_mayDiffer_14 rfl (lv_at hl 0 rfl) ?_
    refine lv_i2l hx hb d_Mo_mayDiffer_15 rfl ?_
    refine lv_ldc2 (v := 44) hx hb hown (hts _ q2_200) d_Mo_mayDiffer_16 ?_
    refine lv_ldc2 (v := 53) hx hb hown (hts _ q2_201) d_Mo_mayDiffer_19 ?_
    refine kf_ro hP hD hS hA [] rfl (va_runS (As := [.long p0.toInt64, .long 44, .long 53]) (rest := []) ⟨hx, hb, hml, hown, hts⟩ (c_Mo_isIn l D cB cI _ p0.toInt64 44 53) ⟨callB_of 3 hts g_Mo_isIn rfl rfl rfl (hts _ q1_5) (hts _ q2_95) h_Mo_isIn ⟨Nat.le_of_ble_eq_true rfl, Nat.le_of_ble_eq_true rfl⟩, (hts _ q2_96)⟩ ⟨kf_bl, kf_to hP hD hS hA hE [] rfl rfl⟩ rfl rfl hl.1 rfl (lv_room (Nat.le_of_ble_eq_true rfl)) d_Mo_mayDiffer_22 ⟨Nat.zero_le _, Nat.zero_le _⟩) (fun H locs hP hS => ?_)
    refine W.eq (g2 := F0 m 25 ls [.int (kP (km_inP p0.toInt64 44 53))]) rfl ?_
    refine lv_if_ne (tgt := 70) hx hb d_Mo_mayDiffer_25 (by decide) (fun c25 => ?_) (fun c25 => ?_)
    · refine lv_iconst (v := 1) hx hb d_Mo_mayDiffer_70 (by decide) ?_
      refine lv_goto (tgt := 75) hx hb d_Mo_mayDiffer_71 (by decide) ?_
      have hc11 := by first | exact kP_ne c11 | exact kP_eq c11
      have hc25 := by first | exact kP_ne c25 | exact kP_eq c25
      exact kf_zr hx hb hr hlocks hP hD hS (kP_t (by clear hP hD hS hA hE hts hl; grind)) (kP_nar) d_Mo_mayDiffer_75
    · refine lv_iload_n hx hb d_Mo_mayDiffer_28 rfl (lv_at hl 0 rfl) ?_
      refine lv_i2l hx hb d_Mo_mayDiffer_29 rfl ?_
      refine lv_ldc2 (v := 58) hx hb hown (hts _ q2_202) d_Mo_mayDiffer_30 ?_
      refine lv_ldc2 (v := 59) hx hb hown (hts _ q2_203) d_Mo_mayDiffer_33 ?_
      refine kf_ro hP hD hS hA [] rfl (va_runS (As := [.long p0.toInt64, .long 58, .long 59]) (rest := []) ⟨hx, hb, hml, hown, hts⟩ (c_Mo_isIn l D cB cI _ p0.toInt64 58 59) ⟨callB_of 3 hts g_Mo_isIn rfl rfl rfl (hts _ q1_5) (hts _ q2_95) h_Mo_isIn ⟨Nat.le_of_ble_eq_true rfl, Nat.le_of_ble_eq_true rfl⟩, (hts _ q2_96)⟩ ⟨kf_bl, kf_to hP hD hS hA hE [] rfl rfl⟩ rfl rfl hl.1 rfl (lv_room (Nat.le_of_ble_eq_true rfl)) d_Mo_mayDiffer_36 ⟨Nat.zero_le _, Nat.zero_le _⟩) (fun H locs hP hS => ?_)
      refine W.eq (g2 := F0 m 39 ls [.int (kP (km_inP p0.toInt64 58 59))]) rfl ?_
      refine lv_if_ne (tgt := 70) hx hb d_Mo_mayDiffer_39 (by decide) (fun c39 => ?_) (fun c39 => ?_)
      · refine lv_iconst (v := 1) hx hb d_Mo_mayDiffer_70 (by decide) ?_
        refine lv_goto (tgt := 75) hx hb d_Mo_mayDiffer_71 (by decide) ?_
        have hc11 := by first | exact kP_ne c11 | exact kP_eq c11
        have hc25 := by first | exact kP_ne c25 | exact kP_eq c25
        have hc39 := by first | exact kP_ne c39 | exact kP_eq c39
        exact kf_zr hx hb hr hlocks hP hD hS (kP_t (by clear hP hD hS hA hE hts hl; grind)) (kP_nar) d_Mo_mayDiffer_75
      · refine lv_iload_n hx hb d_Mo_mayDiffer_42 rfl (lv_at hl 0 rfl) ?_
        refine lv_i2l hx hb d_Mo_mayDiffer_43 rfl ?_
        refine lv_ldc2 (v := 90) hx hb hown (hts _ q2_204) d_Mo_mayDiffer_44 ?_
        refine lv_ldc2 (v := 91) hx hb hown (hts _ q2_205) d_Mo_mayDiffer_47 ?_
        refine kf_ro hP hD hS hA [] rfl (va_runS (As := [.long p0.toInt64, .long 90, .long 91]) (rest := []) ⟨hx, hb, hml, hown, hts⟩ (c_Mo_isIn l D cB cI _ p0.toInt64 90 91) ⟨callB_of 3 hts g_Mo_isIn rfl rfl rfl (hts _ q1_5) (hts _ q2_95) h_Mo_isIn ⟨Nat.le_of_ble_eq_true rfl, Nat.le_of_ble_eq_true rfl⟩, (hts _ q2_96)⟩ ⟨kf_bl, kf_to hP hD hS hA hE [] rfl rfl⟩ rfl rfl hl.1 rfl (lv_room (Nat.le_of_ble_eq_true rfl)) d_Mo_mayDiffer_50 ⟨Nat.zero_le _, Nat.zero_le _⟩) (fun H locs hP hS => ?_)
        refine W.eq (g2 := F0 m 53 ls [.int (kP (km_inP p0.toInt64 90 91))]) rfl ?_
        refine lv_if_ne (tgt := 70) hx hb d_Mo_mayDiffer_53 (by decide) (fun c53 => ?_) (fun c53 => ?_)
        · refine lv_iconst (v := 1) hx hb d_Mo_mayDiffer_70 (by decide) ?_
          refine lv_goto (tgt := 75) hx hb d_Mo_mayDiffer_71 (by decide) ?_
          have hc11 := by first | exact kP_ne c11 | exact kP_eq c11
          have hc25 := by first | exact kP_ne c25 | exact kP_eq c25
          have hc39 := by first | exact kP_ne c39 | exact kP_eq c39
          have hc53 := by first | exact kP_ne c53 | exact kP_eq c53
          exact kf_zr hx hb hr hlocks hP hD hS (kP_t (by clear hP hD hS hA hE hts hl; grind)) (kP_nar) d_Mo_mayDiffer_75
        · refine lv_iload_n hx hb d_Mo_mayDiffer_56 rfl (lv_at hl 0 rfl) ?_
          refine lv_i2l hx hb d_Mo_mayDiffer_57 rfl ?_
          refine lv_ldc2 (v := 232) hx hb hown (hts _ q2_206) d_Mo_mayDiffer_58 ?_
          refine lv_ldc2 (v := 235) hx hb hown (hts _ q2_207) d_Mo_mayDiffer_61 ?_
          refine kf_ro hP hD hS hA [] rfl (va_runS (As := [.long p0.toInt64, .long 232, .long 235]) (rest := []) ⟨hx, hb, hml, hown, hts⟩ (c_Mo_isIn l D cB cI _ p0.toInt64 232 235) ⟨callB_of 3 hts g_Mo_isIn rfl rfl rfl (hts _ q1_5) (hts _ q2_95) h_Mo_isIn ⟨Nat.le_of_ble_eq_true rfl, Nat.le_of_ble_eq_true rfl⟩, (hts _ q2_96)⟩ ⟨kf_bl, kf_to hP hD hS hA hE [] rfl rfl⟩ rfl rfl hl.1 rfl (lv_room (Nat.le_of_ble_eq_true rfl)) d_Mo_mayDiffer_64 ⟨Nat.zero_le _, Nat.zero_le _⟩) (fun H locs hP hS => ?_)
          refine W.eq (g2 := F0 m 67 ls [.int (kP (km_inP p0.toInt64 232 235))]) rfl ?_
          refine lv_if_eq (tgt := 74) hx hb d_Mo_mayDiffer_67 (by decide) (fun c67 => ?_) (fun c67 => ?_)
          · refine lv_iconst (v := 0) hx hb d_Mo_mayDiffer_74 (by decide) ?_
            have hc11 := by first | exact kP_ne c11 | exact kP_eq c11
            have hc25 := by first | exact kP_ne c25 | exact kP_eq c25
            have hc39 := by first | exact kP_ne c39 | exact kP_eq c39
            have hc53 := by first | exact kP_ne c53 | exact kP_eq c53
            have hc67 := by first | exact kP_ne c67 | exact kP_eq c67
            exact kf_zr hx hb hr hlocks hP hD hS (kP_f (by clear hP hD hS hA hE hts hl; grind)) (kP_nar) d_Mo_mayDiffer_75
          · refine lv_iconst (v := 1) hx hb d_Mo_mayDiffer_70 (by decide) ?_
            refine lv_goto (tgt := 75) hx hb d_Mo_mayDiffer_71 (by decide) ?_
            have hc11 := by first | exact kP_ne c11 | exact kP_eq c11
            have hc25 := by first | exact kP_ne c25 | exact kP_eq c25
            have hc39 := by first | exact kP_ne c39 | exact kP_eq c39
            have hc53 := by first | exact kP_ne c53 | exact kP_eq c53
            have hc67 := by first | exact kP_ne c67 | exact kP_eq c67
            exact kf_zr hx hb hr hlocks hP hD hS (kP_t (by clear hP hD hS hA hE hts hl; grind)) (kP_nar) d_Mo_mayDiffer_75
