theorem kz_p5 (p5 : Int32) : (kP (p5.toInt64 = 0)).toInt64 = if p5 = 0 then 1 else 0 := by
  rw [kz_k64]
  refine kz_iE ⟨fun h => ?_, fun h => by rw [h]; rfl⟩ (fun _ => rfl) (fun _ => rfl)
  have e := congrArg Int64.toInt32 h
  rw [Int32.toInt32_toInt64] at e
  exact e
set_option maxRecDepth 20000 in
set_option maxHeartbeats 4000000 in
theorem kz_T1 (ft gd : Nat → Int32) (p1 p2 p3 p4 p5 : Int32) (j : Nat) (hj : j < 1024) : ky_by (kl_T1 ft p1 p2 p3 p4 p5) j = ky_by (km_T1 gd p1 p2 p3 p4 p5) j := by
  unfold kl_T1 ky_wc km_T1
  rw [kz_p5]
  rw [ky_wrBy _ _ _ _ (by decide), ky_wrBy _ _ _ _ (by decide), ky_wrBy _ _ _ _ (by decide), ky_wrBy _ _ _ _ (by decide), ky_wrBy _ _ _ _ (by decide), ky_wrBy _ _ _ _ (by decide), ky_wrBy _ _ _ _ (by decide), ky_wrBy _ _ _ _ (by decide), ky_wrBy _ _ _ _ (by decide), ky_wrBy _ _ _ _ (by decide), ky_wrBy _ _ _ _ (by decide), ky_wrBy _ _ _ _ (by decide), ky_wrBy _ _ _ _ (by decide), ky_wrBy _ _ _ _ (by decide), ky_wrBy _ _ _ _ (by decide), ky_wrBy _ _ _ _ (by decide), ky_wrBy _ _ _ _ (by decide), ky_wrBy _ _ _ _ (by decide)]
  rw [km_stBy _ _ _ _ (by decide), km_stBy _ _ _ _ (by decide), km_stBy _ _ _ _ (by decide), km_stBy _ _ _ _ (by decide), km_stBy _ _ _ _ (by decide), km_stBy _ _ _ _ (by decide), km_stBy _ _ _ _ (by decide), km_stBy _ _ _ _ (by decide), km_stBy _ _ _ _ (by decide), km_stBy _ _ _ _ (by decide), km_stBy _ _ _ _ (by decide), km_stBy _ _ _ _ (by decide), km_stBy _ _ _ _ (by decide), km_stBy _ _ _ _ (by decide), km_stBy _ _ _ _ (by decide), km_stBy _ _ _ _ (by decide), km_stBy _ _ _ _ (by decide), km_stBy _ _ _ _ (by decide)]
  rw [ky_cpBy, km_cpBy, if_pos hj, if_pos hj]
  rcases (show (4 ≤ j ∧ j < 4 + 4) ∨ (20 ≤ j ∧ j < 20 + 4) ∨ (24 ≤ j ∧ j < 24 + 4) ∨ (28 ≤ j ∧ j < 28 + 4) ∨ (32 ≤ j ∧ j < 32 + 4) ∨ (36 ≤ j ∧ j < 36 + 4) ∨ (40 ≤ j ∧ j < 40 + 4) ∨ (54 ≤ j ∧ j < 54 + 2) ∨ (56 ≤ j ∧ j < 56 + 2) ∨ (58 ≤ j ∧ j < 58 + 2) ∨ (76 ≤ j ∧ j < 76 + 4) ∨ (84 ≤ j ∧ j < 84 + 4) ∨ (88 ≤ j ∧ j < 88 + 2) ∨ (92 ≤ j ∧ j < 92 + 4) ∨ (96 ≤ j ∧ j < 96 + 4) ∨ (100 ≤ j ∧ j < 100 + 4) ∨ (224 ≤ j ∧ j < 224 + 4) ∨ (252 ≤ j ∧ j < 252 + 1) ∨ (¬ (4 ≤ j ∧ j < 4 + 4) ∧ ¬ (20 ≤ j ∧ j < 20 + 4) ∧ ¬ (24 ≤ j ∧ j < 24 + 4) ∧ ¬ (28 ≤ j ∧ j < 28 + 4) ∧ ¬ (32 ≤ j ∧ j < 32 + 4) ∧ ¬ (36 ≤ j ∧ j < 36 + 4) ∧ ¬ (40 ≤ j ∧ j < 40 + 4) ∧ ¬ (54 ≤ j ∧ j < 54 + 2) ∧ ¬ (56 ≤ j ∧ j < 56 + 2) ∧ ¬ (58 ≤ j ∧ j < 58 + 2) ∧ ¬ (76 ≤ j ∧ j < 76 + 4) ∧ ¬ (84 ≤ j ∧ j < 84 + 4) ∧ ¬ (88 ≤ j ∧ j < 88 + 2) ∧ ¬ (92 ≤ j ∧ j < 92 + 4) ∧ ¬ (96 ≤ j ∧ j < 96 + 4) ∧ ¬ (100 ≤ j ∧ j < 100 + 4) ∧ ¬ (224 ≤ j ∧ j < 224 + 4) ∧ ¬ (252 ≤ j ∧ j < 252 + 1)) by omega) with h | h | h | h | h | h | h | h | h | h | h | h | h | h | h | h | h | h | h
  · rw [if_neg (show ¬ (88 ≤ j ∧ j < 88 + 2) by omega), if_neg (show ¬ (40 ≤ j ∧ j < 40 + 4) by omega), if_neg (show ¬ (36 ≤ j ∧ j < 36 + 4) by omega), if_neg (show ¬ (32 ≤ j ∧ j < 32 + 4) by omega), if_neg (show ¬ (28 ≤ j ∧ j < 28 + 4) by omega), if_neg (show ¬ (24 ≤ j ∧ j < 24 + 4) by omega), if_neg (show ¬ (20 ≤ j ∧ j < 20 + 4) by omega), if_pos h, if_neg (show ¬ (252 ≤ j ∧ j < 252 + 1) by omega), if_neg (show ¬ (224 ≤ j ∧ j < 224 + 4) by omega), if_neg (show ¬ (100 ≤ j ∧ j < 100 + 4) by omega), if_neg (show ¬ (96 ≤ j ∧ j < 96 + 4) by omega), if_neg (show ¬ (92 ≤ j ∧ j < 92 + 4) by omega), if_neg (show ¬ (88 ≤ j ∧ j < 88 + 2) by omega), if_neg (show ¬ (84 ≤ j ∧ j < 84 + 4) by omega), if_neg (show ¬ (76 ≤ j ∧ j < 76 + 4) by omega), if_neg (show ¬ (58 ≤ j ∧ j < 58 + 2) by omega), if_neg (show ¬ (56 ≤ j ∧ j < 56 + 2) by omega), if_neg (show ¬ (54 ≤ j ∧ j < 54 + 2) by omega), if_neg (show ¬ (40 ≤ j ∧ j < 40 + 4) by omega), if_neg (show ¬ (36 ≤ j ∧ j < 36 + 4) by omega), if_neg (show ¬ (32 ≤ j ∧ j < 32 + 4) by omega), if_neg (show ¬ (28 ≤ j ∧ j < 28 + 4) by omega), if_neg (show ¬ (24 ≤ j ∧ j < 24 + 4) by omega), if_neg (show ¬ (20 ≤ j ∧ j < 20 + 4) by omega), if_pos h]
  · rw [if_neg (show ¬ (88 ≤ j ∧ j < 88 + 2) by omega), if_neg (show ¬ (40 ≤ j ∧ j < 40 + 4) by omega), if_neg (show ¬ (36 ≤ j ∧ j < 36 + 4) by omega), if_neg (show ¬ (32 ≤ j ∧ j < 32 + 4) by omega), if_neg (show ¬ (28 ≤ j ∧ j < 28 + 4) by omega), if_neg (show ¬ (24 ≤ j ∧ j < 24 + 4) by omega), if_pos h, if_neg (show ¬ (252 ≤ j ∧ j < 252 + 1) by omega), if_neg (show ¬ (224 ≤ j ∧ j < 224 + 4) by omega), if_neg (show ¬ (100 ≤ j ∧ j < 100 + 4) by omega), if_neg (show ¬ (96 ≤ j ∧ j < 96 + 4) by omega), if_neg (show ¬ (92 ≤ j ∧ j < 92 + 4) by omega), if_neg (show ¬ (88 ≤ j ∧ j < 88 + 2) by omega), if_neg (show ¬ (84 ≤ j ∧ j < 84 + 4) by omega), if_neg (show ¬ (76 ≤ j ∧ j < 76 + 4) by omega), if_neg (show ¬ (58 ≤ j ∧ j < 58 + 2) by omega), if_neg (show ¬ (56 ≤ j ∧ j < 56 + 2) by omega), if_neg (show ¬ (54 ≤ j ∧ j < 54 + 2) by omega), if_neg (show ¬ (40 ≤ j ∧ j < 40 + 4) by omega), if_neg (show ¬ (36 ≤ j ∧ j < 36 + 4) by omega), if_neg (show ¬ (32 ≤ j ∧ j < 32 + 4) by omega), if_neg (show ¬ (28 ≤ j ∧ j < 28 + 4) by omega), if_neg (show ¬ (24 ≤ j ∧ j < 24 + 4) by omega), if_pos h]
  · rw [if_neg (show ¬ (88 ≤ j ∧ j < 88 + 2) by omega), if_neg (show ¬ (40 ≤ j ∧ j < 40 + 4) by omega), if_neg (show ¬ (36 ≤ j ∧ j < 36 + 4) by omega), if_neg (show ¬ (32 ≤ j ∧ j < 32 + 4) by omega), if_neg (show ¬ (28 ≤ j ∧ j < 28 + 4) by omega), if_pos h, if_neg (show ¬ (252 ≤ j ∧ j < 252 + 1) by omega), if_neg (show ¬ (224 ≤ j ∧ j < 224 + 4) by omega), if_neg (show ¬ (100 ≤ j ∧ j < 100 + 4) by omega), if_neg (show ¬ (96 ≤ j ∧ j < 96 + 4) by omega), if_neg (show ¬ (92 ≤ j ∧ j < 92 + 4) by omega), if_neg (show ¬ (88 ≤ j ∧ j < 88 + 2) by omega), if_neg (show ¬ (84 ≤ j ∧ j < 84 + 4) by omega), if_neg (show ¬ (76 ≤ j ∧ j < 76 + 4) by omega), if_neg (show ¬ (58 ≤ j ∧ j < 58 + 2) by omega), if_neg (show ¬ (56 ≤ j ∧ j < 56 + 2) by omega), if_neg (show ¬ (54 ≤ j ∧ j < 54 + 2) by omega), if_neg (show ¬ (40 ≤ j ∧ j < 40 + 4) by omega), if_neg (show ¬ (36 ≤ j ∧ j < 36 + 4) by omega), if_neg (show ¬ (32 ≤ j ∧ j < 32 + 4) by omega), if_neg (show ¬ (28 ≤ j ∧ j < 28 + 4) by omega), if_pos h]
  · rw [if_neg (show ¬ (88 ≤ j ∧ j < 88 + 2) by omega), if_neg (show ¬ (40 ≤ j ∧ j < 40 + 4) by omega), if_neg (show ¬ (36 ≤ j ∧ j < 36 + 4) by omega), if_neg (show ¬ (32 ≤ j ∧ j < 32 + 4) by omega), if_pos h, if_neg (show ¬ (252 ≤ j ∧ j < 252 + 1) by omega), if_neg (show ¬ (224 ≤ j ∧ j < 224 + 4) by omega), if_neg (show ¬ (100 ≤ j ∧ j < 100 + 4) by omega), if_neg (show ¬ (96 ≤ j ∧ j < 96 + 4) by omega), if_neg (show ¬ (92 ≤ j ∧ j < 92 + 4) by omega), if_neg (show ¬ (88 ≤ j ∧ j < 88 + 2) by omega), if_neg (show ¬ (84 ≤ j ∧ j < 84 + 4) by omega), if_neg (show ¬ (76 ≤ j ∧ j < 76 + 4) by omega), if_neg (show ¬ (58 ≤ j ∧ j < 58 + 2) by omega), if_neg (show ¬ (56 ≤ j ∧ j < 56 + 2) by omega), if_neg (show ¬ (54 ≤ j ∧ j < 54 + 2) by omega), if_neg (show ¬ (40 ≤ j ∧ j < 40 + 4) by omega), if_neg (show ¬ (36 ≤ j ∧ j < 36 + 4) by omega), if_neg (show ¬ (32 ≤ j ∧ j < 32 + 4) by omega), if_pos h]
  · rw [if_neg (show ¬ (88 ≤ j ∧ j < 88 + 2) by omega), if_neg (show ¬ (40 ≤ j ∧ j < 40 + 4) by omega), if_neg (show ¬ (36 ≤ j ∧ j < 36 + 4) by omega), if_pos h, if_neg (show ¬ (252 ≤ j ∧ j < 252 + 1) by omega), if_neg (show ¬ (224 ≤ j ∧ j < 224 + 4) by omega), if_neg (show ¬ (100 ≤ j ∧ j < 100 + 4) by omega), if_neg (show ¬ (96 ≤ j ∧ j < 96 + 4) by omega), if_neg (show ¬ (92 ≤ j ∧ j < 92 + 4) by omega), if_neg (show ¬ (88 ≤ j ∧ j < 88 + 2) by omega), if_neg (show ¬ (84 ≤ j ∧ j < 84 + 4) by omega), if_neg (show ¬ (76 ≤ j ∧ j < 76 + 4) by omega), if_neg (show ¬ (58 ≤ j ∧ j < 58 + 2) by omega), if_neg (show ¬ (56 ≤ j ∧ j < 56 + 2) by omega), if_neg (show ¬ (54 ≤ j ∧ j < 54 + 2) by omega), if_neg (show ¬ (40 ≤ j ∧ j < 40 + 4) by omega), if_neg (show ¬ (36 ≤ j ∧ j < 36 + 4) by omega), if_pos h]
  · rw [if_neg (show ¬ (88 ≤ j ∧ j < 88 + 2) by omega), if_neg (show ¬ (40 ≤ j ∧ j < 40 + 4) by omega), if_pos h, if_neg (show ¬ (252 ≤ j ∧ j < 252 + 1) by omega), if_neg (show ¬ (224 ≤ j ∧ j < 224 + 4) by omega), if_neg (show ¬ (100 ≤ j ∧ j < 100 + 4) by omega), if_neg (show ¬ (96 ≤ j ∧ j < 96 + 4) by omega), if_neg (show ¬ (92 ≤ j ∧ j < 92 + 4) by omega), if_neg (show ¬ (88 ≤ j ∧ j < 88 + 2) by omega), if_neg (show ¬ (84 ≤ j ∧ j < 84 + 4) by omega), if_neg (show ¬ (76 ≤ j ∧ j < 76 + 4) by omega), if_neg (show ¬ (58 ≤ j ∧ j < 58 + 2) by omega), if_neg (show ¬ (56 ≤ j ∧ j < 56 + 2) by omega), if_neg (show ¬ (54 ≤ j ∧ j < 54 + 2) by omega), if_neg (show ¬ (40 ≤ j ∧ j < 40 + 4) by omega), if_pos h]
  · rw [if_neg (show ¬ (88 ≤ j ∧ j < 88 + 2) by omega), if_pos h, if_neg (show ¬ (252 ≤ j ∧ j < 252 + 1) by omega), if_neg (show ¬ (224 ≤ j ∧ j < 224 + 4) by omega), if_neg (show ¬ (100 ≤ j ∧ j < 100 + 4) by omega), if_neg (show ¬ (96 ≤ j ∧ j < 96 + 4) by omega), if_neg (show ¬ (92 ≤ j ∧ j < 92 + 4) by omega), if_neg (show ¬ (88 ≤ j ∧ j < 88 + 2) by omega), if_neg (show ¬ (84 ≤ j ∧ j < 84 + 4) by omega), if_neg (show ¬ (76 ≤ j ∧ j < 76 + 4) by omega), if_neg (show ¬ (58 ≤ j ∧ j < 58 + 2) by omega), if_neg (show ¬ (56 ≤ j ∧ j < 56 + 2) by omega), if_neg (show ¬ (54 ≤ j ∧ j < 54 + 2) by omega), if_pos h]
  · rw [if_neg (show ¬ (88 ≤ j ∧ j < 88 + 2) by omega), if_neg (show ¬ (40 ≤ j ∧ j < 40 + 4) by omega), if_neg (show ¬ (36 ≤ j ∧ j < 36 + 4) by omega), if_neg (show ¬ (32 ≤ j ∧ j < 32 + 4) by omega), if_neg (show ¬ (28 ≤ j ∧ j < 28 + 4) by omega), if_neg (show ¬ (24 ≤ j ∧ j < 24 + 4) by omega), if_neg (show ¬ (20 ≤ j ∧ j < 20 + 4) by omega), if_neg (show ¬ (4 ≤ j ∧ j < 4 + 4) by omega), if_neg (show ¬ (252 ≤ j ∧ j < 252 + 1) by omega), if_neg (show ¬ (224 ≤ j ∧ j < 224 + 4) by omega), if_neg (show ¬ (100 ≤ j ∧ j < 100 + 4) by omega), if_neg (show ¬ (96 ≤ j ∧ j < 96 + 4) by omega), if_neg (show ¬ (92 ≤ j ∧ j < 92 + 4) by omega), if_neg (show ¬ (84 ≤ j ∧ j < 84 + 4) by omega), if_neg (show ¬ (76 ≤ j ∧ j < 76 + 4) by omega), if_neg (show ¬ (58 ≤ j ∧ j < 58 + 2) by omega), if_neg (show ¬ (56 ≤ j ∧ j < 56 + 2) by omega), if_pos h, if_neg (show ¬ (252 ≤ j ∧ j < 252 + 1) by omega), if_neg (show ¬ (224 ≤ j ∧ j < 224 + 4) by omega), if_neg (show ¬ (100 ≤ j ∧ j < 100 + 4) by omega), if_neg (show ¬ (96 ≤ j ∧ j < 96 + 4) by omega), if_neg (show ¬ (92 ≤ j ∧ j < 92 + 4) by omega), if_neg (show ¬ (88 ≤ j ∧ j < 88 + 2) by omega), if_neg (show ¬ (84 ≤ j ∧ j < 84 + 4) by omega), if_neg (show ¬ (76 ≤ j ∧ j < 76 + 4) by omega), if_neg (show ¬ (58 ≤ j ∧ j < 58 + 2) by omega), if_neg (show ¬ (56 ≤ j ∧ j < 56 + 2) by omega), if_pos h]
  · rw [if_neg (show ¬ (88 ≤ j ∧ j < 88 + 2) by omega), if_neg (show ¬ (40 ≤ j ∧ j < 40 + 4) by omega), if_neg (show ¬ (36 ≤ j ∧ j < 36 + 4) by omega), if_neg (show ¬ (32 ≤ j ∧ j < 32 + 4) by omega), if_neg (show ¬ (28 ≤ j ∧ j < 28 + 4) by omega), if_neg (show ¬ (24 ≤ j ∧ j < 24 + 4) by omega), if_neg (show ¬ (20 ≤ j ∧ j < 20 + 4) by omega), if_neg (show ¬ (4 ≤ j ∧ j < 4 + 4) by omega), if_neg (show ¬ (252 ≤ j ∧ j < 252 + 1) by omega), if_neg (show ¬ (224 ≤ j ∧ j < 224 + 4) by omega), if_neg (show ¬ (100 ≤ j ∧ j < 100 + 4) by omega), if_neg (show ¬ (96 ≤ j ∧ j < 96 + 4) by omega), if_neg (show ¬ (92 ≤ j ∧ j < 92 + 4) by omega), if_neg (show ¬ (84 ≤ j ∧ j < 84 + 4) by omega), if_neg (show ¬ (76 ≤ j ∧ j < 76 + 4) by omega), if_neg (show ¬ (58 ≤ j ∧ j < 58 + 2) by omega), if_pos h, if_neg (show ¬ (252 ≤ j ∧ j < 252 + 1) by omega), if_neg (show ¬ (224 ≤ j ∧ j < 224 + 4) by omega), if_neg (show ¬ (100 ≤ j ∧ j < 100 + 4) by omega), if_neg (show ¬ (96 ≤ j ∧ j < 96 + 4) by omega), if_neg (show ¬ (92 ≤ j ∧ j < 92 + 4) by omega), if_neg (show ¬ (88 ≤ j ∧ j < 88 + 2) by omega), if_neg (show ¬ (84 ≤ j ∧ j < 84 + 4) by omega), if_neg (show ¬ (76 ≤ j ∧ j < 76 + 4) by omega), if_neg (show ¬ (58 ≤ j ∧ j < 58 + 2) by omega), if_pos h]
  · rw [if_neg (show ¬ (88 ≤ j ∧ j < 88 + 2) by omega), if_neg (show ¬ (40 ≤ j ∧ j < 40 + 4) by omega), if_neg (show ¬ (36 ≤ j ∧ j < 36 + 4) by omega), if_neg (show ¬ (32 ≤ j ∧ j < 32 + 4) by omega), if_neg (show ¬ (28 ≤ j ∧ j < 28 + 4) by omega), if_neg (show ¬ (24 ≤ j ∧ j < 24 + 4) by omega), if_neg (show ¬ (20 ≤ j ∧ j < 20 + 4) by omega), if_neg (show ¬ (4 ≤ j ∧ j < 4 + 4) by omega), if_neg (show ¬ (252 ≤ j ∧ j < 252 + 1) by omega), if_neg (show ¬ (224 ≤ j ∧ j < 224 + 4) by omega), if_neg (show ¬ (100 ≤ j ∧ j < 100 + 4) by omega), if_neg (show ¬ (96 ≤ j ∧ j < 96 + 4) by omega), if_neg (show ¬ (92 ≤ j ∧ j < 92 + 4) by omega), if_neg (show ¬ (84 ≤ j ∧ j < 84 + 4) by omega), if_neg (show ¬ (76 ≤ j ∧ j < 76 + 4) by omega), if_pos h, if_neg (show ¬ (252 ≤ j ∧ j < 252 + 1) by omega), if_neg (show ¬ (224 ≤ j ∧ j < 224 + 4) by omega), if_neg (show ¬ (100 ≤ j ∧ j < 100 + 4) by omega), if_neg (show ¬ (96 ≤ j ∧ j < 96 + 4) by omega), if_neg (show ¬ (92 ≤ j ∧ j < 92 + 4) by omega), if_neg (show ¬ (88 ≤ j ∧ j < 88 + 2) by omega), if_neg (show ¬ (84 ≤ j ∧ j < 84 + 4) by omega), if_neg (show ¬ (76 ≤ j ∧ j < 76 + 4) by omega), if_pos h]
  · rw [if_neg (show ¬ (88 ≤ j ∧ j < 88 + 2) by omega), if_neg (show ¬ (40 ≤ j ∧ j < 40 + 4) by omega), if_neg (show ¬ (36 ≤ j ∧ j < 36 + 4) by omega), if_neg (show ¬ (32 ≤ j ∧ j < 32 + 4) by omega), if_neg (show ¬ (28 ≤ j ∧ j < 28 + 4) by omega), if_neg (show ¬ (24 ≤ j ∧ j < 24 + 4) by omega), if_neg (show ¬ (20 ≤ j ∧ j < 20 + 4) by omega), if_neg (show ¬ (4 ≤ j ∧ j < 4 + 4) by omega), if_neg (show ¬ (252 ≤ j ∧ j < 252 + 1) by omega), if_neg (show ¬ (224 ≤ j ∧ j < 224 + 4) by omega), if_neg (show ¬ (100 ≤ j ∧ j < 100 + 4) by omega), if_neg (show ¬ (96 ≤ j ∧ j < 96 + 4) by omega), if_neg (show ¬ (92 ≤ j ∧ j < 92 + 4) by omega), if_neg (show ¬ (84 ≤ j ∧ j < 84 + 4) by omega), if_pos h, if_neg (show ¬ (252 ≤ j ∧ j < 252 + 1) by omega), if_neg (show ¬ (224 ≤ j ∧ j < 224 + 4) by omega), if_neg (show ¬ (100 ≤ j ∧ j < 100 + 4) by omega), if_neg (show ¬ (96 ≤ j ∧ j < 96 + 4) by omega), if_neg (show ¬ (92 ≤ j ∧ j < 92 + 4) by omega), if_neg (show ¬ (88 ≤ j ∧ j < 88 + 2) by omega), if_neg (show ¬ (84 ≤ j ∧ j < 84 + 4) by omega), if_pos h]
  · rw [if_neg (show ¬ (88 ≤ j ∧ j < 88 + 2) by omega), if_neg (show ¬ (40 ≤ j ∧ j < 40 + 4) by omega), if_neg (show ¬ (36 ≤ j ∧ j < 36 + 4) by omega), if_neg (show ¬ (32 ≤ j ∧ j < 32 + 4) by omega), if_neg (show ¬ (28 ≤ j ∧ j < 28 + 4) by omega), if_neg (show ¬ (24 ≤ j ∧ j < 24 + 4) by omega), if_neg (show ¬ (20 ≤ j ∧ j < 20 + 4) by omega), if_neg (show ¬ (4 ≤ j ∧ j < 4 + 4) by omega), if_neg (show ¬ (252 ≤ j ∧ j < 252 + 1) by omega), if_neg (show ¬ (224 ≤ j ∧ j < 224 + 4) by omega), if_neg (show ¬ (100 ≤ j ∧ j < 100 + 4) by omega), if_neg (show ¬ (96 ≤ j ∧ j < 96 + 4) by omega), if_neg (show ¬ (92 ≤ j ∧ j < 92 + 4) by omega), if_pos h, if_neg (show ¬ (252 ≤ j ∧ j < 252 + 1) by omega), if_neg (show ¬ (224 ≤ j ∧ j < 224 + 4) by omega), if_neg (show ¬ (100 ≤ j ∧ j < 100 + 4) by omega), if_neg (show ¬ (96 ≤ j ∧ j < 96 + 4) by omega), if_neg (show ¬ (92 ≤ j ∧ j < 92 + 4) by omega), if_neg (show ¬ (88 ≤ j ∧ j < 88 + 2) by omega), if_pos h]
  · rw [if_pos h, if_neg (show ¬ (252 ≤ j ∧ j < 252 + 1) by omega), if_neg (show ¬ (224 ≤ j ∧ j < 224 + 4) by omega), if_neg (show ¬ (100 ≤ j ∧ j < 100 + 4) by omega), if_neg (show ¬ (96 ≤ j ∧ j < 96 + 4) by omega), if_neg (show ¬ (92 ≤ j ∧ j < 92 + 4) by omega), if_pos h]
  · rw [if_neg (show ¬ (88 ≤ j ∧ j < 88 + 2) by omega), if_neg (show ¬ (40 ≤ j ∧ j < 40 + 4) by omega), if_neg (show ¬ (36 ≤ j ∧ j < 36 + 4) by omega), if_neg (show ¬ (32 ≤ j ∧ j < 32 + 4) by omega), if_neg (show ¬ (28 ≤ j ∧ j < 28 + 4) by omega), if_neg (show ¬ (24 ≤ j ∧ j < 24 + 4) by omega), if_neg (show ¬ (20 ≤ j ∧ j < 20 + 4) by omega), if_neg (show ¬ (4 ≤ j ∧ j < 4 + 4) by omega), if_neg (show ¬ (252 ≤ j ∧ j < 252 + 1) by omega), if_neg (show ¬ (224 ≤ j ∧ j < 224 + 4) by omega), if_neg (show ¬ (100 ≤ j ∧ j < 100 + 4) by omega), if_neg (show ¬ (96 ≤ j ∧ j < 96 + 4) by omega), if_pos h, if_neg (show ¬ (252 ≤ j ∧ j < 252 + 1) by omega), if_neg (show ¬ (224 ≤ j ∧ j < 224 + 4) by omega), if_neg (show ¬ (100 ≤ j ∧ j < 100 + 4) by omega), if_neg (show ¬ (96 ≤ j ∧ j < 96 + 4) by omega), if_pos h]
  · rw [if_neg (show ¬ (88 ≤ j ∧ j < 88 + 2) by omega), if_neg (show ¬ (40 ≤ j ∧ j < 40 + 4) by omega), if_neg (show ¬ (36 ≤ j ∧ j < 36 + 4) by omega), if_neg (show ¬ (32 ≤ j ∧ j < 32 + 4) by omega), if_neg (show ¬ (28 ≤ j ∧ j < 28 + 4) by omega), if_neg (show ¬ (24 ≤ j ∧ j < 24 + 4) by omega), if_neg (show ¬ (20 ≤ j ∧ j < 20 + 4) by omega), if_neg (show ¬ (4 ≤ j ∧ j < 4 + 4) by omega), if_neg (show ¬ (252 ≤ j ∧ j < 252 + 1) by omega), if_neg (show ¬ (224 ≤ j ∧ j < 224 + 4) by omega), if_neg (show ¬ (100 ≤ j ∧ j < 100 + 4) by omega), if_pos h, if_neg (show ¬ (252 ≤ j ∧ j < 252 + 1) by omega), if_neg (show ¬ (224 ≤ j ∧ j < 224 + 4) by omega), if_neg (show ¬ (100 ≤ j ∧ j < 100 + 4) by omega), if_pos h]
  · rw [if_neg (show ¬ (88 ≤ j ∧ j < 88 + 2) by omega), if_neg (show ¬ (40 ≤ j ∧ j < 40 + 4) by omega), if_neg (show ¬ (36 ≤ j ∧ j < 36 + 4) by omega), if_neg (show ¬ (32 ≤ j ∧ j < 32 + 4) by omega), if_neg (show ¬ (28 ≤ j ∧ j < 28 + 4) by omega), if_neg (show ¬ (24 ≤ j ∧ j < 24 + 4) by omega), if_neg (show ¬ (20 ≤ j ∧ j < 20 + 4) by omega), if_neg (show ¬ (4 ≤ j ∧ j < 4 + 4) by omega), if_neg (show ¬ (252 ≤ j ∧ j < 252 + 1) by omega), if_neg (show ¬ (224 ≤ j ∧ j < 224 + 4) by omega), if_pos h, if_neg (show ¬ (252 ≤ j ∧ j < 252 + 1) by omega), if_neg (show ¬ (224 ≤ j ∧ j < 224 + 4) by omega), if_pos h]
  · rw [if_neg (show ¬ (88 ≤ j ∧ j < 88 + 2) by omega), if_neg (show ¬ (40 ≤ j ∧ j < 40 + 4) by omega), if_neg (show ¬ (36 ≤ j ∧ j < 36 + 4) by omega), if_neg (show ¬ (32 ≤ j ∧ j < 32 + 4) by omega), if_neg (show ¬ (28 ≤ j ∧ j < 28 + 4) by omega), if_neg (show ¬ (24 ≤ j ∧ j < 24 + 4) by omega), if_neg (show ¬ (20 ≤ j ∧ j < 20 + 4) by omega), if_neg (show ¬ (4 ≤ j ∧ j < 4 + 4) by omega), if_neg (show ¬ (252 ≤ j ∧ j < 252 + 1) by omega), if_pos h, if_neg (show ¬ (252 ≤ j ∧ j < 252 + 1) by omega), if_pos h]
  · rw [if_neg (show ¬ (88 ≤ j ∧ j < 88 + 2) by omega), if_neg (show ¬ (40 ≤ j ∧ j < 40 + 4) by omega), if_neg (show ¬ (36 ≤ j ∧ j < 36 + 4) by omega), if_neg (show ¬ (32 ≤ j ∧ j < 32 + 4) by omega), if_neg (show ¬ (28 ≤ j ∧ j < 28 + 4) by omega), if_neg (show ¬ (24 ≤ j ∧ j < 24 + 4) by omega), if_neg (show ¬ (20 ≤ j ∧ j < 20 + 4) by omega), if_neg (show ¬ (4 ≤ j ∧ j < 4 + 4) by omega), if_pos h, if_pos h]
  · rw [if_neg (show ¬ (88 ≤ j ∧ j < 88 + 2) by omega), if_neg (show ¬ (40 ≤ j ∧ j < 40 + 4) by omega), if_neg (show ¬ (36 ≤ j ∧ j < 36 + 4) by omega), if_neg (show ¬ (32 ≤ j ∧ j < 32 + 4) by omega), if_neg (show ¬ (28 ≤ j ∧ j < 28 + 4) by omega), if_neg (show ¬ (24 ≤ j ∧ j < 24 + 4) by omega), if_neg (show ¬ (20 ≤ j ∧ j < 20 + 4) by omega), if_neg (show ¬ (4 ≤ j ∧ j < 4 + 4) by omega), if_neg (show ¬ (252 ≤ j ∧ j < 252 + 1) by omega), if_neg (show ¬ (224 ≤ j ∧ j < 224 + 4) by omega), if_neg (show ¬ (100 ≤ j ∧ j < 100 + 4) by omega), if_neg (show ¬ (96 ≤ j ∧ j < 96 + 4) by omega), if_neg (show ¬ (92 ≤ j ∧ j < 92 + 4) by omega), if_neg (show ¬ (84 ≤ j ∧ j < 84 + 4) by omega), if_neg (show ¬ (76 ≤ j ∧ j < 76 + 4) by omega), if_neg (show ¬ (58 ≤ j ∧ j < 58 + 2) by omega), if_neg (show ¬ (56 ≤ j ∧ j < 56 + 2) by omega), if_neg (show ¬ (54 ≤ j ∧ j < 54 + 2) by omega), if_neg (show ¬ (252 ≤ j ∧ j < 252 + 1) by omega), if_neg (show ¬ (224 ≤ j ∧ j < 224 + 4) by omega), if_neg (show ¬ (100 ≤ j ∧ j < 100 + 4) by omega), if_neg (show ¬ (96 ≤ j ∧ j < 96 + 4) by omega), if_neg (show ¬ (92 ≤ j ∧ j < 92 + 4) by omega), if_neg (show ¬ (88 ≤ j ∧ j < 88 + 2) by omega), if_neg (show ¬ (84 ≤ j ∧ j < 84 + 4) by omega), if_neg (show ¬ (76 ≤ j ∧ j < 76 + 4) by omega), if_neg (show ¬ (58 ≤ j ∧ j < 58 + 2) by omega), if_neg (show ¬ (56 ≤ j ∧ j < 56 + 2) by omega), if_neg (show ¬ (54 ≤ j ∧ j < 54 + 2) by omega), if_neg (show ¬ (40 ≤ j ∧ j < 40 + 4) by omega), if_neg (show ¬ (36 ≤ j ∧ j < 36 + 4) by omega), if_neg (show ¬ (32 ≤ j ∧ j < 32 + 4) by omega), if_neg (show ¬ (28 ≤ j ∧ j < 28 + 4) by omega), if_neg (show ¬ (24 ≤ j ∧ j < 24 + 4) by omega), if_neg (show ¬ (20 ≤ j ∧ j < 20 + 4) by omega), if_neg (show ¬ (4 ≤ j ∧ j < 4 + 4) by omega)]

theorem kz_T1A (ft gd : Nat → Int32) (p1 p2 p3 p4 p5 : Int32) : kz_A (kl_T1 ft p1 p2 p3 p4 p5) (km_T1 gd p1 p2 p3 p4 p5) := kz_of (kz_T1 ft gd p1 p2 p3 p4 p5)
theorem km_T1_40 (gd : Nat → Int32) (p1 p2 p3 p4 p5 : Int32) : ky_le (km_T1 gd p1 p2 p3 p4 p5) 40 4 = p3.toBitVec.toNat := by
  unfold km_T1
  repeat (first | rw [km_leSame _ _ (by decide)] | rw [km_leOff _ _ (by decide) (by decide)])
  exact km_toNat p3
theorem km_T_24 (gd : Nat → Int32) (p1 p2 p3 p4 p5 : Int32) : ky_le (km_T gd p1 p2 p3 p4 p5) 24 4 = p5.toBitVec.toNat := by
  unfold km_T
  rw [km_leOff _ _ (by decide) (by decide)]
  unfold km_T1
  repeat (first | rw [km_leSame _ _ (by decide)] | rw [km_leOff _ _ (by decide) (by decide)])
  exact km_toNat p5
theorem km_T_32 (gd : Nat → Int32) (p1 p2 p3 p4 p5 : Int32) : ky_le (km_T gd p1 p2 p3 p4 p5) 32 4 = p2.toBitVec.toNat := by
  unfold km_T
  rw [km_leOff _ _ (by decide) (by decide)]
  exact km_T1_32 gd p1 p2 p3 p4 p5
theorem km_T_88 (gd : Nat → Int32) (p1 p2 p3 p4 p5 : Int32) : ky_le (km_T gd p1 p2 p3 p4 p5) 88 2 = p4.toInt64.toBitVec.toNat % 256 ^ 2 := by
  unfold km_T
  rw [km_leOff _ _ (by decide) (by decide)]
  unfold km_T1
  repeat (first | rw [km_leSame _ _ (by decide)] | rw [km_leOff _ _ (by decide) (by decide)])
theorem kz_mul32 (x y z : Int64) (h : y.toBitVec.toNat % 2 ^ 32 = z.toBitVec.toNat % 2 ^ 32) : (x * y).toBitVec.toNat % 2 ^ 32 = (x * z).toBitVec.toNat % 2 ^ 32 := by
  rw [Int64.toBitVec_mul, Int64.toBitVec_mul, BitVec.toNat_mul, BitVec.toNat_mul]
  have e : ∀ m : Nat, m % 2 ^ 64 % 2 ^ 32 = m % 2 ^ 32 := fun m => by omega
  rw [e, e, Nat.mul_mod, h, ← Nat.mul_mod]
theorem kz_byte4 {v w : Nat} (h : v % 2 ^ 32 = w % 2 ^ 32) {i : Nat} (hi : i < 4) : v / 256 ^ i % 256 = w / 256 ^ i % 256 := by
  rcases (show i = 0 ∨ i = 1 ∨ i = 2 ∨ i = 3 by omega) with rfl | rfl | rfl | rfl
  · rw [Nat.pow_zero]; omega
  · rw [Nat.pow_one]; omega
  · rw [show (256 : Nat) ^ 2 = 65536 from rfl]; omega
  · rw [show (256 : Nat) ^ 3 = 16777216 from rfl]; omega
theorem kz_T (ft gd : Nat → Int32) (p1 p2 p3 p4 p5 : Int32) (j : Nat) (hj : j < 1024) : ky_by (kl_T ft p1 p2 p3 p4 p5) j = ky_by (km_T gd p1 p2 p3 p4 p5) j := by
  have hA := kz_T1A ft gd p1 p2 p3 p4 p5
  unfold kl_T km_T
  rw [ky_wrBy _ _ _ _ (by decide), km_stBy _ _ _ _ (by decide), kz_gc hA]
  refine kz_iE Iff.rfl (fun h => ?_) (fun _ => kz_T1 ft gd p1 p2 p3 p4 p5 j hj)
  refine kz_byte4 (kz_mul32 _ _ _ ?_) (by omega)
  have e1 : p3.toInt64.toBitVec.toNat % 2 ^ 32 = p3.toBitVec.toNat := km_toNat p3
  have hlt : p3.toBitVec.toNat < 2 ^ 32 := p3.toBitVec.isLt
  rw [e1, km_T1_40, wb_tn (by omega), Nat.mod_eq_of_lt hlt]
theorem kz_TR (ft gd : Nat → Int32) (p1 p2 p3 p4 p5 : Int32) : kz_R (kl_T ft p1 p2 p3 p4 p5) (km_T gd p1 p2 p3 p4 p5) :=
  ⟨kz_T ft gd p1 p2 p3 p4 p5, km_stOk (km_T1Ok gd p1 p2 p3 p4 p5) _ _ _ (by decide)⟩
theorem km_szJ {f : Nat → Int32} (h : km_sz f = -2) : ¬ 8 * kv_size f < lN (ky_le f 32 4) ∧ ky_rlP (lN (ky_le f 88 2)) := by
  unfold km_sz at h
  constructor
  · intro q
    have q2 : ¬ (km_inP (lN (ky_le f 32 4)) 64 (8 * kv_size f) ∧ lN (ky_le f 32 4) - lN (ky_le f 32 4) / 8 * 8 = 0) := fun z => z.1.2 q
    simp only [if_pos q2] at h
    revert h
    repeat' split
    all_goals decide
  · by_cases q : ky_rlP (lN (ky_le f 88 2))
    · exact q
    · exfalso
      simp only [if_pos q] at h
      revert h
      repeat' split
      all_goals decide
theorem kz_i32 (x : Int32) : x = nI x.toBitVec.toNat := by
  obtain ⟨n, hn, rfl⟩ := wb_of32 x
  rw [pk_tn hn]
theorem kz_lP (ft gd : Nat → Int32) (p1 p2 p3 p4 p5 : Int32) : kl_P ft p1 p2 p3 p4 p5 ↔ km_lP gd p1 p2 p3 p4 p5 := by
  have hF : kv_fault (kl_T ft p1 p2 p3 p4 p5) = km_fault (km_T gd p1 p2 p3 p4 p5) := kz_fE (kz_RA (kz_TR ft gd p1 p2 p3 p4 p5))
  constructor
  · rintro ⟨h1, h2, h3⟩
    rw [hF] at h3
    have hs := (km_fI h3).1
    obtain ⟨s1, s2⟩ := km_szI hs
    obtain ⟨s3, s4⟩ := km_szJ hs
    obtain ⟨sh, hsh, -, esz⟩ := km_size s1
    have b32 := kz_32 (km_T gd p1 p2 p3 p4 p5) 32
    have b24 := kz_32 (km_T gd p1 p2 p3 p4 p5) 24
    have b88 := kz_16 (km_T gd p1 p2 p3 p4 p5) 88
    have s1' : ky_le (km_T gd p1 p2 p3 p4 p5) 24 4 ≤ 2 := (pk_lLE (b := 2) (by omega) (by decide)).mp s1
    have s2' : 1 ≤ ky_le (km_T gd p1 p2 p3 p4 p5) 32 4 := (pk_lLE (a := 1) (by decide) (by omega)).mp s2
    have s3' : ky_le (km_T gd p1 p2 p3 p4 p5) 32 4 ≤ 32768 := by
      rcases Nat.lt_or_ge 32768 (ky_le (km_T gd p1 p2 p3 p4 p5) 32 4) with z | z
      · exfalso
        apply s3
        rw [esz, show (8 : Int64) = lN 8 from rfl, lN_mul]
        have : 8 * (1024 * 2 ^ sh) ≤ 32768 := by
          rcases (show sh = 0 ∨ sh = 1 ∨ sh = 2 by omega) with rfl | rfl | rfl <;> decide
        exact (pk_lLT (by omega) (by omega)).mpr (by omega)
      · exact z
    rw [km_T_24] at s1'
    rw [km_T_32] at s2' s3'
    rw [km_T_88] at s4
    have q5 : ¬ p5 < 0 ∧ ¬ 2 < p5 := by
      rw [kz_i32 p5]
      exact ⟨nI_pos (by omega), fun z => by have := (nI_ltI (a := 2) (by decide) (by omega)).mp z; omega⟩
    have q2 : 1 ≤ p2 := by
      rw [kz_i32 p2]
      exact nI_le (a := 1) s2' (by omega)
    have q4 : ¬ 1024 < p4 := by
      obtain ⟨m, hm, rfl⟩ := nI_of h1
      have hm2 : m ≤ 65535 := (nI_leI (b := 65535) hm (by decide)).mp h2
      rw [nI_l hm, wb_tn (by omega), Nat.mod_eq_of_lt (by rw [show (256 : Nat) ^ 2 = 65536 from rfl]; omega)] at s4
      intro z
      have z2 : 1024 < m := (nI_ltI (a := 1024) (by decide) hm).mp z
      rcases s4 with e | e | e | e
      · have := (lN_eq (b := 128) (by omega) (by decide)).mp e; omega
      · have := (lN_eq (b := 256) (by omega) (by decide)).mp e; omega
      · have := (lN_eq (b := 512) (by omega) (by decide)).mp e; omega
      · have := (lN_eq (b := 1024) (by omega) (by decide)).mp e; omega
    exact ⟨q5.1, q5.2, h1, q4, q2, h3⟩
  · rintro ⟨-, -, h1, h2, -, h3⟩
    rw [← hF] at h3
    refine ⟨h1, ?_, h3⟩
    obtain ⟨m, hm, rfl⟩ := nI_of h1
    have z : ¬ 1024 < m := fun z => h2 ((nI_ltI (a := 1024) (by decide) hm).mpr z)
    exact nI_le (b := 65535) (by omega) (by decide)
theorem kz_layV (ft gd g0 : Nat → Int32) (p1 p2 p3 p4 p5 : Int32) : (if kl_P ft p1 p2 p3 p4 p5 then (kv_gc (kl_T ft p1 p2 p3 p4 p5)).toInt32 else -1) = if km_lP gd p1 p2 p3 p4 p5 then (kv_gc (km_cp g0 (km_T gd p1 p2 p3 p4 p5) 1024)).toInt32 else -1 :=
  kz_iE (kz_lP ft gd p1 p2 p3 p4 p5) (fun _ => by rw [kz_gc (g := km_cp g0 (km_T gd p1 p2 p3 p4 p5) 1024) (kz_of (fun j hj => by rw [km_cpBy, if_pos hj]; exact kz_T ft gd p1 p2 p3 p4 p5 j hj))]) (fun _ => rfl)
theorem kz_layR {f g : Nat → Int32} (h : kz_R f g) (ft gd : Nat → Int32) (p1 p2 p3 p4 p5 : Int32) : kz_R (if kl_P ft p1 p2 p3 p4 p5 then ky_cp f (kl_T ft p1 p2 p3 p4 p5) 1024 else f) (if km_lP gd p1 p2 p3 p4 p5 then km_cp g (km_T gd p1 p2 p3 p4 p5) 1024 else g) :=
  kz_if (kz_lP ft gd p1 p2 p3 p4 p5) (fun _ => kz_cpR (kz_TR ft gd p1 p2 p3 p4 p5) f g) (fun _ => h)
theorem kz_R0 : kz_R (fun _ => 0) (fun _ => 0) := ⟨fun _ _ => rfl, fun _ _ => rfl⟩
