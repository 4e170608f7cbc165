def kv_form (f : Nat → Int32) (sh fs : Int64) : Int32 := if ¬ lN (ky_le f 56 2) = 61267 then 56 else if ¬ lN (ky_le f 76 4) = 1 then 76 else if ¬ sh ≤ 2 then 24 else if ¬ lN (ky_le f 28 4) = sh then 28 else if ¬ fs = (kP (sh = 0)).toInt64 then 20 else -2
def kv_gs (f : Nat → Int32) (zz gb rb gf rk : Int64) : Int32 := if ¬ ky_e8P gb 64 (8 * zz) then 32 else if ¬ lN (ky_le f 36 4) = gb then 36 else if ¬ ky_rlP rb then 88 else if ky_e8P gf 16 (8 * zz) ∧ rk * zz = gf * rb then -2 else 40
def kv_ct (f : Nat → Int32) (fi bl gf gc : Int64) (fc : Int32) : Int32 := if ¬ fi = gc * gf then 0 else if ¬ lN (ky_le f 8 4) ≤ bl then 8 else if ¬ lN (ky_le f 12 4) ≤ bl then 12 else if ¬ lN (ky_le f 16 4) ≤ fi then 16 else if ¬ (lN (ky_le f 58 2) = 1 ∨ lN (ky_le f 58 2) = 3) then 58 else if lN (ky_le f 84 4) < 11 ∨ ¬ lN (ky_le f 84 4) ≤ fi then 84 else if ¬ gc ≤ lN (ky_le f 90 2) ∧ ky_hcP fc (lN (ky_le f 90 2)) then -2 else 90
abbrev kv_ub (ft li : Int64) (k : Nat) : Prop := (ft &&& (li ^^^ (-1 : Int64))) &&& ((1 : Int64) <<< ((nI k).toInt64 &&& 63)) = 0
def kv_unl (wd : Int32) (ft li : Int64) : Nat → Int32
  | 0 => -2
  | n + 1 => if kv_ub ft li (31 - n) then kv_unl wd ft li n else 2000 + 32 * wd + nI (31 - n)
def kv_ft (f : Nat → Int32) : Int32 := if ¬ kv_unl 0 (lN (ky_le f 92 4)) 36 32 = -2 then kv_unl 0 (lN (ky_le f 92 4)) 36 32 else if ¬ kv_unl 1 (lN (ky_le f 96 4)) 70 32 = -2 then kv_unl 1 (lN (ky_le f 96 4)) 70 32 else if ¬ lN (ky_le f 96 4) &&& 66 = 66 then 96 else kv_unl 2 (lN (ky_le f 100 4)) 3 32
def kv_re (f : Nat → Int32) (fi : Int64) : Int32 := if ¬ lN (ky_le f 224 4) = (if lN (ky_le f 92 4) &&& 4 = 0 then 0 else 8) then 224 else if ¬ lN (ky_le f 232 4) ≤ fi then 232 else if ¬ lN (ky_le f 252 1) = (if lN (ky_le f 92 4) &&& 32 = 0 then 0 else 1) then 252 else if lN (ky_le f 254 2) = 0 then -2 else 254
abbrev kv_rmP (bl fs gb gc cb rk : Int64) (fc : Int32) : Prop := ¬ bl ≤ fs ∧ ¬ 16777216 < bl ∧ gc ≤ 64 ∧ ∀ k, k < gc.toInt.toNat → ky_bc fc cb (lN k) + 2 + rk < ky_min gb (bl - (fs + lN k * gb))
theorem kv_le {gc : Int64} {k : Nat} (hk : k < 2 ^ 31) : gc ≤ lN k ↔ gc.toInt.toNat ≤ k := by
  rw [Int64.le_iff_toInt_le, lN_toInt hk]
  omega
theorem kv_64 {gc : Int64} (h : gc ≤ 64) : gc.toInt.toNat ≤ 64 := (kv_le (k := 64) (by decide)).mp h
def kv_size (f : Nat → Int32) : Int64 := (1024 : Int64) <<< ((lN (ky_le f 24 4)).toInt32.toInt64 &&& 63)
def kv_few (f : Nat → Int32) : Int32 := kP (¬ lN (ky_le f 100 4) &&& 1 = 0)
def kv_gc (f : Nat → Int32) : Int64 := ky_qU (lN (ky_le f 4 4) - lN (ky_le f 20 4)) (lN (ky_le f 32 4))
def kv_cb (f : Nat → Int32) : Int64 := 1 + ky_qU (kv_gc f * 32) (kv_size f)
def kv_rk (f : Nat → Int32) : Int64 := ky_qU (lN (ky_le f 40 4) * lN (ky_le f 88 2)) (kv_size f)
def kv_fault (f : Nat → Int32) : Int32 :=
  if ¬ kv_form f (lN (ky_le f 24 4)) (lN (ky_le f 20 4)) = -2 then kv_form f (lN (ky_le f 24 4)) (lN (ky_le f 20 4))
  else if ¬ kv_gs f (kv_size f) (lN (ky_le f 32 4)) (lN (ky_le f 88 2)) (lN (ky_le f 40 4)) (kv_rk f) = -2 then kv_gs f (kv_size f) (lN (ky_le f 32 4)) (lN (ky_le f 88 2)) (lN (ky_le f 40 4)) (kv_rk f)
  else if ¬ kv_rmP (lN (ky_le f 4 4)) (lN (ky_le f 20 4)) (lN (ky_le f 32 4)) (kv_gc f) (kv_cb f) (kv_rk f) (kv_few f) then 4
  else if ¬ kv_ct f (lN (ky_le f 0 4)) (lN (ky_le f 4 4)) (lN (ky_le f 40 4)) (kv_gc f) (kv_few f) = -2 then kv_ct f (lN (ky_le f 0 4)) (lN (ky_le f 4 4)) (lN (ky_le f 40 4)) (kv_gc f) (kv_few f)
  else if ¬ kv_ft f = -2 then kv_ft f
  else kv_re f (lN (ky_le f 0 4))
