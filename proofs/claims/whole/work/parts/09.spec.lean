section KX
variable {p : Program} {l : Launch} {e : Env} {R : Room} {s : State} {m : MethodId} {args : Array Value} {below : List Frame} {meth : Method} {c : Code} {H : Heap} {locs : List Loc} {cells slots : Nat} {Q : State → Prop}
variable {cc : ByteArray} {pc : Nat} {ls : Array Slot} {rest : List Value} {D : va_G} {A : Nat → Prop} {tys : List (ClassId × FieldType)} {ws wc wr : va_W}
theorem kf_irB {Bp : (Nat → Prop) → State → Prop} {v v' : Int32} (hx : p.tables.exec = Jvm.exec) (hb : c.code = cc) (hr : meth.sig.returnType = some .int) (hlocks : meth.locks = false) (hB : ∀ t : State, t.heap = H → s.WarmedH t.vm → Bp A t) (hS : va_S A s.heap H locs) (hv : v' = v) (hd : decode cc pc = .ok (.ireturn, 1)) : W p l e R s m args below meth c H locs cells slots (MQ below (kf_fq (some (.int v)) (Bp A) A) args s cells slots A) (F0 m pc ls [.int v']) := by
  subst hv
  exact W.iret (v := v') hx hb hr (fun t ht hW => ⟨⟨rfl, hB t ht hW⟩, hS.F ht⟩) hS.2.2 hd
theorem kf_lrB {Bp : (Nat → Prop) → State → Prop} {v v' : Int64} (hx : p.tables.exec = Jvm.exec) (hb : c.code = cc) (hr : meth.sig.returnType = some .long) (hlocks : meth.locks = false) (hB : ∀ t : State, t.heap = H → s.WarmedH t.vm → Bp A t) (hS : va_S A s.heap H locs) (hv : v' = v) (hd : decode cc pc = .ok (.lreturn, 1)) : W p l e R s m args below meth c H locs cells slots (MQ below (kf_fq (some (.long v)) (Bp A) A) args s cells slots A) (F0 m pc ls [.long v']) := by
  subst hv
  exact W.lret (v := v') hx hb hr (fun t ht hW => ⟨⟨rfl, hB t ht hW⟩, hS.F ht⟩) hS.2.2 hd
/-- a call behind which the cells hold something of a kind -/
theorem kf_kx {S : Type} {v : Option Value} {a : Array Value} {st0 : List Value} {mc ms : Nat} {w1 ws2 : S → va_W} (hP : va_P D vwCl ws H) (hD : va_D A ws) (hS : va_S A s.heap H locs) (hA : ∀ q, s.heap.size ≤ q → A q) (isC isR perm : List Nat) (hC : isC.map (fun i => ws[i]?) = wc.map some) (hR : isR.map (fun i => ws[i]?) = wr.map some) (hn : va_nd isR = true) (hdis : ∀ i ∈ isR, i ∉ isC) (hp1 : va_nd perm = true) (hp2 : ∀ u : S, perm.map (fun i => (wr ++ w1 u)[i]?) = (ws2 u).map some)
    (hr : va_Run p l e R s m args below meth c H locs cells slots mc ms (F0 m pc ls st0) rest (kf_fq v (fun t => ∃ u : S, kf_po D (w1 u) (va_A wc H.size) t) (va_A wc H.size) a) (va_A wc H.size))
    (kk : ∀ (u : S) (H1 : Heap) (locs1 : List Loc), va_P D vwCl (ws2 u) H1 → va_D A (ws2 u) → va_S A s.heap H1 locs1 → W p l e R s m args below meth c H1 locs1 (cells + mc) (slots + ms) Q (F0 m (pc + 3) ls (v.toList ++ rest))) : W p l e R s m args below meth c H locs cells slots Q (F0 m pc ls st0) := by
  have hFc := va_free hD hS hA isC hC
  refine kf_call0 hr hS (fun q _ h => hFc q h) hFc (fun t H1 locs1 ht hvm hB hz1 hk1 hS1 => ?_)
  obtain ⟨u, hP1, hD1⟩ := hB
  rw [ht] at hP1
  obtain ⟨hP2, hD2⟩ := va_join hP hD isC isR hC hR hn hdis hk1 hFc hP1 hD1
  exact kk u H1 locs1 (hP2.sub perm (kf_fm (hp2 u))) (hD2.sub perm hp1 (hp2 u)) hS1
abbrev kw_FR (cB : ClassId) (x r0 b0 r1 b1 tr bt vo : Nat) (f0 f1 : Nat → Int32) (u : (Nat → Int32) × (Nat → Int64) × Int32) : va_W :=
  [(x, .inr (2, [.ref r0, .ref r1, .ref tr, .ref vo])), (r0, .inr (0, [.ref b0])), (b0, .inl (cB, 1024, .inl f0)), (r1, .inr (0, [.ref b1])), (b1, .inl (cB, 1024, .inl f1)), (tr, .inr (0, [.ref bt])), (bt, .inl (cB, 1024, .inl u.1)),
   (vo, .inr (1, [.long (u.2.1 0), .long (u.2.1 1), .long (u.2.1 2), .long (u.2.1 3), .long (u.2.1 4), .long (u.2.1 5), .long (u.2.1 6), .long (u.2.1 7), .int u.2.2, .long (u.2.1 9), .long (u.2.1 10), .long (u.2.1 11)]))]
abbrev kx_FR (D : va_G) (cB : ClassId) (x r0 b0 r1 b1 tr bt vo : Nat) (f0 f1 : Nat → Int32) (A : Nat → Prop) (t : State) : Prop := ∃ u : (Nat → Int32) × (Nat → Int64) × Int32, kf_po D (kw_FR cB x r0 b0 r1 b1 tr bt vo f0 f1 u) A t
def kx_L (v0 v1 v2 v3 v4 v5 v6 v7 v9 v10 v11 : Int64) : Nat → Int64 := fun k => match k with
  | 0 => v0
  | 1 => v1
  | 2 => v2
  | 3 => v3
  | 4 => v4
  | 5 => v5
  | 6 => v6
  | 7 => v7
  | 8 => 0
  | 9 => v9
  | 10 => v10
  | _ => v11
theorem kx_at {cB : ClassId} {x r0 b0 r1 b1 tr bt vo : Nat} {f0 f1 ft : Nat → Int32} {v0 v1 v2 v3 v4 v5 v6 v7 v9 v10 v11 : Int64} {v8 : Int32}
    (hP : va_P D vwCl [(x, .inr (2, [.ref r0, .ref r1, .ref tr, .ref vo])), (r0, .inr (0, [.ref b0])), (b0, .inl (cB, 1024, .inl f0)), (r1, .inr (0, [.ref b1])), (b1, .inl (cB, 1024, .inl f1)), (tr, .inr (0, [.ref bt])), (bt, .inl (cB, 1024, .inl ft)), (vo, .inr (1, [.long v0, .long v1, .long v2, .long v3, .long v4, .long v5, .long v6, .long v7, .int v8, .long v9, .long v10, .long v11]))] H)
    (hD : va_D A [(x, .inr (2, [.ref r0, .ref r1, .ref tr, .ref vo])), (r0, .inr (0, [.ref b0])), (b0, .inl (cB, 1024, .inl f0)), (r1, .inr (0, [.ref b1])), (b1, .inl (cB, 1024, .inl f1)), (tr, .inr (0, [.ref bt])), (bt, .inl (cB, 1024, .inl ft)), (vo, .inr (1, [.long v0, .long v1, .long v2, .long v3, .long v4, .long v5, .long v6, .long v7, .int v8, .long v9, .long v10, .long v11]))]) :
    ∀ t : State, t.heap = H → s.WarmedH t.vm → kx_FR D cB x r0 b0 r1 b1 tr bt vo f0 f1 A t := fun t ht _ => ⟨(ft, kx_L v0 v1 v2 v3 v4 v5 v6 v7 v9 v10 v11, v8), by rw [ht]; exact hP, hD⟩
end KX
theorem ky_row (r : Int32) : r = 0 ∨ r = 1 ∨ (¬ r = 0 ∧ ¬ r = 1) := by
  by_cases h0 : r = 0
  · exact Or.inl h0
  · by_cases h1 : r = 1
    · exact Or.inr (Or.inl h1)
    · exact Or.inr (Or.inr ⟨h0, h1⟩)
abbrev kr_pokeP (i v : Int32) : Prop := ky_isFP i 1 ∧ ¬ v < 0 ∧ v ≤ 255
abbrev kr_grP (f : Nat → Int32) (g : Int32) : Prop := kv_fault f = -2 ∧ ¬ g < 0 ∧ ¬ kv_gc f ≤ g.toInt64
abbrev kr_foP (i : Int32) : Prop := ∀ j, j < 5 → ¬ (¬ i < ky_not (2 * j) ∧ ¬ ky_not (2 * j + 1) < i)
def kr_df (f0 f1 : Nat → Int32) : Nat → Int32
  | 0 => -2
  | n + 1 => if lN (ky_le f0 (1023 - n) 1) = lN (ky_le f1 (1023 - n) 1) then kr_df f0 f1 n else if kr_foP (nI (1023 - n)) then nI (1023 - n) else kr_df f0 f1 n
def kr_bs (f : Nat → Int32) (g : Int64) : Int64 := lN (ky_le f 20 4) + g * lN (ky_le f 32 4)
def kr_where (f : Nat → Int32) (g w : Int32) : Int32 :=
  if ¬ kr_grP f g then -1
  else if w = 0 then (lN (ky_le f 20 4) + g.toInt64 * lN (ky_le f 32 4)).toInt32
  else if w = 1 then (ky_min (lN (ky_le f 32 4)) (lN (ky_le f 4 4) - (lN (ky_le f 20 4) + g.toInt64 * lN (ky_le f 32 4)))).toInt32
  else if w = 2 then (if ky_hcP (kv_few f) g.toInt64 then 1 else 0)
  else if w = 3 then (lN (ky_le f 20 4) + g.toInt64 * lN (ky_le f 32 4) + ky_bc (kv_few f) (kv_cb f) g.toInt64).toInt32
  else if w = 4 then (lN (ky_le f 20 4) + g.toInt64 * lN (ky_le f 32 4) + ky_bc (kv_few f) (kv_cb f) g.toInt64 + 1).toInt32
  else if w = 5 then (lN (ky_le f 20 4) + g.toInt64 * lN (ky_le f 32 4) + ky_bc (kv_few f) (kv_cb f) g.toInt64 + 1 + 1).toInt32
  else if w = 6 then (kv_rk f).toInt32
  else if w = 7 then (ky_bc (kv_few f) (kv_cb f) g.toInt64 + 2 + kv_rk f).toInt32
  else -1
theorem ky_sw8 (w : Int32) : w = 0 ∨ w = 1 ∨ w = 2 ∨ w = 3 ∨ w = 4 ∨ w = 5 ∨ w = 6 ∨ w = 7 ∨ ((w.toInt < 0 ∨ 7 < w.toInt) ∧ ¬ w = 0 ∧ ¬ w = 1 ∧ ¬ w = 2 ∧ ¬ w = 3 ∧ ¬ w = 4 ∧ ¬ w = 5 ∧ ¬ w = 6 ∧ ¬ w = 7) := by
  by_cases h : w.toInt < 0 ∨ 7 < w.toInt
  · refine Or.inr (Or.inr (Or.inr (Or.inr (Or.inr (Or.inr (Or.inr (Or.inr ⟨h, ?_⟩)))))))
    refine ⟨?_, ?_, ?_, ?_, ?_, ?_, ?_, ?_⟩ <;> (rintro rfl; revert h; decide)
  · have hw : ∀ k : Int32, w.toInt = k.toInt → w = k := fun k q => Int32.toInt_inj.mp q
    rcases (show w.toInt = 0 ∨ w.toInt = 1 ∨ w.toInt = 2 ∨ w.toInt = 3 ∨ w.toInt = 4 ∨ w.toInt = 5 ∨ w.toInt = 6 ∨ w.toInt = 7 by omega) with q | q | q | q | q | q | q | q
    · exact Or.inl (hw 0 q)
    · exact Or.inr (Or.inl (hw 1 q))
    · exact Or.inr (Or.inr (Or.inl (hw 2 q)))
    · exact Or.inr (Or.inr (Or.inr (Or.inl (hw 3 q))))
    · exact Or.inr (Or.inr (Or.inr (Or.inr (Or.inl (hw 4 q)))))
    · exact Or.inr (Or.inr (Or.inr (Or.inr (Or.inr (Or.inl (hw 5 q))))))
    · exact Or.inr (Or.inr (Or.inr (Or.inr (Or.inr (Or.inr (Or.inl (hw 6 q)))))))
    · exact Or.inr (Or.inr (Or.inr (Or.inr (Or.inr (Or.inr (Or.inr (Or.inl (hw 7 q))))))))
def kr_g (f : Nat → Int32) (n : Int32) : Int64 := ky_q (n.toInt64 - 1) (lN (ky_le f 40 4))
def kr_by (f : Nat → Int32) (n : Int32) : Int64 := (n.toInt64 - 1 - kr_g f n * lN (ky_le f 40 4)) * lN (ky_le f 88 2)
def kr_bl (f : Nat → Int32) (n : Int32) : Int64 := ky_q (kr_by f n) (kv_size f)
def kr_record (f : Nat → Int32) (n pl : Int32) : Int32 :=
  if ¬ kv_fault f = -2 ∨ n < 1 ∨ ¬ n.toInt64 ≤ lN (ky_le f 0 4) then -1
  else if pl = 0 then (lN (ky_le f 20 4) + kr_g f n * lN (ky_le f 32 4) + ky_bc (kv_few f) (kv_cb f) (kr_g f n) + 1 + 1 + kr_bl f n).toInt32
  else (kr_by f n - kr_bl f n * kv_size f).toInt32
def kl_T1 (ft : Nat → Int32) (p1 p2 p3 p4 p5 : Int32) : Nat → Int32 :=
  ky_wr (ky_wr (ky_wr (ky_wr (ky_wr (ky_wr (ky_wr (ky_wr (ky_wc (ky_cp ft (fun _ => 0) 1024)) 4 p1.toInt64 4) 20 (kP (p5.toInt64 = 0)).toInt64 4) 24 p5.toInt64 4) 28 p5.toInt64 4) 32 p2.toInt64 4) 36 p2.toInt64 4) 40 p3.toInt64 4) 88 p4.toInt64 2
def kl_T (ft : Nat → Int32) (p1 p2 p3 p4 p5 : Int32) : Nat → Int32 := ky_wr (kl_T1 ft p1 p2 p3 p4 p5) 0 (kv_gc (kl_T1 ft p1 p2 p3 p4 p5) * p3.toInt64) 4
abbrev kl_P (ft : Nat → Int32) (p1 p2 p3 p4 p5 : Int32) : Prop := ¬ p4 < 0 ∧ p4 ≤ 65535 ∧ kv_fault (kl_T ft p1 p2 p3 p4 p5) = -2
