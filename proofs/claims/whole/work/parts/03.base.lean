section KF1
variable {D : va_G} {A B : Nat → Prop} {tys : List (ClassId × FieldType)} {ws wc wr w1 ws2 : va_W} {H H1 : Heap} {locs : List Loc} {s U : State}
theorem kf_nwWarm {w : Cond} (hw : kf_nwOk w = true) (hW : s.WarmedH U.vm) (h : va_Nw w s) : va_Nw w U := by
  cases w <;> first | exact va_Nw.warmF hW h | exact va_Nw.warmM hW h | exact absurd hw (by simp [kf_nwOk])
abbrev kf_Z : Type := String × String × String × Nat × (Nat → Int32)
def ky_few : Nat → Int32 := fun j => match j with
  | 0 => 0
  | 1 => 1
  | 2 => 3
  | 3 => 5
  | 4 => 7
  | 5 => 9
  | 6 => 25
  | 7 => 27
  | _ => 49
def ky_not : Nat → Int32 := fun j => match j with
  | 0 => 12
  | 1 => 19
  | 2 => 44
  | 3 => 53
  | 4 => 58
  | 5 => 59
  | 6 => 90
  | 7 => 91
  | 8 => 232
  | _ => 235
def kf_zF : kf_Z := ("FieldRows", "FEW_COPIES", "[I", 9, ky_few)
def kf_zN : kf_Z := ("FieldRows", "NOT_FOLLOWED", "[I", 10, ky_not)
def kf_zs : List kf_Z := [kf_zF, kf_zN]
def kf_ev (D : va_G) (tys : List (ClassId × FieldType)) (A : Nat → Prop) (U : State) (H : Heap) : Prop :=
  va_K D vwCl tys U ∧ (∀ w ∈ kf_nw, va_Nw w U) ∧ ∀ z ∈ kf_zs, ∃ t : Nat, va_Z z.1 z.2.1 z.2.2.1 (.ref t) A U H ∧ va_T .int t z.2.2.2.1 (fun j => .int (z.2.2.2.2 j)) A U H
theorem kf_evTo (h : kf_ev D tys A s s.heap) (hS : va_S A s.heap H locs) (hU : U.heap = H) (hW : s.WarmedH U.vm) (hB : ∀ q, B q → A q) : kf_ev D tys B U U.heap := by
  obtain ⟨hK, hN, hZ⟩ := h
  refine ⟨va_K.moved hW.alike hK, fun w hw => kf_nwWarm (kf_nwAll w hw) hW (hN w hw), fun z hz => ?_⟩
  obtain ⟨t, h1, h2⟩ := hZ z hz
  rw [hU]
  exact ⟨t, ((h1.kept hS.2.1).narrow hB).moved hW.alike, ((h2.kept hS.2.1).narrow hB).moved hW.alike⟩
theorem kf_evBl {g : JFrame} {mk : MethodId} {a : Array Value} (h : kf_ev D tys A U U.heap) : kf_ev D tys A (U.calling g mk a) (U.calling g mk a).heap := by
  obtain ⟨hK, hN, hZ⟩ := h
  refine ⟨va_K.moved (u := U) (U := U.calling g mk a) (Vm.Alike.refl U.vm) hK, fun w hw => va_Nw.same (u := U) (U := U.calling g mk a) (kf_nwTab w hw) rfl (hN w hw), fun z hz => ?_⟩
  obtain ⟨t, h1, h2⟩ := hZ z hz
  exact ⟨t, va_Z.moved (u := U) (U := U.calling g mk a) (Vm.Alike.refl U.vm) h1, va_T.moved (u := U) (U := U.calling g mk a) (Vm.Alike.refl U.vm) h2⟩
def kf_pr (D : va_G) (tys : List (ClassId × FieldType)) (ws : va_W) (sz : Nat) (U : State) : Prop := U.heap.size = sz ∧ va_P D vwCl ws U.heap ∧ va_D (fun _ => True) ws ∧ kf_ev D tys (va_A ws sz) U U.heap
theorem kf_bl {av : List Value} {sz : Nat} : FrameBlind (va_Pc av (kf_pr D tys ws sz)) := by
  intro a U g mk q
  obtain ⟨q0, q1, qP, qD, qE⟩ := q
  exact ⟨q0, q1, qP, qD, kf_evBl qE⟩
theorem kf_fm {is : List Nat} (h : is.map (fun i => ws[i]?) = wc.map some) : is.filterMap (fun i => ws[i]?) = wc := by
  induction is generalizing wc with
  | nil => cases wc with
    | nil => rfl
    | cons a l => simp at h
  | cons i is ih => cases wc with
    | nil => simp at h
    | cons a l =>
      simp only [List.map_cons, List.cons.injEq] at h
      rw [List.filterMap_cons, h.1]
      simp only [ih h.2]
theorem kf_to (hP : va_P D vwCl ws H) (hD : va_D A ws) (hS : va_S A s.heap H locs) (hA : ∀ q, s.heap.size ≤ q → A q) (hE : kf_ev D tys A s s.heap) (isC : List Nat) (hn : va_nd isC = true) (hC : isC.map (fun i => ws[i]?) = wc.map some) {av : List Value} : ∀ U : State, U.heap = H → s.WarmedH U.vm → va_Pc av (kf_pr D tys wc H.size) av.toArray U := by
  intro U hU hW
  refine ⟨rfl, by rw [hU], ?_, (hD.sub isC hn hC).weaken (fun _ _ _ _ => trivial), kf_evTo hE hS hU hW (va_free hD hS hA isC hC)⟩
  rw [hU]
  exact hP.sub isC (kf_fm hC)
def kf_fq (v : Option Value) (B : State → Prop) (A : Nat → Prop) : Array Value → State → Outcome → State → Prop := fun _ st oc t => (oc = .returned v ∧ B t) ∧ va_F A st t
def kf_po (D : va_G) (ws : va_W) (A : Nat → Prop) (t : State) : Prop := va_P D vwCl ws t.heap ∧ va_D A ws
end KF1
section KF2
variable {p : Program} {l : Launch} {e : Env} {R : Room} {s : State} {m : MethodId} {args : Array Value} {below : List Frame} {meth : Method} {c : Code} {H : Heap} {locs : List Loc} {cells slots : Nat} {Q : State → Prop}
variable {cc : ByteArray} {pc : Nat} {ls : Array Slot} {rest : List Value} {D : va_G} {A : Nat → Prop} {tys : List (ClassId × FieldType)} {ws wc wr w1 ws2 : va_W}
theorem kf_call0 {v : Option Value} {Bp : State → Prop} {A1 : Nat → Prop} {free : Addr → Prop} {a : Array Value} {mc ms : Nat} {st0 : List Value} (hr : va_Run p l e R s m args below meth c H locs cells slots mc ms (F0 m pc ls st0) rest (kf_fq v Bp A1 a) free) (hS : va_S A s.heap H locs) (hA : ∀ q, q < H.size → A1 q → A q) (hf : ∀ q, free q → A q)
    (kk : ∀ (t : State) (H1 : Heap) (locs1 : List Loc), t.heap = H1 → s.vm.Alike t.vm → Bp t → H.size ≤ H1.size → (∀ q : Nat, q < H.size → ¬ A1 q → H1[q]? = H[q]?) → va_S A s.heap H1 locs1 → W p l e R s m args below meth c H1 locs1 (cells + mc) (slots + ms) Q (F0 m (pc + 3) ls (v.toList ++ rest))) : W p l e R s m args below meth c H locs cells slots Q (F0 m pc ls st0) := by
  intro T hT X
  obtain ⟨v', st₀, t, T', L, h0, X', hL, e1, e2, ⟨⟨hv, hb⟩, hz, hk⟩, st⟩ := hr T hT X
  cases hv
  rw [h0] at hz hk
  obtain ⟨t2, a1, b1⟩ := kk t T'.heap (locs ++ L) e1.symm (by rw [← e2]; exact X'.warmed.alike) hb (by rw [e1]; exact hz) (fun q h1 h2 => by rw [e1]; exact hk q h1 h2)
    ⟨Nat.le_trans hS.1 (by rw [e1]; exact hz), fun q h1 h2 => by rw [e1, hk q (Nat.lt_of_lt_of_le h1 hS.1) (fun z => h2 (hA q (Nat.lt_of_lt_of_le h1 hS.1) z))]; exact hS.2.1 q h1 h2, fun q hq => by
      rcases List.mem_append.mp hq with h | h
      · exact hS.2.2 q h
      · exact hf _ (hL q h)⟩ T' rfl X'
  exact ⟨t2, st t2 a1, b1⟩
/-- a call that may change the cells at the places isC: what stands at isR is kept; perm puts all in order -/
theorem kf_kc {v : Option Value} {a : Array Value} {st0 : List Value} {mc ms : Nat} (hP : va_P D vwCl ws H) (hD : va_D A ws) (hS : va_S A s.heap H locs) (hA : ∀ q, s.heap.size ≤ q → A q) (isC isR perm : List Nat) (hC : isC.map (fun i => ws[i]?) = wc.map some) (hR : isR.map (fun i => ws[i]?) = wr.map some) (hn : va_nd isR = true) (hdis : ∀ i ∈ isR, i ∉ isC) (hp1 : va_nd perm = true) (hp2 : perm.map (fun i => (wr ++ w1)[i]?) = ws2.map some)
    (hr : va_Run p l e R s m args below meth c H locs cells slots mc ms (F0 m pc ls st0) rest (kf_fq v (kf_po D w1 (va_A wc H.size)) (va_A wc H.size) a) (va_A wc H.size))
    (kk : ∀ (H1 : Heap) (locs1 : List Loc), va_P D vwCl ws2 H1 → va_D A ws2 → va_S A s.heap H1 locs1 → W p l e R s m args below meth c H1 locs1 (cells + mc) (slots + ms) Q (F0 m (pc + 3) ls (v.toList ++ rest))) : W p l e R s m args below meth c H locs cells slots Q (F0 m pc ls st0) := by
  have hFc := va_free hD hS hA isC hC
  refine kf_call0 hr hS (fun q _ h => hFc q h) hFc (fun t H1 locs1 ht hvm hB hz1 hk1 hS1 => ?_)
  obtain ⟨hP1, hD1⟩ := hB
  rw [ht] at hP1
  obtain ⟨hP2, hD2⟩ := va_join hP hD isC isR hC hR hn hdis hk1 hFc hP1 hD1
  exact kk H1 locs1 (hP2.sub perm (kf_fm hp2)) (hD2.sub perm hp1 hp2) hS1
/-- a call that changes nothing -/
theorem kf_ro {v : Option Value} {a : Array Value} {st0 : List Value} (hP : va_P D vwCl ws H) (hD : va_D A ws) (hS : va_S A s.heap H locs) (hA : ∀ q, s.heap.size ≤ q → A q) (isC : List Nat) (hC : isC.map (fun i => ws[i]?) = wc.map some)
    (hr : va_Run p l e R s m args below meth c H locs cells slots 0 0 (F0 m pc ls st0) rest (kf_fq v (kf_po D wc (va_A wc H.size)) (va_A wc H.size) a) (va_A wc H.size))
    (kk : ∀ (H1 : Heap) (locs1 : List Loc), va_P D vwCl ws H1 → va_S A s.heap H1 locs1 → W p l e R s m args below meth c H1 locs1 cells slots Q (F0 m (pc + 3) ls (v.toList ++ rest))) : W p l e R s m args below meth c H locs cells slots Q (F0 m pc ls st0) := by
  have hFc := va_free hD hS hA isC hC
  refine kf_call0 hr hS (fun q _ h => hFc q h) hFc (fun t H1 locs1 ht hvm hB hz1 hk1 hS1 => ?_)
  obtain ⟨hP1, hD1⟩ := hB
  rw [ht] at hP1
  refine kk H1 locs1 (fun k q hk => ?_) hS1
  have hlt := (hP k q hk).lt
  by_cases hq : va_A wc H.size q.1
  · rcases hq with ⟨j, e', he⟩ | h
    · have h1 : (wc.map some)[j]? = some (some (q.1, e')) := by rw [List.getElem?_map, he]; rfl
      rw [← hC, List.getElem?_map] at h1
      obtain ⟨i, hi, h2⟩ := Option.map_eq_some_iff.mp h1
      have := hD.1 k i q (q.1, e') hk h2 rfl
      subst this
      rw [hk] at h2
      have h3 : q = (q.1, e') := Option.some.inj h2
      rw [h3]
      exact hP1 j _ he
    · omega
  · exact (hP k q hk).kept (hk1 q.1 hlt hq)
abbrev kf_Ct (l : Launch) (y : MethodName) (w : List Cond) (fr lo mc ms : Nat) (D : va_G) (tys : List (ClassId × FieldType)) (av : List Value) (ws : va_W) (sz : Nat) (v : Option Value) (Bp : (Nat → Prop) → State → Prop) : Prop := Met l y w { frames := fr, cells := mc, slots := ms, locals := lo } (va_Pc av (kf_pr D tys ws sz)) (kf_fq v (Bp (va_A ws sz)) (va_A ws sz)) mc ms (va_A ws sz)
theorem kf_of {y : MethodName} {w w' : List Cond} {fr lo mc ms sz maxL : Nat} {av : List Value} {v : Option Value} {Bp : (Nat → Prop) → State → Prop} {ret : Option FieldType} (hy : plainName y.cls = true) (hw : w = .code y cc maxL ret :: w') (hle : (lg_sl av).length ≤ maxL)
    (body : ∀ (p : Program) (e : Env) (s : State) (m : MethodId) (below : List Frame) (meth : Method) (c : Code) (A : Nat → Prop) (H : Heap) (locs : List Loc), p.tables.exec = Jvm.exec → c.code = cc → meth.sig.returnType = ret → c.maxLocals = maxL → s.vm.findClass y.cls = some m.cls → (∀ w' ∈ w, w'.before av.toArray s = true) → meth.locks = false → meth.name = y.name → va_P D vwCl ws H → va_D A ws → va_S A s.heap H locs → (∀ q, s.heap.size ≤ q → A q) → kf_ev D tys A s s.heap → ∀ ls : Array Slot, lv_has ls maxL (lv_args 0 av) →
      W p l e { frames := fr, cells := mc, slots := ms, locals := lo } s m av.toArray below meth c H locs 0 0 (MQ below (kf_fq v (Bp A) A) av.toArray s mc ms A) (F0 m 0 ls [])) : kf_Ct l y w fr lo mc ms D tys av ws sz v Bp := by
  refine Met.ofW (cc := cc) (maxL := maxL) (ret := ret) hy hw ?_
  intro p e s m args below meth c s₁ B hml hv
  obtain ⟨rfl, hsz, hP, hD0, hE⟩ := hv
  subst hsz
  have hl := lv_entry av (n := maxL) hle
  rw [lg_entry_eq]
  exact body p e s m below meth c (va_A ws s.heap.size) s.heap [] B.exec B.bytes B.returns hml (findClass_of_methodNamed B.named) (atoms_spec (ws := w) B.pre) B.notSynchronized (name_of_methodNamed B.named B.method).1 hP (hD0.self (sz := s.heap.size)) va_S.rf (fun q h => Or.inr h) hE _ hl
theorem kf_ir {v v' : Int32} (hx : p.tables.exec = Jvm.exec) (hb : c.code = cc) (hr : meth.sig.returnType = some .int) (hlocks : meth.locks = false) (hP : va_P D vwCl ws H) (hD : va_D A ws) (hS : va_S A s.heap H locs) (hv : v' = v) (hd : decode cc pc = .ok (.ireturn, 1)) : W p l e R s m args below meth c H locs cells slots (MQ below (kf_fq (some (.int v)) (kf_po D ws A) A) args s cells slots A) (F0 m pc ls [.int v']) := by
  subst hv
  exact W.iret (v := v') hx hb hr (fun t ht hW => ⟨⟨rfl, by rw [ht]; exact hP, hD⟩, hS.F ht⟩) hS.2.2 hd
theorem kf_zr {v v' : Int32} (hx : p.tables.exec = Jvm.exec) (hb : c.code = cc) (hr : meth.sig.returnType = some .boolean) (hlocks : meth.locks = false) (hP : va_P D vwCl ws H) (hD : va_D A ws) (hS : va_S A s.heap H locs) (hv : v' = v) (hn : narrow .boolean (.int v) = .int v) (hd : decode cc pc = .ok (.ireturn, 1)) : W p l e R s m args below meth c H locs cells slots (MQ below (kf_fq (some (.int v)) (kf_po D ws A) A) args s cells slots A) (F0 m pc ls [.int v']) := by
  subst hv
  exact W.zret (v := v') hx hb hr hn (fun t ht hW => ⟨⟨rfl, by rw [ht]; exact hP, hD⟩, hS.F ht⟩) hS.2.2 hd
theorem kf_lr {v v' : Int64} (hx : p.tables.exec = Jvm.exec) (hb : c.code = cc) (hr : meth.sig.returnType = some .long) (hlocks : meth.locks = false) (hP : va_P D vwCl ws H) (hD : va_D A ws) (hS : va_S A s.heap H locs) (hv : v' = v) (hd : decode cc pc = .ok (.lreturn, 1)) : W p l e R s m args below meth c H locs cells slots (MQ below (kf_fq (some (.long v)) (kf_po D ws A) A) args s cells slots A) (F0 m pc ls [.long v']) := by
  subst hv
  exact W.lret (v := v') hx hb hr (fun t ht hW => ⟨⟨rfl, by rw [ht]; exact hP, hD⟩, hS.F ht⟩) hS.2.2 hd
theorem kf_vr {Bp : (Nat → Prop) → State → Prop} (hx : p.tables.exec = Jvm.exec) (hb : c.code = cc) (hr : meth.sig.returnType = none) (hlocks : meth.locks = false) (hB : ∀ t : State, t.heap = H → s.WarmedH t.vm → Bp A t) (hS : va_S A s.heap H locs) (hd : decode cc pc = .ok (.return_, 1)) : W p l e R s m args below meth c H locs cells slots (MQ below (kf_fq none (Bp A) A) args s cells slots A) (F0 m pc ls []) :=
  W.vret hx hb hr (fun t ht hW => ⟨⟨rfl, hB t ht hW⟩, hS.F ht⟩) hS.2.2 hd
theorem kf_poAt (hP : va_P D vwCl ws H) (hD : va_D A ws) : ∀ t : State, t.heap = H → s.WarmedH t.vm → kf_po D ws A t := fun t ht _ => ⟨by rw [ht]; exact hP, hD⟩
theorem kf_ar {v : Value} {rt : FieldType} (hx : p.tables.exec = Jvm.exec) (hb : c.code = cc) (hr : meth.sig.returnType = some rt) (hlocks : meth.locks = false) (hrt : (∃ n, rt = .object n) ∨ ∃ t, rt = .array t) (hv : v = .null ∨ ∃ a, v = .ref a) (hP : va_P D vwCl ws H) (hD : va_D A ws) (hS : va_S A s.heap H locs) (hd : decode cc pc = .ok (.areturn, 1)) : W p l e R s m args below meth c H locs cells slots (MQ below (kf_fq (some v) (kf_po D ws A) A) args s cells slots A) (F0 m pc ls [v]) :=
  W.aret hx hb hr hrt hv (fun t ht hW => ⟨⟨rfl, by rw [ht]; exact hP, hD⟩, hS.F ht⟩) hS.2.2 hd
/-- a loop whose world may change: a measure falls -/
theorem kf_loop {σ : Type} (I : σ → Array Slot → Heap → List Loc → Prop) (μ : σ → Nat) (st : σ) (h : I st ls H locs)
    (step : ∀ (st : σ) (ls : Array Slot) (H : Heap) (locs : List Loc), I st ls H locs → (∀ (st' : σ) (ls' : Array Slot) (H' : Heap) (locs' : List Loc), μ st' < μ st → I st' ls' H' locs' → W p l e R s m args below meth c H' locs' cells slots Q (F0 m pc ls' rest)) → W p l e R s m args below meth c H locs cells slots Q (F0 m pc ls rest)) : W p l e R s m args below meth c H locs cells slots Q (F0 m pc ls rest) := by
  have key : ∀ (n : Nat) (st : σ) (ls : Array Slot) (H : Heap) (locs : List Loc), μ st < n → I st ls H locs → W p l e R s m args below meth c H locs cells slots Q (F0 m pc ls rest) := by
    intro n
    induction n with
    | zero => intro st ls H locs hn; exact absurd hn (Nat.not_lt_zero _)
    | succ n ih => intro st ls H locs hn hi; exact step st ls H locs hi (fun st' ls' H' locs' hm hi' => ih st' ls' H' locs' (by omega) hi')
  exact key (μ st + 1) st ls H locs (Nat.lt_succ_self _) h
theorem kf_t {x y : Value} (h : x = y) (k : W p l e R s m args below meth c H locs cells slots Q (F0 m pc ls (y :: rest))) : W p l e R s m args below meth c H locs cells slots Q (F0 m pc ls (x :: rest)) := h ▸ k
theorem kf_ti {x y : Int32} (h : x = y) (k : W p l e R s m args below meth c H locs cells slots Q (F0 m pc ls (.int y :: rest))) : W p l e R s m args below meth c H locs cells slots Q (F0 m pc ls (.int x :: rest)) := h ▸ k
theorem kf_tl {x y : Int64} (h : x = y) (k : W p l e R s m args below meth c H locs cells slots Q (F0 m pc ls (.long y :: rest))) : W p l e R s m args below meth c H locs cells slots Q (F0 m pc ls (.long x :: rest)) := h ▸ k
theorem kf_lc_eq (hx : p.tables.exec = Jvm.exec) (hb : c.code = cc) {x y : Int64} {off : Int} {tgt : Nat} (hd1 : decode cc pc = .ok (.lcmp, 1)) (hd2 : decode cc (pc + 1) = .ok (.ifCond .eq off, 3)) (ht : ((pc + 1 : Nat) : Int) + off = (tgt : Int)) (kt : x = y → W p l e R s m args below meth c H locs cells slots Q (F0 m tgt ls rest)) (kf : ¬ x = y → W p l e R s m args below meth c H locs cells slots Q (F0 m (pc + 1 + 3) ls rest)) : W p l e R s m args below meth c H locs cells slots Q (F0 m pc ls (.long y :: .long x :: rest)) :=
  W.lcmp hx hb hd1 (lv_if_eq hx hb hd2 ht (fun h => kt ((lg_cmp_eq x y).mp h)) (fun h => kf (fun q => h ((lg_cmp_eq x y).mpr q))))
theorem kf_lc_ne (hx : p.tables.exec = Jvm.exec) (hb : c.code = cc) {x y : Int64} {off : Int} {tgt : Nat} (hd1 : decode cc pc = .ok (.lcmp, 1)) (hd2 : decode cc (pc + 1) = .ok (.ifCond .ne off, 3)) (ht : ((pc + 1 : Nat) : Int) + off = (tgt : Int)) (kt : ¬ x = y → W p l e R s m args below meth c H locs cells slots Q (F0 m tgt ls rest)) (kf : x = y → W p l e R s m args below meth c H locs cells slots Q (F0 m (pc + 1 + 3) ls rest)) : W p l e R s m args below meth c H locs cells slots Q (F0 m pc ls (.long y :: .long x :: rest)) :=
  W.lcmp hx hb hd1 (lv_if_ne hx hb hd2 ht (fun h => kt (fun q => h ((lg_cmp_eq x y).mpr q))) (fun h => kf ((lg_cmp_eq x y).mp h)))
theorem kf_lc_lt (hx : p.tables.exec = Jvm.exec) (hb : c.code = cc) {x y : Int64} {off : Int} {tgt : Nat} (hd1 : decode cc pc = .ok (.lcmp, 1)) (hd2 : decode cc (pc + 1) = .ok (.ifCond .lt off, 3)) (ht : ((pc + 1 : Nat) : Int) + off = (tgt : Int)) (kt : x < y → W p l e R s m args below meth c H locs cells slots Q (F0 m tgt ls rest)) (kf : ¬ x < y → W p l e R s m args below meth c H locs cells slots Q (F0 m (pc + 1 + 3) ls rest)) : W p l e R s m args below meth c H locs cells slots Q (F0 m pc ls (.long y :: .long x :: rest)) :=
  W.lcmp hx hb hd1 (lv_if_lt hx hb hd2 ht (fun h => kt ((lg_cmp_lt x y).mp h)) (fun h => kf (fun q => h ((lg_cmp_lt x y).mpr q))))
theorem kf_lc_ge (hx : p.tables.exec = Jvm.exec) (hb : c.code = cc) {x y : Int64} {off : Int} {tgt : Nat} (hd1 : decode cc pc = .ok (.lcmp, 1)) (hd2 : decode cc (pc + 1) = .ok (.ifCond .ge off, 3)) (ht : ((pc + 1 : Nat) : Int) + off = (tgt : Int)) (kt : y ≤ x → W p l e R s m args below meth c H locs cells slots Q (F0 m tgt ls rest)) (kf : ¬ y ≤ x → W p l e R s m args below meth c H locs cells slots Q (F0 m (pc + 1 + 3) ls rest)) : W p l e R s m args below meth c H locs cells slots Q (F0 m pc ls (.long y :: .long x :: rest)) :=
  W.lcmp hx hb hd1 (lv_if_ge hx hb hd2 ht (fun h => kt ((lg_cmp_ge x y).mp h)) (fun h => kf (fun q => h ((lg_cmp_ge x y).mpr q))))
theorem kf_lc_gt (hx : p.tables.exec = Jvm.exec) (hb : c.code = cc) {x y : Int64} {off : Int} {tgt : Nat} (hd1 : decode cc pc = .ok (.lcmp, 1)) (hd2 : decode cc (pc + 1) = .ok (.ifCond .gt off, 3)) (ht : ((pc + 1 : Nat) : Int) + off = (tgt : Int)) (kt : y < x → W p l e R s m args below meth c H locs cells slots Q (F0 m tgt ls rest)) (kf : ¬ y < x → W p l e R s m args below meth c H locs cells slots Q (F0 m (pc + 1 + 3) ls rest)) : W p l e R s m args below meth c H locs cells slots Q (F0 m pc ls (.long y :: .long x :: rest)) :=
  W.lcmp hx hb hd1 (lv_if_gt hx hb hd2 ht (fun h => kt ((lg_cmp_gt x y).mp h)) (fun h => kf (fun q => h ((lg_cmp_gt x y).mpr q))))
theorem kf_lc_le (hx : p.tables.exec = Jvm.exec) (hb : c.code = cc) {x y : Int64} {off : Int} {tgt : Nat} (hd1 : decode cc pc = .ok (.lcmp, 1)) (hd2 : decode cc (pc + 1) = .ok (.ifCond .le off, 3)) (ht : ((pc + 1 : Nat) : Int) + off = (tgt : Int)) (kt : x ≤ y → W p l e R s m args below meth c H locs cells slots Q (F0 m tgt ls rest)) (kf : ¬ x ≤ y → W p l e R s m args below meth c H locs cells slots Q (F0 m (pc + 1 + 3) ls rest)) : W p l e R s m args below meth c H locs cells slots Q (F0 m pc ls (.long y :: .long x :: rest)) :=
  W.lcmp hx hb hd1 (lv_if_le hx hb hd2 ht (fun h => kt ((lg_cmp_le x y).mp h)) (fun h => kf (fun q => h ((lg_cmp_le x y).mpr q))))
end KF2
abbrev kT (cB cI : ClassId) : List (ClassId × FieldType) := [(cB, .byte), (cI, .int)]
