def nestF : List (String × Nat × String × String × String × String) := [("GenericRegions$Reader", 157, "GenericRegions$FaxLine", "NEAR_DIGITS", "[I", "GenericRegions"), ("GenericRegions$Reader", 161, "GenericRegions$FaxLine", "NEAR_LENGTHS", "[I", "GenericRegions"), ("GenericRegions$Teller", 147, "GenericRegions$FaxLine", "NEAR_DIGITS", "[I", "GenericRegions"), ("GenericRegions$Teller", 151, "GenericRegions$FaxLine", "NEAR_LENGTHS", "[I", "GenericRegions")]
def nestM : List (String × Nat × MethodName × String) := [("GenericRegions", 46, ⟨"GenericRegions$Ways", "<init>", "()V"⟩, "GenericRegions"), ("GenericRegions", 73, ⟨"GenericRegions$Inflow", "<init>", "()V"⟩, "GenericRegions")]
def nestC : List (String × String) := [("[I", "java/lang/Cloneable"), ("java/lang/IndexOutOfBoundsException", "java/lang/IndexOutOfBoundsException"), ("java/lang/IllegalArgumentException", "java/lang/IllegalArgumentException"), ("java/lang/UnsupportedOperationException", "java/lang/UnsupportedOperationException")]
-- our own helpers: one world's shape for every method's start and end
abbrev ty3 (cI cZ cJ : ClassId) : List (ClassId × FieldType) := [(cI, .int), (cZ, .boolean), (cJ, .long)]
-- the tables: static arrays that nobody writes, by their numbers; tq: where they lie; the links across the nest
def nsF (q : String × Nat × String × String × String × String) : Cond := .fieldLinkNest q.1 q.2.1 q.2.2.1 q.2.2.2.1 q.2.2.2.2.1 q.2.2.2.2.2
def nsM (q : String × Nat × MethodName × String) : Cond := .methodLinkNest q.1 q.2.1 q.2.2.1 q.2.2.2
/-- (the last piece, that a table's array is of the class called [I, the Statement doesn't give: it stands open at the law's entry) -/
def GT (tq : Nat → Nat) (cI : ClassId) (A : Nat → Prop) (U : State) : Prop := (∀ k, k < tbK → va_T .int (tq k) (tbN k) (fun j => .int (tbV k j)) A U U.heap) ∧ (∀ k, k < tbK → va_Z (tbC k) (tbM k) "[I" (.ref (tq k)) A U U.heap) ∧ (∀ q ∈ nestF, va_Nw (nsF q) U) ∧ (∀ q ∈ nestM, va_Nw (nsM q) U) ∧ (∀ q ∈ nestC, va_Nw (.castable q.1 q.2) U) ∧ (∀ k, k < tbK → U.heap[tq k]? = some (vp_cell cI (tbN k, .inl (tbV k))))
theorem gt_moved {tq : Nat → Nat} {cI : ClassId} {A : Nat → Prop} {u U : State} (hv : u.vm = U.vm) (hh : U.heap = u.heap) (h : GT tq cI A u) : GT tq cI A U := by
  obtain ⟨h1, h2, h3, h4, h6, h5⟩ := h
  have hvm : u.vm.Alike U.vm := by rw [hv]; exact Vm.Alike.refl U.vm
  refine ⟨fun k hk => ?_, fun k hk => ?_, fun q hq => (h3 q hq).same rfl hv, fun q hq => (h4 q hq).same rfl hv, fun q hq => (h6 q hq).same rfl hv, fun k hk => by rw [hh]; exact h5 k hk⟩
  · rw [hh]; exact (h1 k hk).moved hvm
  · rw [hh]; exact (h2 k hk).moved hvm
theorem gt_go {tq : Nat → Nat} {cI : ClassId} {A B : Nat → Prop} {s U : State} {H : Heap} {locs : List Loc} (h : GT tq cI A s) (hS : va_S A s.heap H locs) (hF : ∀ q, B q → A q) (hU : U.heap = H) (hW : s.WarmedH U.vm) : GT tq cI B U := by
  obtain ⟨h1, h2, h3, h4, h6, h5⟩ := h
  refine ⟨fun k hk => ?_, fun k hk => ?_, fun q hq => va_Nw.warmF hW (h3 q hq), fun q hq => va_Nw.warmM hW (h4 q hq), fun q hq => va_Nw.warmC hW (h6 q hq), fun k hk => ?_⟩
  · rw [hU]; exact (((h1 k hk).kept hS.2.1).narrow hF).moved hW.alike
  · rw [hU]; exact (((h2 k hk).kept hS.2.1).narrow hF).moved hW.alike
  · obtain ⟨cell, e1, -, -, -, -, -, e7⟩ := h1 k hk
    rw [hU, hS.2.1 (tq k) (Array.getElem?_eq_some_iff.mp e1).1 e7]
    exact h5 k hk
/-- what a walk needs of the method that it stands in -/
def cx (p : Program) (s : State) (m : MethodId) (meth : Method) (c : Code) (args : Array Value) (cc : ByteArray) (ret : Option FieldType) (nL : Nat) (own : String) (D : va_G) (cI cZ cJ : ClassId) (tq : Nat → Nat) (A : Nat → Prop) : Prop :=
  p.tables.exec = Jvm.exec ∧ c.code = cc ∧ meth.sig.returnType = ret ∧ c.maxLocals = nL ∧ s.vm.findClass own = some m.cls ∧ (∀ w ∈ W_all, w.before args s = true) ∧ meth.locks = false ∧ va_K D classes (ty3 cI cZ cJ) s ∧ GT tq cI A s
def Pg (D : va_G) (cI cZ cJ : ClassId) (tq : Nat → Nat) (ws : va_W) (sz : Nat) (U : State) : Prop := U.heap.size = sz ∧ va_P D classes ws U.heap ∧ va_K D classes (ty3 cI cZ cJ) U ∧ va_D (fun _ => True) ws ∧ GT tq cI (va_A ws sz) U
abbrev qI (D : va_G) (cI cZ cJ : ClassId) (A : Nat → Prop) (o : Int32) (w1 : va_W) : Array Value → State → Outcome → State → Prop := va_Qi (fun (r : Int32) (_ : Unit) => r = o) (fun _ t => va_P D classes w1 t.heap ∧ va_K D classes (ty3 cI cZ cJ) t ∧ va_D A w1) A
abbrev qL (D : va_G) (cI cZ cJ : ClassId) (A : Nat → Prop) (o : Int64) (w1 : va_W) : Array Value → State → Outcome → State → Prop := va_Ql (fun (r : Int64) (_ : Unit) => r = o) (fun _ t => va_P D classes w1 t.heap ∧ va_K D classes (ty3 cI cZ cJ) t ∧ va_D A w1) A
abbrev qV (D : va_G) (cI cZ cJ : ClassId) (A : Nat → Prop) (w1 : va_W) : Array Value → State → Outcome → State → Prop := va_Qv (fun (_ : Unit) => True) (fun _ t => va_P D classes w1 t.heap ∧ va_K D classes (ty3 cI cZ cJ) t ∧ va_D A w1) A
abbrev qT (D : va_G) (cI cZ cJ : ClassId) (A : Nat → Prop) (o : Nat) (w1 : va_W) : Array Value → State → Outcome → State → Prop := va_Qr (fun (_ : Unit) => True) (fun _ a t => a = o ∧ va_P D classes w1 t.heap ∧ va_K D classes (ty3 cI cZ cJ) t ∧ va_D A w1) A
abbrev qC (D : va_G) (cI cZ cJ : ClassId) (A : Nat → Prop) (w1 : (Nat → Nat) → va_W) : Array Value → State → Outcome → State → Prop := va_Qv (fun (_ : Nat → Nat) => True) (fun qq t => va_P D classes (w1 qq) t.heap ∧ va_K D classes (ty3 cI cZ cJ) t ∧ va_D A (w1 qq)) A
theorem pg_blind {D : va_G} {cI cZ cJ : ClassId} {tq : Nat → Nat} {ws : va_W} {sz : Nat} {as : List Value} : FrameBlind (va_Pc as (Pg D cI cZ cJ tq ws sz)) := fun a U g mk q => by
  obtain ⟨q0, q1, qP, qK, qD, qG⟩ := q
  exact ⟨q0, q1, qP, va_K.moved (u := U) (U := U.calling g mk a) (Vm.Alike.refl U.vm) qK, qD, gt_moved (u := U) (U := U.calling g mk a) rfl rfl qG⟩
theorem preV_of {s : State} {H : Heap} {D : va_G} {cI cZ cJ : ClassId} {C : String} {T : u_T} {N : Nat} {b q0 ci : Nat} {fs As : List Value} {ws wc : va_W} {A : Nat → Prop} {tq : Nat → Nat} {locs : List Loc} (hG : GT tq cI A s) (hS : va_S A s.heap H locs) (hF : ∀ q, va_A wc H.size q → A q) (hK : va_K D classes (ty3 cI cZ cJ) s) (hP : va_P D classes ws H) (hc : classes[ci]? = some (C, T, N)) (he : ws[q0]? = some (b, .inr (ci, fs))) (hPc : va_P D classes wc H) (hDc : va_D A wc) : PreV s H C b (va_Pc (.ref b :: As) (Pg D cI cZ cJ tq wc H.size)) As :=
  ⟨pg_blind, va_recv hK hP hc he, fun U hU hW => ⟨rfl, by rw [hU], by rw [hU]; exact hPc, va_K.moved hW.alike hK, hDc.weaken (fun _ _ _ _ => trivial), gt_go hG hS hF hU hW⟩⟩
theorem preS_of {s : State} {H : Heap} {D : va_G} {cI cZ cJ : ClassId} {As : List Value} {wc : va_W} {A : Nat → Prop} {tq : Nat → Nat} {locs : List Loc} (hG : GT tq cI A s) (hS : va_S A s.heap H locs) (hF : ∀ q, va_A wc H.size q → A q) (hK : va_K D classes (ty3 cI cZ cJ) s) (hPc : va_P D classes wc H) (hDc : va_D A wc) : PreS s H (va_Pc As (Pg D cI cZ cJ tq wc H.size)) As :=
  ⟨pg_blind, fun U hU hW => ⟨rfl, by rw [hU], by rw [hU]; exact hPc, va_K.moved hW.alike hK, hDc.weaken (fun _ _ _ _ => trivial), gt_go hG hS hF hU hW⟩⟩
theorem fm_of {α β : Type} {f : α → Option β} : ∀ {l : List α} {r : List β}, l.map f = r.map some → l.filterMap f = r
  | [], [], _ => rfl
  | [], _ :: _, h => by simp at h
  | _ :: _, [], h => by simp at h
  | a :: l, b :: r, h => by
    simp only [List.map_cons, List.cons.injEq] at h
    rw [List.filterMap_cons, h.1]
    simp only [fm_of h.2]
section GC
variable {p : Program} {l : Launch} {e : Env} {R : Room} {s : State} {m : MethodId} {args : Array Value} {below : List Frame} {meth : Method} {c : Code} {H : Heap} {locs : List Loc} {cells slots : Nat} {Q : State → Prop}
variable {mc ms : Nat} {A : Nat → Prop} {H0 : Heap} {a : Array Value} {pc : Nat} {ls : Array Slot} {st0 rest : List Value} {D : va_G} {cI cZ cJ : ClassId} {ws wc w1 ws' : va_W}
/-- a call of a method whose answer and world are known: cut its cells out, join them again, in our own order -/
theorem g_calli {o : Int32} (hr : va_Run p l e R s m args below meth c H locs cells slots mc ms (F0 m pc ls st0) rest (qI D cI cZ cJ (va_A wc H.size) o w1 a) (va_A wc H.size)) (hP : va_P D classes ws H) (hD : va_D A ws) (hS : va_S A H0 H locs) (hA : ∀ q, H0.size ≤ q → A q)
    (isC isR pm : List Nat) (hC : isC.map (fun i => ws[i]?) = wc.map some) (hR : isR.map (fun i => ws[i]?) = (isR.filterMap (fun i => ws[i]?)).map some) (hn : va_nd isR = true) (hdis : ∀ i ∈ isR, i ∉ isC) (hpn : va_nd pm = true) (hpm : pm.map (fun i => (isR.filterMap (fun i => ws[i]?) ++ w1)[i]?) = ws'.map some)
    (kk : ∀ (H1 : Heap) (locs1 : List Loc), va_P D classes ws' H1 → va_D A ws' → va_S A H0 H1 locs1 → W p l e R s m args below meth c H1 locs1 (cells + mc) (slots + ms) Q (F0 m (pc + 3) ls (.int o :: rest))) : W p l e R s m args below meth c H locs cells slots Q (F0 m pc ls st0) := by
  have hFc := va_free (wc := wc) hD hS hA isC hC
  refine va_calli hr hS (fun q _ h => hFc q h) hFc (fun r u t H1 locs1 ht hvm hw hB hz1 hk1 hS1 => ?_)
  obtain ⟨hP1, hK1, hD1⟩ := hB
  rw [ht] at hP1
  obtain ⟨hP2, hD2⟩ := va_join (wr := isR.filterMap (fun i => ws[i]?)) (w1 := w1) hP hD isC isR hC hR hn hdis hk1 hFc hP1 hD1
  subst hw
  exact kk H1 locs1 (hP2.sub pm (fm_of hpm)) (hD2.sub pm hpn hpm) hS1
theorem g_calll {o : Int64} (hr : va_Run p l e R s m args below meth c H locs cells slots mc ms (F0 m pc ls st0) rest (qL D cI cZ cJ (va_A wc H.size) o w1 a) (va_A wc H.size)) (hP : va_P D classes ws H) (hD : va_D A ws) (hS : va_S A H0 H locs) (hA : ∀ q, H0.size ≤ q → A q)
    (isC isR pm : List Nat) (hC : isC.map (fun i => ws[i]?) = wc.map some) (hR : isR.map (fun i => ws[i]?) = (isR.filterMap (fun i => ws[i]?)).map some) (hn : va_nd isR = true) (hdis : ∀ i ∈ isR, i ∉ isC) (hpn : va_nd pm = true) (hpm : pm.map (fun i => (isR.filterMap (fun i => ws[i]?) ++ w1)[i]?) = ws'.map some)
    (kk : ∀ (H1 : Heap) (locs1 : List Loc), va_P D classes ws' H1 → va_D A ws' → va_S A H0 H1 locs1 → W p l e R s m args below meth c H1 locs1 (cells + mc) (slots + ms) Q (F0 m (pc + 3) ls (.long o :: rest))) : W p l e R s m args below meth c H locs cells slots Q (F0 m pc ls st0) := by
  have hFc := va_free (wc := wc) hD hS hA isC hC
  refine va_calll hr hS (fun q _ h => hFc q h) hFc (fun r u t H1 locs1 ht hvm hw hB hz1 hk1 hS1 => ?_)
  obtain ⟨hP1, hK1, hD1⟩ := hB
  rw [ht] at hP1
  obtain ⟨hP2, hD2⟩ := va_join (wr := isR.filterMap (fun i => ws[i]?)) (w1 := w1) hP hD isC isR hC hR hn hdis hk1 hFc hP1 hD1
  subst hw
  exact kk H1 locs1 (hP2.sub pm (fm_of hpm)) (hD2.sub pm hpn hpm) hS1
theorem g_callv (hr : va_Run p l e R s m args below meth c H locs cells slots mc ms (F0 m pc ls st0) rest (qV D cI cZ cJ (va_A wc H.size) w1 a) (va_A wc H.size)) (hP : va_P D classes ws H) (hD : va_D A ws) (hS : va_S A H0 H locs) (hA : ∀ q, H0.size ≤ q → A q)
    (isC isR pm : List Nat) (hC : isC.map (fun i => ws[i]?) = wc.map some) (hR : isR.map (fun i => ws[i]?) = (isR.filterMap (fun i => ws[i]?)).map some) (hn : va_nd isR = true) (hdis : ∀ i ∈ isR, i ∉ isC) (hpn : va_nd pm = true) (hpm : pm.map (fun i => (isR.filterMap (fun i => ws[i]?) ++ w1)[i]?) = ws'.map some)
    (kk : ∀ (H1 : Heap) (locs1 : List Loc), va_P D classes ws' H1 → va_D A ws' → va_S A H0 H1 locs1 → W p l e R s m args below meth c H1 locs1 (cells + mc) (slots + ms) Q (F0 m (pc + 3) ls rest)) : W p l e R s m args below meth c H locs cells slots Q (F0 m pc ls st0) := by
  have hFc := va_free (wc := wc) hD hS hA isC hC
  refine va_callv hr hS (fun q _ h => hFc q h) hFc (fun u t H1 locs1 ht hvm hw hB hz1 hk1 hS1 => ?_)
  obtain ⟨hP1, hK1, hD1⟩ := hB
  rw [ht] at hP1
  obtain ⟨hP2, hD2⟩ := va_join (wr := isR.filterMap (fun i => ws[i]?)) (w1 := w1) hP hD isC isR hC hR hn hdis hk1 hFc hP1 hD1
  exact kk H1 locs1 (hP2.sub pm (fm_of hpm)) (hD2.sub pm hpn hpm) hS1
theorem g_callt {o : Nat} (hr : va_Run p l e R s m args below meth c H locs cells slots mc ms (F0 m pc ls st0) rest (qT D cI cZ cJ (va_A wc H.size) o w1 a) (va_A wc H.size)) (hP : va_P D classes ws H) (hD : va_D A ws) (hS : va_S A H0 H locs) (hA : ∀ q, H0.size ≤ q → A q)
    (isC isR pm : List Nat) (hC : isC.map (fun i => ws[i]?) = wc.map some) (hR : isR.map (fun i => ws[i]?) = (isR.filterMap (fun i => ws[i]?)).map some) (hn : va_nd isR = true) (hdis : ∀ i ∈ isR, i ∉ isC) (hpn : va_nd pm = true) (hpm : pm.map (fun i => (isR.filterMap (fun i => ws[i]?) ++ w1)[i]?) = ws'.map some)
    (kk : ∀ (H1 : Heap) (locs1 : List Loc), va_P D classes ws' H1 → va_D A ws' → va_S A H0 H1 locs1 → W p l e R s m args below meth c H1 locs1 (cells + mc) (slots + ms) Q (F0 m (pc + 3) ls (.ref o :: rest))) : W p l e R s m args below meth c H locs cells slots Q (F0 m pc ls st0) := by
  have hFc := va_free (wc := wc) hD hS hA isC hC
  refine va_callr hr hS (fun q _ h => hFc q h) hFc (fun u ra t H1 locs1 ht hvm hw hB hz1 hk1 hS1 => ?_)
  obtain ⟨rfl, hP1, hK1, hD1⟩ := hB
  rw [ht] at hP1
  obtain ⟨hP2, hD2⟩ := va_join (wr := isR.filterMap (fun i => ws[i]?)) (w1 := w1) hP hD isC isR hC hR hn hdis hk1 hFc hP1 hD1
  exact kk H1 locs1 (hP2.sub pm (fm_of hpm)) (hD2.sub pm hpn hpm) hS1
theorem g_callc {w1 ws' : (Nat → Nat) → va_W} (hr : va_Run p l e R s m args below meth c H locs cells slots mc ms (F0 m pc ls st0) rest (qC D cI cZ cJ (va_A wc H.size) w1 a) (va_A wc H.size)) (hP : va_P D classes ws H) (hD : va_D A ws) (hS : va_S A H0 H locs) (hA : ∀ q, H0.size ≤ q → A q)
    (isC isR pm : List Nat) (hC : isC.map (fun i => ws[i]?) = wc.map some) (hR : isR.map (fun i => ws[i]?) = (isR.filterMap (fun i => ws[i]?)).map some) (hn : va_nd isR = true) (hdis : ∀ i ∈ isR, i ∉ isC) (hpn : va_nd pm = true) (hpm : ∀ qq, pm.map (fun i => (isR.filterMap (fun i => ws[i]?) ++ w1 qq)[i]?) = (ws' qq).map some)
    (kk : ∀ (qq : Nat → Nat) (H1 : Heap) (locs1 : List Loc), va_P D classes (ws' qq) H1 → va_D A (ws' qq) → va_S A H0 H1 locs1 → W p l e R s m args below meth c H1 locs1 (cells + mc) (slots + ms) Q (F0 m (pc + 3) ls rest)) : W p l e R s m args below meth c H locs cells slots Q (F0 m pc ls st0) := by
  have hFc := va_free (wc := wc) hD hS hA isC hC
  refine va_callv hr hS (fun q _ h => hFc q h) hFc (fun u t H1 locs1 ht hvm hw hB hz1 hk1 hS1 => ?_)
  obtain ⟨hP1, hK1, hD1⟩ := hB
  rw [ht] at hP1
  obtain ⟨hP2, hD2⟩ := va_join (wr := isR.filterMap (fun i => ws[i]?)) (w1 := w1 u) hP hD isC isR hC hR hn hdis hk1 hFc hP1 hD1
  exact kk u H1 locs1 (hP2.sub pm (fm_of (hpm u))) (hD2.sub pm hpn (hpm u)) hS1
end GC
theorem gd_V {own C : String} {idx : Nat} {y : MethodName} {b : ByteArray} {n : Nat} {r : Option FieldType} (h1 : Cond.methodLink own idx y ∈ W_all) (h2 : Cond.instanceMethod y ∈ W_all) (h3 : Cond.selects C y y ∈ W_all) (h4 : Cond.initialized C ∈ W_all) (h5 : Cond.code y b n r ∈ W_all) : GoodIn W_all (wsV own idx C y (Cond.code y b n r :: W_all)) := by
  intro w hw
  have hm : w ∈ W_all := by
    unfold wsV at hw
    rcases List.mem_append.mp hw with h | h
    · simp only [List.mem_cons, List.not_mem_nil, or_false] at h
      rcases h with rfl | rfl | rfl | rfl <;> assumption
    · rcases List.mem_cons.mp h with rfl | h <;> assumption
  exact ⟨hm, W_good w hm⟩
theorem gd_S {own : String} {idx : Nat} {y : MethodName} {b : ByteArray} {n : Nat} {r : Option FieldType} (h1 : Cond.methodLink own idx y ∈ W_all) (h2 : Cond.static y ∈ W_all) (h4 : Cond.initialized y.cls ∈ W_all) (h5 : Cond.code y b n r ∈ W_all) : GoodIn W_all (va_wsS own idx y (Cond.code y b n r :: W_all)) := by
  intro w hw
  have hm : w ∈ W_all := by
    unfold va_wsS at hw
    rcases List.mem_append.mp hw with h | h
    · simp only [List.mem_cons, List.not_mem_nil, or_false] at h
      rcases h with rfl | rfl | rfl <;> assumption
    · rcases List.mem_cons.mp h with rfl | h <;> assumption
  exact ⟨hm, W_good w hm⟩
theorem gd_I {y : MethodName} {b : ByteArray} {n : Nat} {r : Option FieldType} (h5 : Cond.code y b n r ∈ W_all) : GoodIn W_all (Cond.code y b n r :: W_all) := by
  intro w hw
  have hm : w ∈ W_all := by rcases List.mem_cons.mp hw with rfl | h <;> assumption
  exact ⟨hm, W_good w hm⟩
theorem kI {D : va_G} {cI cZ cJ : ClassId} {s : State} (h : va_K D classes (ty3 cI cZ cJ) s) : s.vm.findClass "[I" = some cI := (h.2 0 _ rfl).2
theorem kZ {D : va_G} {cI cZ cJ : ClassId} {s : State} (h : va_K D classes (ty3 cI cZ cJ) s) : s.vm.findClass "[Z" = some cZ := (h.2 1 _ rfl).2
theorem kJ {D : va_G} {cI cZ cJ : ClassId} {s : State} (h : va_K D classes (ty3 cI cZ cJ) s) : s.vm.findClass "[J" = some cJ := (h.2 2 _ rfl).2
section GN
variable {p : Program} {l : Launch} {e : Env} {R : Room} {s : State} {m : MethodId} {args : Array Value} {below : List Frame} {meth : Method} {c : Code} {H : Heap} {locs : List Loc} {cells slots : Nat} {Q : State → Prop}
variable {A : Nat → Prop} {H0 : Heap} {pc : Nat} {ls : Array Slot} {rest : List Value} {D : va_G} {cI cZ cJ : ClassId} {ws : va_W} {cc : ByteArray}
theorem g_newI {n : Int32} {N B : Nat} (hx : p.tables.exec = Jvm.exec) (hb : c.code = cc) (harr : (Cond.arrayClass .int).before args s = true) (hK : va_K D classes (ty3 cI cZ cJ) s) (hP : va_P D classes ws H) (hD : va_D A ws) (hS : va_S A H0 H locs) (hA : ∀ q, H0.size ≤ q → A q) (hn : ¬ n < 0) (hN : n.toNatClampNeg = N) (hB : N ≤ B) (hbig : B * 8 ≤ 536870912) (hc : cells + 1 ≤ R.cells) (hs : slots + B ≤ R.slots) (hdg : decode cc pc = .ok (.newarray .int, 2))
    (kk : ∀ (q : Nat) (H1 : Heap), va_P D classes (ws ++ [(q, .inl (cI, N, .inl (fun _ => 0)))]) H1 → va_D A (ws ++ [(q, .inl (cI, N, .inl (fun _ => 0)))]) → va_S A H0 H1 locs → W p l e R s m args below meth c H1 locs (cells + 1) (slots + B) Q (F0 m (pc + 2) ls (.ref q :: rest))) : W p l e R s m args below meth c H locs cells slots Q (F0 m pc ls (.int n :: rest)) := by
  refine va_newa (atype := .int) (ty := .int) (a0 := (N, .inl (fun _ => 0))) hx hb harr rfl hK hP hD hS hA (fun _ => rfl) hn hN (by show N * _ ≤ _; have : N * componentBytes .int ≤ B * 8 := Nat.mul_le_mul hB (by decide); omega) hc (by omega) hdg (fun q cA H1 hK1 hP1 hD1 hS1 => ?_)
  have e1 : s.vm.findClass "[I" = some cA := (hK1.2 3 _ rfl).2
  have e2 : cA = cI := Option.some.inj (e1.symm.trans (kI hK))
  subst e2
  refine W.widen (k := cells + 1) (n := slots + B) (Nat.le_refl _) (by omega) ?_
  exact kk q H1 hP1 hD1 hS1
theorem g_newZ {n : Int32} {N B : Nat} (hx : p.tables.exec = Jvm.exec) (hb : c.code = cc) (harr : (Cond.arrayClass .boolean).before args s = true) (hK : va_K D classes (ty3 cI cZ cJ) s) (hP : va_P D classes ws H) (hD : va_D A ws) (hS : va_S A H0 H locs) (hA : ∀ q, H0.size ≤ q → A q) (hn : ¬ n < 0) (hN : n.toNatClampNeg = N) (hB : N ≤ B) (hbig : B * 8 ≤ 536870912) (hc : cells + 1 ≤ R.cells) (hs : slots + B ≤ R.slots) (hdg : decode cc pc = .ok (.newarray .boolean, 2))
    (kk : ∀ (q : Nat) (H1 : Heap), va_P D classes (ws ++ [(q, .inl (cZ, N, .inl (fun _ => 0)))]) H1 → va_D A (ws ++ [(q, .inl (cZ, N, .inl (fun _ => 0)))]) → va_S A H0 H1 locs → W p l e R s m args below meth c H1 locs (cells + 1) (slots + B) Q (F0 m (pc + 2) ls (.ref q :: rest))) : W p l e R s m args below meth c H locs cells slots Q (F0 m pc ls (.int n :: rest)) := by
  refine va_newa (atype := .boolean) (ty := .boolean) (a0 := (N, .inl (fun _ => 0))) hx hb harr rfl hK hP hD hS hA (fun _ => rfl) hn hN (by show N * _ ≤ _; have : N * componentBytes .boolean ≤ B * 8 := Nat.mul_le_mul hB (by decide); omega) hc (by omega) hdg (fun q cA H1 hK1 hP1 hD1 hS1 => ?_)
  have e1 : s.vm.findClass "[Z" = some cA := (hK1.2 3 _ rfl).2
  have e2 : cA = cZ := Option.some.inj (e1.symm.trans (kZ hK))
  subst e2
  refine W.widen (k := cells + 1) (n := slots + B) (Nat.le_refl _) (by omega) ?_
  exact kk q H1 hP1 hD1 hS1
theorem g_newJ {n : Int32} {N B : Nat} (hx : p.tables.exec = Jvm.exec) (hb : c.code = cc) (harr : (Cond.arrayClass .long).before args s = true) (hK : va_K D classes (ty3 cI cZ cJ) s) (hP : va_P D classes ws H) (hD : va_D A ws) (hS : va_S A H0 H locs) (hA : ∀ q, H0.size ≤ q → A q) (hn : ¬ n < 0) (hN : n.toNatClampNeg = N) (hB : N ≤ B) (hbig : B * 8 ≤ 536870912) (hc : cells + 1 ≤ R.cells) (hs : slots + B ≤ R.slots) (hdg : decode cc pc = .ok (.newarray .long, 2))
    (kk : ∀ (q : Nat) (H1 : Heap), va_P D classes (ws ++ [(q, .inl (cJ, N, .inr (.inl (fun _ => 0))))]) H1 → va_D A (ws ++ [(q, .inl (cJ, N, .inr (.inl (fun _ => 0))))]) → va_S A H0 H1 locs → W p l e R s m args below meth c H1 locs (cells + 1) (slots + B) Q (F0 m (pc + 2) ls (.ref q :: rest))) : W p l e R s m args below meth c H locs cells slots Q (F0 m pc ls (.int n :: rest)) := by
  refine va_newa (atype := .long) (ty := .long) (a0 := (N, .inr (.inl (fun _ => 0)))) hx hb harr rfl hK hP hD hS hA (fun _ => rfl) hn hN (by show N * _ ≤ _; have : N * componentBytes .long ≤ B * 8 := Nat.mul_le_mul hB (by decide); omega) hc (by omega) hdg (fun q cA H1 hK1 hP1 hD1 hS1 => ?_)
  have e1 : s.vm.findClass "[J" = some cA := (hK1.2 3 _ rfl).2
  have e2 : cA = cJ := Option.some.inj (e1.symm.trans (kJ hK))
  subst e2
  refine W.widen (k := cells + 1) (n := slots + B) (Nat.le_refl _) (by omega) ?_
  exact kk q H1 hP1 hD1 hS1
/-- a clone of a table, whose class is known -/
theorem g_clone {tq : Nat → Nat} {k : Nat} {own : String} {index : Nat} (hx : p.tables.exec = Jvm.exec) (hb : c.code = cc) (hml : c.maxLocals = ls.size) (hown : s.vm.findClass own = some m.cls)
    (hlink : (Cond.methodLink own index ⟨"[I", "clone", "()Ljava/lang/Object;"⟩).before args s = true) (hsame : (Cond.sameMethod "[I" "java/lang/Object" "clone" "()Ljava/lang/Object;").before args s = true)
    (hnat : (Cond.native ⟨"java/lang/Object", "clone", "()Ljava/lang/Object;"⟩).before args s = true) (hinst : (Cond.instanceMethod ⟨"java/lang/Object", "clone", "()Ljava/lang/Object;"⟩).before args s = true)
    (hsel : (Cond.selects "[I" ⟨"[I", "clone", "()Ljava/lang/Object;"⟩ ⟨"java/lang/Object", "clone", "()Ljava/lang/Object;"⟩).before args s = true) (hcl : va_Nw (.castable "[I" "java/lang/Cloneable") s)
    (hG : GT tq cI A s) (hk : k < tbK) (hK : va_K D classes (ty3 cI cZ cJ) s) (hP : va_P D classes ws H) (hD : va_D A ws) (hS : va_S A s.heap H locs) (hA : ∀ q, s.heap.size ≤ q → A q)
    (hframes : 1 ≤ R.frames) (hlocals : (rest.map fun v => v.category).sum + 14 ≤ R.locals) (hc : cells + 1 ≤ R.cells) (hs : slots + 32 ≤ R.slots) (hdg : decode cc pc = .ok (.invokevirtual index, 3))
    (kk : ∀ (q : Nat) (H1 : Heap), va_P D classes (ws ++ [(q, .inl (cI, tbN k, .inl (tbV k)))]) H1 → va_D A (ws ++ [(q, .inl (cI, tbN k, .inl (tbV k)))]) → va_S A s.heap H1 locs → W p l e R s m args below meth c H1 locs (cells + 1) (slots + 32) Q (F0 m (pc + 3) ls (.ref q :: rest))) : W p l e R s m args below meth c H locs cells slots Q (F0 m pc ls (.ref (tq k) :: rest)) := by
  obtain ⟨cell, e1, -, -, -, -, -, e7⟩ := hG.1 k hk
  have hlt : tq k < s.heap.size := (Array.getElem?_eq_some_iff.mp e1).1
  have h0 := hG.2.2.2.2.2 k hk
  have hH : H[tq k]? = some (vp_cell cI (tbN k, .inl (tbV k))) := by rw [hS.2.1 _ hlt e7]; exact h0
  have hP2 : va_P D classes (ws ++ [(tq k, .inl (cI, tbN k, .inl (tbV k)))]) H := hP.app (fun j q hq => by
    have hz : j < 1 := (List.getElem?_eq_some_iff.mp hq).1
    rw [show j = 0 by omega] at hq
    cases hq
    exact hH)
  have hD1 : va_D (fun q => A q ∨ q = tq k) ws := hD.weaken (fun _ _ _ h => Or.inl h)
  have hD2 : va_D (fun q => A q ∨ q = tq k) (ws ++ [(tq k, .inl (cI, tbN k, .inl (tbV k)))]) := va_D.app hD1 (by
    refine ⟨fun i j x y hx hy _ => ?_, fun j q hq => ?_⟩
    · have h1 : i < 1 := (List.getElem?_eq_some_iff.mp hx).1
      have h2 : j < 1 := (List.getElem?_eq_some_iff.mp hy).1
      omega
    · have hz : j < 1 := (List.getElem?_eq_some_iff.mp hq).1
      rw [show j = 0 by omega] at hq
      cases hq
      exact Or.inr rfl) (fun i j x y hx hy hxy => by
    have hz : j < 1 := (List.getElem?_eq_some_iff.mp hy).1
    rw [show j = 0 by omega] at hy
    cases hy
    have := hD.2 i x hx
    rw [hxy] at this
    exact e7 this)
  have hS2 : va_S (fun q => A q ∨ q = tq k) s.heap H locs := ⟨hS.1, fun q h1 h2 => hS.2.1 q h1 (fun h => h2 (Or.inl h)), fun q hq => Or.inl (hS.2.2 q hq)⟩
  have hlen : (ws ++ [(tq k, (.inl (cI, tbN k, .inl (tbV k)) : va_E))])[ws.length]? = some (tq k, .inl (cI, tbN k, .inl (tbV k))) := by simp
  have hN : tbN k ≤ 32 := by
    have : ∀ j, j < tbK → tbN j ≤ 32 := by decide
    exact this k hk
  refine va_clone (x := (tbN k, .inl (tbV k))) hx hb hml hown hlink hsame hnat hinst hsel hcl hK hP2 hD2 hS2 (fun q h => Or.inl (hA q h)) ws.length 0 hlen rfl (kI hK) (fun i v hv => va_fit (F := fun j => .int (tbV k j)) (n := tbN k) (fun _ _ => rfl) i v hv) hframes hlocals hc (by show slots + tbN k ≤ _; omega) hdg (fun q H1 hK1 hP1 hD1 hS1 => ?_)
  have hin : ∀ x, x ∈ ws ++ [(q, (.inl (cI, tbN k, .inl (tbV k)) : va_E))] → x ∈ (ws ++ [(tq k, (.inl (cI, tbN k, .inl (tbV k)) : va_E))]) ++ [(q, (.inl (cI, tbN k, .inl (tbV k)) : va_E))] := fun x h => by
    rcases List.mem_append.mp h with h | h
    · exact List.mem_append_left _ (List.mem_append_left _ h)
    · exact List.mem_append_right _ h
  have hP3 : va_P D classes (ws ++ [(q, .inl (cI, tbN k, .inl (tbV k)))]) H1 := fun j x hx => by
    obtain ⟨i, hi⟩ := List.getElem?_of_mem (hin x (List.mem_of_getElem? hx))
    exact hP1 i x hi
  have iq : ((ws ++ [(tq k, (.inl (cI, tbN k, .inl (tbV k)) : va_E))]) ++ [(q, (.inl (cI, tbN k, .inl (tbV k)) : va_E))])[ws.length + 1]? = some (q, .inl (cI, tbN k, .inl (tbV k))) := by simp
  have it : ((ws ++ [(tq k, (.inl (cI, tbN k, .inl (tbV k)) : va_E))]) ++ [(q, (.inl (cI, tbN k, .inl (tbV k)) : va_E))])[ws.length]? = some (tq k, .inl (cI, tbN k, .inl (tbV k))) := by simp
  have hqt : q ≠ tq k := fun h => by
    have := hD1.1 _ _ _ _ iq it h
    omega
  have hAq : A q := (hD1.2 _ _ iq).elim id (fun h => absurd h hqt)
  have hD3 : va_D A (ws ++ [(q, .inl (cI, tbN k, .inl (tbV k)))]) := va_D.app hD (by
    refine ⟨fun i j x y hx hy _ => ?_, fun j x hx => ?_⟩
    · have h1 : i < 1 := (List.getElem?_eq_some_iff.mp hx).1
      have h2 : j < 1 := (List.getElem?_eq_some_iff.mp hy).1
      omega
    · have hz : j < 1 := (List.getElem?_eq_some_iff.mp hx).1
      rw [show j = 0 by omega] at hx
      cases hx
      exact hAq) (fun i j x y hx hy hxy => by
    have hz : j < 1 := (List.getElem?_eq_some_iff.mp hy).1
    rw [show j = 0 by omega] at hy
    cases hy
    have hi : i < ws.length := (List.getElem?_eq_some_iff.mp hx).1
    have ix : ((ws ++ [(tq k, (.inl (cI, tbN k, .inl (tbV k)) : va_E))]) ++ [(q, (.inl (cI, tbN k, .inl (tbV k)) : va_E))])[i]? = some x := by
      rw [List.getElem?_append_left (by simp; omega), List.getElem?_append_left hi]
      exact hx
    have := hD1.1 _ _ _ _ ix iq hxy
    omega)
  have hS3 : va_S A s.heap H1 locs := ⟨hS1.1, fun z h1 h2 => by
    by_cases hz : z = tq k
    · rw [hz, h0]
      exact hP1 _ _ it
    · exact hS1.2.1 z h1 (fun h => h.elim h2 hz), hS.2.2⟩
  refine W.widen (k := cells + 1) (n := slots + 32) (Nat.le_refl _) (by show slots + tbN k ≤ _; omega) ?_
  exact kk q H1 hP3 hD3 hS3
end GN

