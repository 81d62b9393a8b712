def nestF : List (String × Nat × String × String × String × String) := [("GenericRegions$Reader", 157, "GenericRegions$FaxLine", "NEAR_DIGITS", "[I", "GenericRegions"), ("GenericRegions$Reader", 161, "GenericRegions$FaxLine", "NEAR_LENGTHS", "[I", "GenericRegions"), ("GenericRegions$Teller", 147, "GenericRegions$FaxLine", "NEAR_DIGITS", "[I", "GenericRegions"), ("GenericRegions$Teller", 151, "GenericRegions$FaxLine", "NEAR_LENGTHS", "[I", "GenericRegions")]
def nestM : List (String × Nat × MethodName × String) := []
-- our own helpers: one world's shape for every method's start and end
abbrev ty3 (cI cZ cJ : ClassId) : List (ClassId × FieldType) := [(cI, .int), (cZ, .boolean), (cJ, .long)]
-- the tables: static arrays that nobody writes, by their numbers; tq: where they lie; the links across the nest
def nsF (q : String × Nat × String × String × String × String) : Cond := .fieldLinkNest q.1 q.2.1 q.2.2.1 q.2.2.2.1 q.2.2.2.2.1 q.2.2.2.2.2
def nsM (q : String × Nat × MethodName × String) : Cond := .methodLinkNest q.1 q.2.1 q.2.2.1 q.2.2.2
def GT (tq : Nat → Nat) (A : Nat → Prop) (U : State) : Prop := (∀ k, k < tbK → va_T .int (tq k) (tbN k) (fun j => .int (tbV k j)) A U U.heap) ∧ (∀ k, k < tbK → va_Z (tbC k) (tbM k) "[I" (.ref (tq k)) A U U.heap) ∧ (∀ q ∈ nestF, va_Nw (nsF q) U) ∧ (∀ q ∈ nestM, va_Nw (nsM q) U)
theorem gt_moved {tq : Nat → Nat} {A : Nat → Prop} {u U : State} (hv : u.vm = U.vm) (hh : U.heap = u.heap) (h : GT tq A u) : GT tq A U := by
  obtain ⟨h1, h2, h3, h4⟩ := h
  have hvm : u.vm.Alike U.vm := by rw [hv]; exact Vm.Alike.refl U.vm
  refine ⟨fun k hk => ?_, fun k hk => ?_, fun q hq => (h3 q hq).same rfl hv, fun q hq => (h4 q hq).same rfl hv⟩
  · rw [hh]; exact (h1 k hk).moved hvm
  · rw [hh]; exact (h2 k hk).moved hvm
theorem gt_go {tq : Nat → Nat} {A B : Nat → Prop} {s U : State} {H : Heap} {locs : List Loc} (h : GT tq A s) (hS : va_S A s.heap H locs) (hF : ∀ q, B q → A q) (hU : U.heap = H) (hW : s.WarmedH U.vm) : GT tq B U := by
  obtain ⟨h1, h2, h3, h4⟩ := h
  refine ⟨fun k hk => ?_, fun k hk => ?_, fun q hq => va_Nw.warmF hW (h3 q hq), fun q hq => va_Nw.warmM hW (h4 q hq)⟩
  · rw [hU]; exact (((h1 k hk).kept hS.2.1).narrow hF).moved hW.alike
  · rw [hU]; exact (((h2 k hk).kept hS.2.1).narrow hF).moved hW.alike
/-- what a walk needs of the method that it stands in -/
def cx (p : Program) (s : State) (m : MethodId) (meth : Method) (c : Code) (args : Array Value) (cc : ByteArray) (ret : Option FieldType) (nL : Nat) (own : String) (D : va_G) (cI cZ cJ : ClassId) (tq : Nat → Nat) (A : Nat → Prop) : Prop :=
  p.tables.exec = Jvm.exec ∧ c.code = cc ∧ meth.sig.returnType = ret ∧ c.maxLocals = nL ∧ s.vm.findClass own = some m.cls ∧ (∀ w ∈ W_all, w.before args s = true) ∧ meth.locks = false ∧ va_K D classes (ty3 cI cZ cJ) s ∧ GT tq A s
def Pg (D : va_G) (cI cZ cJ : ClassId) (tq : Nat → Nat) (ws : va_W) (sz : Nat) (U : State) : Prop := U.heap.size = sz ∧ va_P D classes ws U.heap ∧ va_K D classes (ty3 cI cZ cJ) U ∧ va_D (fun _ => True) ws ∧ GT tq (va_A ws sz) U
abbrev qI (D : va_G) (cI cZ cJ : ClassId) (A : Nat → Prop) (o : Int32) (w1 : va_W) : Array Value → State → Outcome → State → Prop := va_Qi (fun (r : Int32) (_ : Unit) => r = o) (fun _ t => va_P D classes w1 t.heap ∧ va_K D classes (ty3 cI cZ cJ) t ∧ va_D A w1) A
abbrev qL (D : va_G) (cI cZ cJ : ClassId) (A : Nat → Prop) (o : Int64) (w1 : va_W) : Array Value → State → Outcome → State → Prop := va_Ql (fun (r : Int64) (_ : Unit) => r = o) (fun _ t => va_P D classes w1 t.heap ∧ va_K D classes (ty3 cI cZ cJ) t ∧ va_D A w1) A
abbrev qV (D : va_G) (cI cZ cJ : ClassId) (A : Nat → Prop) (w1 : va_W) : Array Value → State → Outcome → State → Prop := va_Qv (fun (_ : Unit) => True) (fun _ t => va_P D classes w1 t.heap ∧ va_K D classes (ty3 cI cZ cJ) t ∧ va_D A w1) A
abbrev qT (D : va_G) (cI cZ cJ : ClassId) (A : Nat → Prop) (o : Nat) (w1 : va_W) : Array Value → State → Outcome → State → Prop := va_Qr (fun (_ : Unit) => True) (fun _ a t => a = o ∧ va_P D classes w1 t.heap ∧ va_K D classes (ty3 cI cZ cJ) t ∧ va_D A w1) A
theorem pg_blind {D : va_G} {cI cZ cJ : ClassId} {tq : Nat → Nat} {ws : va_W} {sz : Nat} {as : List Value} : FrameBlind (va_Pc as (Pg D cI cZ cJ tq ws sz)) := fun a U g mk q => by
  obtain ⟨q0, q1, qP, qK, qD, qG⟩ := q
  exact ⟨q0, q1, qP, va_K.moved (u := U) (U := U.calling g mk a) (Vm.Alike.refl U.vm) qK, qD, gt_moved (u := U) (U := U.calling g mk a) rfl rfl qG⟩
theorem preV_of {s : State} {H : Heap} {D : va_G} {cI cZ cJ : ClassId} {C : String} {T : u_T} {N : Nat} {b q0 ci : Nat} {fs As : List Value} {ws wc : va_W} {A : Nat → Prop} {tq : Nat → Nat} {locs : List Loc} (hG : GT tq A s) (hS : va_S A s.heap H locs) (hF : ∀ q, va_A wc H.size q → A q) (hK : va_K D classes (ty3 cI cZ cJ) s) (hP : va_P D classes ws H) (hc : classes[ci]? = some (C, T, N)) (he : ws[q0]? = some (b, .inr (ci, fs))) (hPc : va_P D classes wc H) (hDc : va_D A wc) : PreV s H C b (va_Pc (.ref b :: As) (Pg D cI cZ cJ tq wc H.size)) As :=
  ⟨pg_blind, va_recv hK hP hc he, fun U hU hW => ⟨rfl, by rw [hU], by rw [hU]; exact hPc, va_K.moved hW.alike hK, hDc.weaken (fun _ _ _ _ => trivial), gt_go hG hS hF hU hW⟩⟩
theorem preS_of {s : State} {H : Heap} {D : va_G} {cI cZ cJ : ClassId} {As : List Value} {wc : va_W} {A : Nat → Prop} {tq : Nat → Nat} {locs : List Loc} (hG : GT tq A s) (hS : va_S A s.heap H locs) (hF : ∀ q, va_A wc H.size q → A q) (hK : va_K D classes (ty3 cI cZ cJ) s) (hPc : va_P D classes wc H) (hDc : va_D A wc) : PreS s H (va_Pc As (Pg D cI cZ cJ tq wc H.size)) As :=
  ⟨pg_blind, fun U hU hW => ⟨rfl, by rw [hU], by rw [hU]; exact hPc, va_K.moved hW.alike hK, hDc.weaken (fun _ _ _ _ => trivial), gt_go hG hS hF hU hW⟩⟩
theorem fm_of {α β : Type} {f : α → Option β} : ∀ {l : List α} {r : List β}, l.map f = r.map some → l.filterMap f = r
  | [], [], _ => rfl
  | [], _ :: _, h => by simp at h
  | _ :: _, [], h => by simp at h
  | a :: l, b :: r, h => by
    simp only [List.map_cons, List.cons.injEq] at h
    rw [List.filterMap_cons, h.1]
    simp only [fm_of h.2]
section GC
variable {p : Program} {l : Launch} {e : Env} {R : Room} {s : State} {m : MethodId} {args : Array Value} {below : List Frame} {meth : Method} {c : Code} {H : Heap} {locs : List Loc} {cells slots : Nat} {Q : State → Prop}
variable {mc ms : Nat} {A : Nat → Prop} {H0 : Heap} {a : Array Value} {pc : Nat} {ls : Array Slot} {st0 rest : List Value} {D : va_G} {cI cZ cJ : ClassId} {ws wc w1 ws' : va_W}
/-- a call of a method whose answer and world are known: cut its cells out, join them again, in our own order -/
theorem g_calli {o : Int32} (hr : va_Run p l e R s m args below meth c H locs cells slots mc ms (F0 m pc ls st0) rest (qI D cI cZ cJ (va_A wc H.size) o w1 a) (va_A wc H.size)) (hP : va_P D classes ws H) (hD : va_D A ws) (hS : va_S A H0 H locs) (hA : ∀ q, H0.size ≤ q → A q)
    (isC isR pm : List Nat) (hC : isC.map (fun i => ws[i]?) = wc.map some) (hR : isR.map (fun i => ws[i]?) = (isR.filterMap (fun i => ws[i]?)).map some) (hn : va_nd isR = true) (hdis : ∀ i ∈ isR, i ∉ isC) (hpn : va_nd pm = true) (hpm : pm.map (fun i => (isR.filterMap (fun i => ws[i]?) ++ w1)[i]?) = ws'.map some)
    (kk : ∀ (H1 : Heap) (locs1 : List Loc), va_P D classes ws' H1 → va_D A ws' → va_S A H0 H1 locs1 → W p l e R s m args below meth c H1 locs1 (cells + mc) (slots + ms) Q (F0 m (pc + 3) ls (.int o :: rest))) : W p l e R s m args below meth c H locs cells slots Q (F0 m pc ls st0) := by
  have hFc := va_free (wc := wc) hD hS hA isC hC
  refine va_calli hr hS (fun q _ h => hFc q h) hFc (fun r u t H1 locs1 ht hvm hw hB hz1 hk1 hS1 => ?_)
  obtain ⟨hP1, hK1, hD1⟩ := hB
  rw [ht] at hP1
  obtain ⟨hP2, hD2⟩ := va_join (wr := isR.filterMap (fun i => ws[i]?)) (w1 := w1) hP hD isC isR hC hR hn hdis hk1 hFc hP1 hD1
  subst hw
  exact kk H1 locs1 (hP2.sub pm (fm_of hpm)) (hD2.sub pm hpn hpm) hS1
theorem g_calll {o : Int64} (hr : va_Run p l e R s m args below meth c H locs cells slots mc ms (F0 m pc ls st0) rest (qL D cI cZ cJ (va_A wc H.size) o w1 a) (va_A wc H.size)) (hP : va_P D classes ws H) (hD : va_D A ws) (hS : va_S A H0 H locs) (hA : ∀ q, H0.size ≤ q → A q)
    (isC isR pm : List Nat) (hC : isC.map (fun i => ws[i]?) = wc.map some) (hR : isR.map (fun i => ws[i]?) = (isR.filterMap (fun i => ws[i]?)).map some) (hn : va_nd isR = true) (hdis : ∀ i ∈ isR, i ∉ isC) (hpn : va_nd pm = true) (hpm : pm.map (fun i => (isR.filterMap (fun i => ws[i]?) ++ w1)[i]?) = ws'.map some)
    (kk : ∀ (H1 : Heap) (locs1 : List Loc), va_P D classes ws' H1 → va_D A ws' → va_S A H0 H1 locs1 → W p l e R s m args below meth c H1 locs1 (cells + mc) (slots + ms) Q (F0 m (pc + 3) ls (.long o :: rest))) : W p l e R s m args below meth c H locs cells slots Q (F0 m pc ls st0) := by
  have hFc := va_free (wc := wc) hD hS hA isC hC
  refine va_calll hr hS (fun q _ h => hFc q h) hFc (fun r u t H1 locs1 ht hvm hw hB hz1 hk1 hS1 => ?_)
  obtain ⟨hP1, hK1, hD1⟩ := hB
  rw [ht] at hP1
  obtain ⟨hP2, hD2⟩ := va_join (wr := isR.filterMap (fun i => ws[i]?)) (w1 := w1) hP hD isC isR hC hR hn hdis hk1 hFc hP1 hD1
  subst hw
  exact kk H1 locs1 (hP2.sub pm (fm_of hpm)) (hD2.sub pm hpn hpm) hS1
theorem g_callv (hr : va_Run p l e R s m args below meth c H locs cells slots mc ms (F0 m pc ls st0) rest (qV D cI cZ cJ (va_A wc H.size) w1 a) (va_A wc H.size)) (hP : va_P D classes ws H) (hD : va_D A ws) (hS : va_S A H0 H locs) (hA : ∀ q, H0.size ≤ q → A q)
    (isC isR pm : List Nat) (hC : isC.map (fun i => ws[i]?) = wc.map some) (hR : isR.map (fun i => ws[i]?) = (isR.filterMap (fun i => ws[i]?)).map some) (hn : va_nd isR = true) (hdis : ∀ i ∈ isR, i ∉ isC) (hpn : va_nd pm = true) (hpm : pm.map (fun i => (isR.filterMap (fun i => ws[i]?) ++ w1)[i]?) = ws'.map some)
    (kk : ∀ (H1 : Heap) (locs1 : List Loc), va_P D classes ws' H1 → va_D A ws' → va_S A H0 H1 locs1 → W p l e R s m args below meth c H1 locs1 (cells + mc) (slots + ms) Q (F0 m (pc + 3) ls rest)) : W p l e R s m args below meth c H locs cells slots Q (F0 m pc ls st0) := by
  have hFc := va_free (wc := wc) hD hS hA isC hC
  refine va_callv hr hS (fun q _ h => hFc q h) hFc (fun u t H1 locs1 ht hvm hw hB hz1 hk1 hS1 => ?_)
  obtain ⟨hP1, hK1, hD1⟩ := hB
  rw [ht] at hP1
  obtain ⟨hP2, hD2⟩ := va_join (wr := isR.filterMap (fun i => ws[i]?)) (w1 := w1) hP hD isC isR hC hR hn hdis hk1 hFc hP1 hD1
  exact kk H1 locs1 (hP2.sub pm (fm_of hpm)) (hD2.sub pm hpn hpm) hS1
theorem g_callt {o : Nat} (hr : va_Run p l e R s m args below meth c H locs cells slots mc ms (F0 m pc ls st0) rest (qT D cI cZ cJ (va_A wc H.size) o w1 a) (va_A wc H.size)) (hP : va_P D classes ws H) (hD : va_D A ws) (hS : va_S A H0 H locs) (hA : ∀ q, H0.size ≤ q → A q)
    (isC isR pm : List Nat) (hC : isC.map (fun i => ws[i]?) = wc.map some) (hR : isR.map (fun i => ws[i]?) = (isR.filterMap (fun i => ws[i]?)).map some) (hn : va_nd isR = true) (hdis : ∀ i ∈ isR, i ∉ isC) (hpn : va_nd pm = true) (hpm : pm.map (fun i => (isR.filterMap (fun i => ws[i]?) ++ w1)[i]?) = ws'.map some)
    (kk : ∀ (H1 : Heap) (locs1 : List Loc), va_P D classes ws' H1 → va_D A ws' → va_S A H0 H1 locs1 → W p l e R s m args below meth c H1 locs1 (cells + mc) (slots + ms) Q (F0 m (pc + 3) ls (.ref o :: rest))) : W p l e R s m args below meth c H locs cells slots Q (F0 m pc ls st0) := by
  have hFc := va_free (wc := wc) hD hS hA isC hC
  refine va_callr hr hS (fun q _ h => hFc q h) hFc (fun u ra t H1 locs1 ht hvm hw hB hz1 hk1 hS1 => ?_)
  obtain ⟨rfl, hP1, hK1, hD1⟩ := hB
  rw [ht] at hP1
  obtain ⟨hP2, hD2⟩ := va_join (wr := isR.filterMap (fun i => ws[i]?)) (w1 := w1) hP hD isC isR hC hR hn hdis hk1 hFc hP1 hD1
  exact kk H1 locs1 (hP2.sub pm (fm_of hpm)) (hD2.sub pm hpn hpm) hS1
end GC
theorem gd_V {own C : String} {idx : Nat} {y : MethodName} {b : ByteArray} {n : Nat} {r : Option FieldType} (h1 : Cond.methodLink own idx y ∈ W_all) (h2 : Cond.instanceMethod y ∈ W_all) (h3 : Cond.selects C y y ∈ W_all) (h4 : Cond.initialized C ∈ W_all) (h5 : Cond.code y b n r ∈ W_all) : GoodIn W_all (wsV own idx C y (Cond.code y b n r :: W_all)) := by
  intro w hw
  have hm : w ∈ W_all := by
    unfold wsV at hw
    rcases List.mem_append.mp hw with h | h
    · simp only [List.mem_cons, List.not_mem_nil, or_false] at h
      rcases h with rfl | rfl | rfl | rfl <;> assumption
    · rcases List.mem_cons.mp h with rfl | h <;> assumption
  exact ⟨hm, W_good w hm⟩
theorem gd_S {own : String} {idx : Nat} {y : MethodName} {b : ByteArray} {n : Nat} {r : Option FieldType} (h1 : Cond.methodLink own idx y ∈ W_all) (h2 : Cond.static y ∈ W_all) (h4 : Cond.initialized y.cls ∈ W_all) (h5 : Cond.code y b n r ∈ W_all) : GoodIn W_all (va_wsS own idx y (Cond.code y b n r :: W_all)) := by
  intro w hw
  have hm : w ∈ W_all := by
    unfold va_wsS at hw
    rcases List.mem_append.mp hw with h | h
    · simp only [List.mem_cons, List.not_mem_nil, or_false] at h
      rcases h with rfl | rfl | rfl <;> assumption
    · rcases List.mem_cons.mp h with rfl | h <;> assumption
  exact ⟨hm, W_good w hm⟩
theorem gd_I {y : MethodName} {b : ByteArray} {n : Nat} {r : Option FieldType} (h5 : Cond.code y b n r ∈ W_all) : GoodIn W_all (Cond.code y b n r :: W_all) := by
  intro w hw
  have hm : w ∈ W_all := by rcases List.mem_cons.mp hw with rfl | h <;> assumption
  exact ⟨hm, W_good w hm⟩

