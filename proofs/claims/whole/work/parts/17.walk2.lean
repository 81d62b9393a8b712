-- Reader_stepOf
abbrev RM_Reader_stepOf : Room := { frames := 0, cells := 0, slots := 0, locals := 0 }
def ws_Reader_stepOf : List Cond := .code y_Reader_stepOf b_Reader_stepOf 3 (some .int) :: W_all
def wd_Reader_stepOf (cI cZ cJ : ClassId) (tq : Nat → Nat)  : va_W := []
def F_Reader_stepOf_66 (k : Nat) (K28 : Int32 → Int32 → Int32 → Option (Int32)) (x0 : Int32) (x1 : Int32) (x2 : Int32) : Option (Int32) :=
  (K28 x0 x1 (x2 + 1))
def F_Reader_stepOf_28 (k : Nat) : Nat → Int32 → Int32 → Int32 → Option (Int32)
  | 0, _, _, _ => none
  | n + 1, x0, x1, x2 =>
    (if (nI (tbN 9)) ≤ x2 then (some 12) else (if (nI (tbN 10)) ≤ x2 then (some 12) else (if x2 < 0 ∨ tbN 9 ≤ x2.toNatClampNeg then none else (if x0 = (tbV 9 x2.toNatClampNeg) then (if x2 < 0 ∨ tbN 10 ≤ x2.toNatClampNeg then none else (if x1 = (tbV 10 x2.toNatClampNeg) then (some (x2 - (3 : Int32))) else (F_Reader_stepOf_66 k (F_Reader_stepOf_28 k n) x0 x1 x2))) else (F_Reader_stepOf_66 k (F_Reader_stepOf_28 k n) x0 x1 x2)))))
def F_Reader_stepOf_26 (k : Nat) (x0 : Int32) (x1 : Int32) : Option (Int32) :=
  (F_Reader_stepOf_28 k k x0 x1 0)
def F_Reader_stepOf_13 (k : Nat) (x0 : Int32) (x1 : Int32) : Option (Int32) :=
  (if x0 = (1 : Int32) then (if x1 = (3 : Int32) then (some 11) else (F_Reader_stepOf_26 k x0 x1)) else (F_Reader_stepOf_26 k x0 x1))
def F_Reader_stepOf (k : Nat) (x0 : Int32) (x1 : Int32) : Option (Int32) :=
  (if x0 = (1 : Int32) then (if x1 = (4 : Int32) then (some 10) else (F_Reader_stepOf_13 k x0 x1)) else (F_Reader_stepOf_13 k x0 x1))
set_option maxHeartbeats 4000000 in
set_option maxRecDepth 100000 in
theorem w_Reader_stepOf_66 {p : Program} {l : Launch} {e : Env} {s : State} {m : MethodId} {args : Array Value} {below : List Frame} {meth : Method} {c : Code} {D : va_G} {cI cZ cJ : ClassId} {tq : Nat → Nat} {A : Nat → Prop} (k : Nat) (o_r : Int32) (C0 : cx p s m meth c args b_Reader_stepOf (some .int) 3 R_Reader D cI cZ cJ tq A) (hA : ∀ q : Nat, s.heap.size ≤ q → A q) (K28 : Int32 → Int32 → Int32 → Option (Int32)) (hK28 : ∀ (x0 : Int32) (x1 : Int32) (x2 : Int32) (H : Heap) (locs : List Loc) (ls : Array Slot), va_P D classes (wd_Reader_stepOf cI cZ cJ tq ) H → va_D A (wd_Reader_stepOf cI cZ cJ tq ) → va_S A s.heap H locs → lv_has ls 3 [(0, .int x0), (1, .int x1), (2, .int x2)] → K28 x0 x1 x2 = some o_r → W p l e RM_Reader_stepOf s m args below meth c H locs 0 0 (MQ below (qI D cI cZ cJ A o_r (wd_Reader_stepOf cI cZ cJ tq)) args s 0 0 A) (F0 m 28 ls [])) : ∀ (x0 : Int32) (x1 : Int32) (x2 : Int32) (H : Heap) (locs : List Loc) (ls : Array Slot), va_P D classes (wd_Reader_stepOf cI cZ cJ tq ) H → va_D A (wd_Reader_stepOf cI cZ cJ tq ) → va_S A s.heap H locs → lv_has ls 3 [(0, .int x0), (1, .int x1), (2, .int x2)] → F_Reader_stepOf_66 k K28 x0 x1 x2 = some o_r → W p l e RM_Reader_stepOf s m args below meth c H locs 0 0 (MQ below (qI D cI cZ cJ A o_r (wd_Reader_stepOf cI cZ cJ tq)) args s 0 0 A) (F0 m 66 ls []) := by
  obtain ⟨hx, hb, hr, hml, hown, htw, hlocks, hK, hG⟩ := id C0
  intro x0 x1 x2 H locs ls hP hD hS hl hf
  unfold F_Reader_stepOf_66 at hf
  refine lv_iinc (v := (x2 + 1)) (lv' := [(2, .int (x2 + 1)), (0, .int x0), (1, .int x1)]) hx hb d_Reader_stepOf_66 hl (k := 2) rfl rfl (by decide) rfl (fun ls hl => ?_)
  refine lv_goto (tgt := 28) hx hb d_Reader_stepOf_69 (by decide) ?_
  exact hK28 x0 x1 (x2 + 1) _ _ ls hP hD hS (lv_sub hl [1, 2, 0] rfl) hf
set_option maxHeartbeats 4000000 in
set_option maxRecDepth 100000 in
theorem w_Reader_stepOf_28 {p : Program} {l : Launch} {e : Env} {s : State} {m : MethodId} {args : Array Value} {below : List Frame} {meth : Method} {c : Code} {D : va_G} {cI cZ cJ : ClassId} {tq : Nat → Nat} {A : Nat → Prop} (k : Nat) (o_r : Int32) (C0 : cx p s m meth c args b_Reader_stepOf (some .int) 3 R_Reader D cI cZ cJ tq A) (hA : ∀ q : Nat, s.heap.size ≤ q → A q) : ∀ n : Nat, ∀ (x0 : Int32) (x1 : Int32) (x2 : Int32) (H : Heap) (locs : List Loc) (ls : Array Slot), va_P D classes (wd_Reader_stepOf cI cZ cJ tq ) H → va_D A (wd_Reader_stepOf cI cZ cJ tq ) → va_S A s.heap H locs → lv_has ls 3 [(0, .int x0), (1, .int x1), (2, .int x2)] → F_Reader_stepOf_28 k n x0 x1 x2 = some o_r → W p l e RM_Reader_stepOf s m args below meth c H locs 0 0 (MQ below (qI D cI cZ cJ A o_r (wd_Reader_stepOf cI cZ cJ tq)) args s 0 0 A) (F0 m 28 ls []) := by
  obtain ⟨hx, hb, hr, hml, hown, htw, hlocks, hK, hG⟩ := id C0
  intro n
  induction n with
  | zero =>
    intro x0 x1 x2 H locs ls hP hD hS hl hf
    exact no_some hf
  | succ n ih =>
    intro x0 x1 x2 H locs ls hP hD hS hl hf
    rw [F_Reader_stepOf_28] at hf
    refine lv_iload_n hx hb d_Reader_stepOf_28 rfl (lv_at hl 2 rfl) ?_
    refine va_getsN hx hb (hG.2.1 9 (by decide)) hS hown (va_Nw.use rfl (hG.2.2.1 ("GenericRegions$Reader", 157, "GenericRegions$FaxLine", "NEAR_DIGITS", "[I", "GenericRegions") (by decide +kernel))) (fun _ h9 => h9) d_Reader_stepOf_29 ?_
    refine va_tlen (v := nI (tbN 9)) hx hb (hG.1 9 (by decide)) hS rfl d_Reader_stepOf_32 ?_
    refine lv_icmp_ge (tgt := 72) hx hb d_Reader_stepOf_33 (by decide) (fun c33 => ?_) (fun c33 => ?_)
    · have hf := it_t hf c33
      refine lv_bipush (v := 12) hx hb d_Reader_stepOf_72 (by decide) ?_
      have e0 := Option.some.inj hf
      subst e0
      exact W.iret (v := 12) hx hb hr (fun t ht hW => ⟨⟨_, (), rfl, rfl, by rw [ht]; exact hP, va_K.moved hW.alike hK, hD⟩, hS.F ht⟩) hS.2.2 d_Reader_stepOf_74 hlocks
    · have hf := it_f hf c33
      refine lv_iload_n hx hb d_Reader_stepOf_36 rfl (lv_at hl 2 rfl) ?_
      refine va_getsN hx hb (hG.2.1 10 (by decide)) hS hown (va_Nw.use rfl (hG.2.2.1 ("GenericRegions$Reader", 161, "GenericRegions$FaxLine", "NEAR_LENGTHS", "[I", "GenericRegions") (by decide +kernel))) (fun _ h9 => h9) d_Reader_stepOf_37 ?_
      refine va_tlen (v := nI (tbN 10)) hx hb (hG.1 10 (by decide)) hS rfl d_Reader_stepOf_40 ?_
      refine lv_icmp_ge (tgt := 72) hx hb d_Reader_stepOf_41 (by decide) (fun c41 => ?_) (fun c41 => ?_)
      · have hf := it_t hf c41
        refine lv_bipush (v := 12) hx hb d_Reader_stepOf_72 (by decide) ?_
        have e0 := Option.some.inj hf
        subst e0
        exact W.iret (v := 12) hx hb hr (fun t ht hW => ⟨⟨_, (), rfl, rfl, by rw [ht]; exact hP, va_K.moved hW.alike hK, hD⟩, hS.F ht⟩) hS.2.2 d_Reader_stepOf_74 hlocks
      · have hf := it_f hf c41
        refine lv_iload_n hx hb d_Reader_stepOf_44 rfl (lv_at hl 0 rfl) ?_
        refine va_getsN hx hb (hG.2.1 9 (by decide)) hS hown (va_Nw.use rfl (hG.2.2.1 ("GenericRegions$Reader", 157, "GenericRegions$FaxLine", "NEAR_DIGITS", "[I", "GenericRegions") (by decide +kernel))) (fun _ h9 => h9) d_Reader_stepOf_45 ?_
        refine lv_iload_n hx hb d_Reader_stepOf_48 rfl (lv_at hl 2 rfl) ?_
        by_cases g49 : x2 < 0 ∨ tbN 9 ≤ x2.toNatClampNeg
        · exact no_some (it_t hf g49)
        have hf := it_f hf g49
        refine va_ti (v := .int (tbV 9 x2.toNatClampNeg)) hx hb (hG.1 9 (by decide)) hS g49 rfl d_Reader_stepOf_49 ?_
        refine lv_icmp_ne (tgt := 66) hx hb d_Reader_stepOf_50 (by decide) (fun c50 => ?_) (fun c50 => ?_)
        · have hf := it_f hf c50
          exact w_Reader_stepOf_66 k o_r C0 hA (F_Reader_stepOf_28 k n) ih x0 x1 x2 _ _ ls hP hD hS (lv_sub hl [0, 1, 2] rfl) hf
        · have hf := it_t hf c50
          refine lv_iload_n hx hb d_Reader_stepOf_53 rfl (lv_at hl 1 rfl) ?_
          refine va_getsN hx hb (hG.2.1 10 (by decide)) hS hown (va_Nw.use rfl (hG.2.2.1 ("GenericRegions$Reader", 161, "GenericRegions$FaxLine", "NEAR_LENGTHS", "[I", "GenericRegions") (by decide +kernel))) (fun _ h9 => h9) d_Reader_stepOf_54 ?_
          refine lv_iload_n hx hb d_Reader_stepOf_57 rfl (lv_at hl 2 rfl) ?_
          by_cases g58 : x2 < 0 ∨ tbN 10 ≤ x2.toNatClampNeg
          · exact no_some (it_t hf g58)
          have hf := it_f hf g58
          refine va_ti (v := .int (tbV 10 x2.toNatClampNeg)) hx hb (hG.1 10 (by decide)) hS g58 rfl d_Reader_stepOf_58 ?_
          refine lv_icmp_ne (tgt := 66) hx hb d_Reader_stepOf_59 (by decide) (fun c59 => ?_) (fun c59 => ?_)
          · have hf := it_f hf c59
            exact w_Reader_stepOf_66 k o_r C0 hA (F_Reader_stepOf_28 k n) ih x0 x1 x2 _ _ ls hP hD hS (lv_sub hl [0, 1, 2] rfl) hf
          · have hf := it_t hf c59
            refine lv_iload_n hx hb d_Reader_stepOf_62 rfl (lv_at hl 2 rfl) ?_
            refine lv_iconst (v := 3) hx hb d_Reader_stepOf_63 (by decide) ?_
            refine lv_isub hx hb d_Reader_stepOf_64 ?_
            have e0 := Option.some.inj hf
            subst e0
            exact W.iret (v := (x2 - (3 : Int32))) hx hb hr (fun t ht hW => ⟨⟨_, (), rfl, rfl, by rw [ht]; exact hP, va_K.moved hW.alike hK, hD⟩, hS.F ht⟩) hS.2.2 d_Reader_stepOf_65 hlocks
set_option maxHeartbeats 4000000 in
set_option maxRecDepth 100000 in
theorem w_Reader_stepOf_26 {p : Program} {l : Launch} {e : Env} {s : State} {m : MethodId} {args : Array Value} {below : List Frame} {meth : Method} {c : Code} {D : va_G} {cI cZ cJ : ClassId} {tq : Nat → Nat} {A : Nat → Prop} (k : Nat) (o_r : Int32) (C0 : cx p s m meth c args b_Reader_stepOf (some .int) 3 R_Reader D cI cZ cJ tq A) (hA : ∀ q : Nat, s.heap.size ≤ q → A q) : ∀ (x0 : Int32) (x1 : Int32) (H : Heap) (locs : List Loc) (ls : Array Slot), va_P D classes (wd_Reader_stepOf cI cZ cJ tq ) H → va_D A (wd_Reader_stepOf cI cZ cJ tq ) → va_S A s.heap H locs → lv_has ls 3 [(0, .int x0), (1, .int x1)] → F_Reader_stepOf_26 k x0 x1 = some o_r → W p l e RM_Reader_stepOf s m args below meth c H locs 0 0 (MQ below (qI D cI cZ cJ A o_r (wd_Reader_stepOf cI cZ cJ tq)) args s 0 0 A) (F0 m 26 ls []) := by
  obtain ⟨hx, hb, hr, hml, hown, htw, hlocks, hK, hG⟩ := id C0
  intro x0 x1 H locs ls hP hD hS hl hf
  unfold F_Reader_stepOf_26 at hf
  refine lv_iconst (v := 0) hx hb d_Reader_stepOf_26 (by decide) ?_
  refine lv_istore_n (lv' := [(2, .int 0), (0, .int x0), (1, .int x1)]) hx hb d_Reader_stepOf_27 rfl hl (by decide) rfl (fun ls hl => ?_)
  exact w_Reader_stepOf_28 k o_r C0 hA k x0 x1 0 _ _ ls hP hD hS (lv_sub hl [1, 2, 0] rfl) hf
set_option maxHeartbeats 4000000 in
set_option maxRecDepth 100000 in
theorem w_Reader_stepOf_13 {p : Program} {l : Launch} {e : Env} {s : State} {m : MethodId} {args : Array Value} {below : List Frame} {meth : Method} {c : Code} {D : va_G} {cI cZ cJ : ClassId} {tq : Nat → Nat} {A : Nat → Prop} (k : Nat) (o_r : Int32) (C0 : cx p s m meth c args b_Reader_stepOf (some .int) 3 R_Reader D cI cZ cJ tq A) (hA : ∀ q : Nat, s.heap.size ≤ q → A q) : ∀ (x0 : Int32) (x1 : Int32) (H : Heap) (locs : List Loc) (ls : Array Slot), va_P D classes (wd_Reader_stepOf cI cZ cJ tq ) H → va_D A (wd_Reader_stepOf cI cZ cJ tq ) → va_S A s.heap H locs → lv_has ls 3 [(0, .int x0), (1, .int x1)] → F_Reader_stepOf_13 k x0 x1 = some o_r → W p l e RM_Reader_stepOf s m args below meth c H locs 0 0 (MQ below (qI D cI cZ cJ A o_r (wd_Reader_stepOf cI cZ cJ tq)) args s 0 0 A) (F0 m 13 ls []) := by
  obtain ⟨hx, hb, hr, hml, hown, htw, hlocks, hK, hG⟩ := id C0
  intro x0 x1 H locs ls hP hD hS hl hf
  unfold F_Reader_stepOf_13 at hf
  refine lv_iload_n hx hb d_Reader_stepOf_13 rfl (lv_at hl 0 rfl) ?_
  refine lv_iconst (v := 1) hx hb d_Reader_stepOf_14 (by decide) ?_
  refine lv_icmp_ne (tgt := 26) hx hb d_Reader_stepOf_15 (by decide) (fun c15 => ?_) (fun c15 => ?_)
  · have hf := it_f hf c15
    exact w_Reader_stepOf_26 k o_r C0 hA x0 x1 _ _ ls hP hD hS (lv_sub hl [0, 1] rfl) hf
  · have hf := it_t hf c15
    refine lv_iload_n hx hb d_Reader_stepOf_18 rfl (lv_at hl 1 rfl) ?_
    refine lv_iconst (v := 3) hx hb d_Reader_stepOf_19 (by decide) ?_
    refine lv_icmp_ne (tgt := 26) hx hb d_Reader_stepOf_20 (by decide) (fun c20 => ?_) (fun c20 => ?_)
    · have hf := it_f hf c20
      exact w_Reader_stepOf_26 k o_r C0 hA x0 x1 _ _ ls hP hD hS (lv_sub hl [0, 1] rfl) hf
    · have hf := it_t hf c20
      refine lv_bipush (v := 11) hx hb d_Reader_stepOf_23 (by decide) ?_
      have e0 := Option.some.inj hf
      subst e0
      exact W.iret (v := 11) hx hb hr (fun t ht hW => ⟨⟨_, (), rfl, rfl, by rw [ht]; exact hP, va_K.moved hW.alike hK, hD⟩, hS.F ht⟩) hS.2.2 d_Reader_stepOf_25 hlocks
set_option maxHeartbeats 4000000 in
set_option maxRecDepth 100000 in
theorem c_Reader_stepOf (l : Launch) (D : va_G) (cI cZ cJ : ClassId) (tq : Nat → Nat) (k : Nat) (sz : Nat) (x0 : Int32) (x1 : Int32) (o_r : Int32) (hf : F_Reader_stepOf k x0 x1 = some o_r) : Met l y_Reader_stepOf ws_Reader_stepOf RM_Reader_stepOf (va_Pc [.int x0, .int x1] (Pg D cI cZ cJ tq (wd_Reader_stepOf cI cZ cJ tq) sz)) (qI D cI cZ cJ (va_A (wd_Reader_stepOf cI cZ cJ tq) sz) o_r (wd_Reader_stepOf cI cZ cJ tq)) 0 0 (va_A (wd_Reader_stepOf cI cZ cJ tq) sz) := by
  refine Met.ofW (cc := b_Reader_stepOf) (maxL := 3) (ret := (some .int)) (by decide) rfl ?_
  intro p e s m args below meth c s₁ B hml hv
  obtain ⟨rfl, hsz, hP, hK, hD0, hG⟩ := hv
  have hx := B.exec
  have hb := B.bytes
  have hr := B.returns
  have htw : ∀ w ∈ W_all, w.before [.int x0, .int x1].toArray s = true := fun w h => atoms_spec (ws := ws_Reader_stepOf) B.pre w (List.mem_cons_of_mem _ h)
  have hown : s.vm.findClass R_Reader = some m.cls := findClass_of_methodNamed B.named
  have hlocks := B.notSynchronized
  subst hsz
  have hD := hD0.self (sz := s.heap.size)
  generalize hAe : va_A (wd_Reader_stepOf cI cZ cJ tq) s.heap.size = A at hD hG ⊢
  have hA : ∀ q : Nat, s.heap.size ≤ q → A q := fun q h => by rw [← hAe]; exact Or.inr h
  have hS : va_S A s.heap s.heap [] := va_S.rf
  have C0 : cx p s m meth c [.int x0, .int x1].toArray b_Reader_stepOf (some .int) 3 R_Reader D cI cZ cJ tq A := ⟨hx, hb, hr, hml, hown, htw, hlocks, hK, hG⟩
  have hl := lv_entry ([.int x0, .int x1]) (n := 3) (Nat.le_of_ble_eq_true rfl)
  rw [lg_entry_eq]
  generalize (lg_sl ([.int x0, .int x1]) ++ List.replicate (3 - (lg_sl ([.int x0, .int x1])).length) Slot.unset).toArray = ls at hl ⊢
  have hl : lv_has ls 3 [(0, .int x0), (1, .int x1)] := hl
  have hP : va_P D classes (wd_Reader_stepOf cI cZ cJ tq) s.heap := hP
  clear hAe
  unfold F_Reader_stepOf at hf
  refine lv_iload_n hx hb d_Reader_stepOf_0 rfl (lv_at hl 0 rfl) ?_
  refine lv_iconst (v := 1) hx hb d_Reader_stepOf_1 (by decide) ?_
  refine lv_icmp_ne (tgt := 13) hx hb d_Reader_stepOf_2 (by decide) (fun c2 => ?_) (fun c2 => ?_)
  · have hf := it_f hf c2
    exact w_Reader_stepOf_13 k o_r C0 hA x0 x1 _ _ ls hP hD hS (lv_sub hl [0, 1] rfl) hf
  · have hf := it_t hf c2
    refine lv_iload_n hx hb d_Reader_stepOf_5 rfl (lv_at hl 1 rfl) ?_
    refine lv_iconst (v := 4) hx hb d_Reader_stepOf_6 (by decide) ?_
    refine lv_icmp_ne (tgt := 13) hx hb d_Reader_stepOf_7 (by decide) (fun c7 => ?_) (fun c7 => ?_)
    · have hf := it_f hf c7
      exact w_Reader_stepOf_13 k o_r C0 hA x0 x1 _ _ ls hP hD hS (lv_sub hl [0, 1] rfl) hf
    · have hf := it_t hf c7
      refine lv_bipush (v := 10) hx hb d_Reader_stepOf_10 (by decide) ?_
      have e0 := Option.some.inj hf
      subst e0
      exact W.iret (v := 10) hx hb hr (fun t ht hW => ⟨⟨_, (), rfl, rfl, by rw [ht]; exact hP, va_K.moved hW.alike hK, hD⟩, hS.F ht⟩) hS.2.2 d_Reader_stepOf_12 hlocks
-- Reader_nextStep
abbrev RM_Reader_nextStep : Room := { frames := 1, cells := 0, slots := 0, locals := 22 }
def ws_Reader_nextStep : List Cond := .code y_Reader_nextStep b_Reader_nextStep 5 (some .int) :: W_all
def wd_Reader_nextStep (cI cZ cJ : ClassId) (tq : Nat → Nat) (h0 : Nat) (h_inflow : Nat) (h_inflow_words : Nat) (h_skips : Nat) (h_ways : Nat) (h_samples : Nat) (h_line : Nat) (f_width : Int32) (f_height : Int32) (f_bitsRead : Int32) (f_rowsRead : Int32) (f_copyBefore : Int32) (f_ended : Int32) (f_refusal : Int32) (f_current : Int32) (f_currentIsCopy : Int32) (f_inflow_count : Int32) (f_inflow_next : Int32) (n_inflow_words : Nat) (g_inflow_words : Nat → Int32) : va_W := [(h0, .inr (5, [.int f_width, .int f_height, .ref h_skips, .ref h_ways, .ref h_inflow, .ref h_samples, .ref h_line, .int f_bitsRead, .int f_rowsRead, .int f_copyBefore, .int f_ended, .int f_refusal, .int f_current, .int f_currentIsCopy])), (h_inflow, .inr (2, [.ref h_inflow_words, .int f_inflow_count, .int f_inflow_next])), (h_inflow_words, .inl (cI, n_inflow_words, .inl g_inflow_words))]
def F_Reader_nextStep_4 (k : Nat) (f_inflow_count : Int32) (n_inflow_words : Nat) (g_inflow_words : Nat → Int32) : Nat → Int32 → Int32 → Int32 → Int32 → Option (Int32 × Int32 × Int32)
  | 0, _, _, _, _ => none
  | n + 1, x1, x2, f_refusal, f_inflow_next =>
    (if (7 : Int32) < x2 then (some (12, 0, f_inflow_next)) else (bd2 (F_Inflow_take f_inflow_count f_inflow_next n_inflow_words g_inflow_words) (fun r14 w14_f_next => (if r14 = (-1 : Int32) then (some (12, f_refusal, w14_f_next)) else (bd1 (F_Reader_stepOf k ((x1 <<< ((1 : Int32) &&& 31)) ||| r14) x2) (fun r34 => (if r34 = (12 : Int32) then (F_Reader_nextStep_4 k f_inflow_count n_inflow_words g_inflow_words n ((x1 <<< ((1 : Int32) &&& 31)) ||| r14) (x2 + 1) f_refusal w14_f_next) else (some (r34, f_refusal, w14_f_next)))))))))
def F_Reader_nextStep (k : Nat) (f_refusal : Int32) (f_inflow_count : Int32) (f_inflow_next : Int32) (n_inflow_words : Nat) (g_inflow_words : Nat → Int32) : Option (Int32 × Int32 × Int32) :=
  (F_Reader_nextStep_4 k f_inflow_count n_inflow_words g_inflow_words k 0 1 f_refusal f_inflow_next)
set_option maxHeartbeats 4000000 in
set_option maxRecDepth 100000 in
theorem w_Reader_nextStep_4 {p : Program} {l : Launch} {e : Env} {s : State} {m : MethodId} {args : Array Value} {below : List Frame} {meth : Method} {c : Code} {D : va_G} {cI cZ cJ : ClassId} {tq : Nat → Nat} {A : Nat → Prop} (k : Nat) (h0 : Nat) (h_inflow : Nat) (h_inflow_words : Nat) (h_skips : Nat) (h_ways : Nat) (h_samples : Nat) (h_line : Nat) (f_width : Int32) (f_height : Int32) (f_bitsRead : Int32) (f_rowsRead : Int32) (f_copyBefore : Int32) (f_ended : Int32) (f_current : Int32) (f_currentIsCopy : Int32) (f_inflow_count : Int32) (n_inflow_words : Nat) (g_inflow_words : Nat → Int32) (o_r : Int32) (o_f_refusal : Int32) (o_f_inflow_next : Int32) (C0 : cx p s m meth c args b_Reader_nextStep (some .int) 5 R_Reader D cI cZ cJ tq A) (hA : ∀ q : Nat, s.heap.size ≤ q → A q) : ∀ n : Nat, ∀ (x1 : Int32) (x2 : Int32) (f_refusal : Int32) (f_inflow_next : Int32) (H : Heap) (locs : List Loc) (ls : Array Slot), va_P D classes (wd_Reader_nextStep cI cZ cJ tq h0 h_inflow h_inflow_words h_skips h_ways h_samples h_line f_width f_height f_bitsRead f_rowsRead f_copyBefore f_ended f_refusal f_current f_currentIsCopy f_inflow_count f_inflow_next n_inflow_words g_inflow_words) H → va_D A (wd_Reader_nextStep cI cZ cJ tq h0 h_inflow h_inflow_words h_skips h_ways h_samples h_line f_width f_height f_bitsRead f_rowsRead f_copyBefore f_ended f_refusal f_current f_currentIsCopy f_inflow_count f_inflow_next n_inflow_words g_inflow_words) → va_S A s.heap H locs → lv_has ls 5 [(0, .ref h0), (1, .int x1), (2, .int x2)] → F_Reader_nextStep_4 k f_inflow_count n_inflow_words g_inflow_words n x1 x2 f_refusal f_inflow_next = some (o_r, o_f_refusal, o_f_inflow_next) → W p l e RM_Reader_nextStep s m args below meth c H locs 0 0 (MQ below (qI D cI cZ cJ A o_r (wd_Reader_nextStep cI cZ cJ tq h0 h_inflow h_inflow_words h_skips h_ways h_samples h_line f_width f_height f_bitsRead f_rowsRead f_copyBefore f_ended o_f_refusal f_current f_currentIsCopy f_inflow_count o_f_inflow_next n_inflow_words g_inflow_words)) args s 0 0 A) (F0 m 4 ls []) := by
  obtain ⟨hx, hb, hr, hml, hown, htw, hlocks, hK, hG⟩ := id C0
  intro n
  induction n with
  | zero =>
    intro x1 x2 f_refusal f_inflow_next H locs ls hP hD hS hl hf
    exact no_some hf
  | succ n ih =>
    intro x1 x2 f_refusal f_inflow_next H locs ls hP hD hS hl hf
    rw [F_Reader_nextStep_4] at hf
    refine lv_iload_n hx hb d_Reader_nextStep_4 rfl (lv_at hl 2 rfl) ?_
    refine lv_bipush (v := 7) hx hb d_Reader_nextStep_5 (by decide) ?_
    refine lv_icmp_gt (tgt := 55) hx hb d_Reader_nextStep_7 (by decide) (fun c7 => ?_) (fun c7 => ?_)
    · have hf := it_t hf c7
      refine lv_aload_n hx hb d_Reader_nextStep_55 rfl (lv_at hl 0 rfl) ?_
      refine lv_iconst (v := 0) hx hb d_Reader_nextStep_56 (by decide) ?_
      refine va_put (D := D) (ci := 5) (v := .int 0) (ty := .int) (C := R_Reader) (T := F_Reader) (N := 14) hx hb htw i_Reader t_Reader t_Reader_ok n_Reader hown hK hP hD hS 0 rfl rfl 11 (by decide) (htw _ in69) (fun _ h9 => h9) rfl (by decide +kernel) rfl rfl (Nat.le_of_ble_eq_true rfl) d_Reader_nextStep_57 (fun H locs hP hD hS => ?_)
      have hP : va_P D classes (wd_Reader_nextStep cI cZ cJ tq h0 h_inflow h_inflow_words h_skips h_ways h_samples h_line f_width f_height f_bitsRead f_rowsRead f_copyBefore f_ended 0 f_current f_currentIsCopy f_inflow_count f_inflow_next n_inflow_words g_inflow_words) H := hP
      have hD : va_D A (wd_Reader_nextStep cI cZ cJ tq h0 h_inflow h_inflow_words h_skips h_ways h_samples h_line f_width f_height f_bitsRead f_rowsRead f_copyBefore f_ended 0 f_current f_currentIsCopy f_inflow_count f_inflow_next n_inflow_words g_inflow_words) := hD
      refine lv_bipush (v := 12) hx hb d_Reader_nextStep_60 (by decide) ?_
      obtain ⟨e0, e1, e2⟩ := so3 hf
      subst e0; subst e1; subst e2
      exact W.iret (v := 12) hx hb hr (fun t ht hW => ⟨⟨_, (), rfl, rfl, by rw [ht]; exact hP, va_K.moved hW.alike hK, hD⟩, hS.F ht⟩) hS.2.2 d_Reader_nextStep_62 hlocks
    · have hf := it_f hf c7
      refine lv_aload_n hx hb d_Reader_nextStep_10 rfl (lv_at hl 0 rfl) ?_
      refine va_get (D := D) (ci := 5) (v := .ref h_inflow) (C := R_Reader) (T := F_Reader) (N := 14) hx hb htw i_Reader hown hK hP 0 rfl rfl 4 (by decide) (htw _ in74) (fun _ h9 => h9) rfl d_Reader_nextStep_11 ?_
      obtain ⟨r14, w14_f_next, e14, hf⟩ := bd2_some hf
      refine g_calli (wc := (wd_Inflow_take cI cZ cJ tq h_inflow h_inflow_words f_inflow_count f_inflow_next n_inflow_words g_inflow_words)) (w1 := (wd_Inflow_take cI cZ cJ tq h_inflow h_inflow_words f_inflow_count w14_f_next n_inflow_words g_inflow_words)) (ws' := (wd_Reader_nextStep cI cZ cJ tq h0 h_inflow h_inflow_words h_skips h_ways h_samples h_line f_width f_height f_bitsRead f_rowsRead f_copyBefore f_ended f_refusal f_current f_currentIsCopy f_inflow_count w14_f_next n_inflow_words g_inflow_words)) (va_runV (As := []) (rest := []) ⟨hx, hb, hml, hown, htw⟩ (c_Inflow_take l D cI cZ cJ tq h_inflow h_inflow_words _ f_inflow_count f_inflow_next n_inflow_words g_inflow_words r14 w14_f_next e14) (cwV 0 htw (gd_V in98 in99 in100 in101 in97) rfl rfl rfl (by decide +kernel) ⟨Nat.le_of_ble_eq_true rfl, Nat.le_of_ble_eq_true rfl⟩) (preV_of (ci := 2) (q0 := 1) hG hS (va_free (wc := (wd_Inflow_take cI cZ cJ tq h_inflow h_inflow_words f_inflow_count f_inflow_next n_inflow_words g_inflow_words)) hD hS hA [1, 2] rfl) hK hP rfl rfl (hP.sub (ws' := (wd_Inflow_take cI cZ cJ tq h_inflow h_inflow_words f_inflow_count f_inflow_next n_inflow_words g_inflow_words)) [1, 2] rfl) (hD.sub (ws' := (wd_Inflow_take cI cZ cJ tq h_inflow h_inflow_words f_inflow_count f_inflow_next n_inflow_words g_inflow_words)) [1, 2] (by decide) rfl)) rfl rfl hl.1 rfl (lv_room (Nat.le_of_ble_eq_true rfl)) d_Reader_nextStep_14 ⟨Nat.le_of_ble_eq_true rfl, Nat.le_of_ble_eq_true rfl⟩) hP hD hS hA [1, 2] [0] [0, 1, 2] rfl rfl (by decide) (by decide) (by decide) rfl (fun H locs hP hD hS => ?_)
      refine lv_istore_n (lv' := [(3, .int r14), (0, .ref h0), (1, .int x1), (2, .int x2)]) hx hb d_Reader_nextStep_17 rfl hl (by decide) rfl (fun ls hl => ?_)
      refine lv_iload_n hx hb d_Reader_nextStep_18 rfl (lv_at hl 0 rfl) ?_
      refine lv_iconst (v := (-1)) hx hb d_Reader_nextStep_19 (by decide) ?_
      refine lv_icmp_ne (tgt := 26) hx hb d_Reader_nextStep_20 (by decide) (fun c20 => ?_) (fun c20 => ?_)
      · have hf := it_f hf c20
        refine lv_iload_n hx hb d_Reader_nextStep_26 rfl (lv_at hl 2 rfl) ?_
        refine lv_iconst (v := 1) hx hb d_Reader_nextStep_27 (by decide) ?_
        refine lv_ishl hx hb d_Reader_nextStep_28 ?_
        refine lv_iload_n hx hb d_Reader_nextStep_29 rfl (lv_at hl 0 rfl) ?_
        refine lv_ior hx hb d_Reader_nextStep_30 ?_
        refine lv_istore_n (lv' := [(1, .int ((x1 <<< ((1 : Int32) &&& 31)) ||| r14)), (3, .int r14), (0, .ref h0), (2, .int x2)]) hx hb d_Reader_nextStep_31 rfl hl (by decide) rfl (fun ls hl => ?_)
        refine lv_iload_n hx hb d_Reader_nextStep_32 rfl (lv_at hl 0 rfl) ?_
        refine lv_iload_n hx hb d_Reader_nextStep_33 rfl (lv_at hl 3 rfl) ?_
        obtain ⟨r34, e34, hf⟩ := bd1_some hf
        refine g_calli (wc := (wd_Reader_stepOf cI cZ cJ tq )) (w1 := (wd_Reader_stepOf cI cZ cJ tq)) (ws' := (wd_Reader_nextStep cI cZ cJ tq h0 h_inflow h_inflow_words h_skips h_ways h_samples h_line f_width f_height f_bitsRead f_rowsRead f_copyBefore f_ended f_refusal f_current f_currentIsCopy f_inflow_count w14_f_next n_inflow_words g_inflow_words)) (va_runS (As := [.int ((x1 <<< ((1 : Int32) &&& 31)) ||| r14), .int x2]) (rest := []) ⟨hx, hb, hml, hown, htw⟩ (c_Reader_stepOf l D cI cZ cJ tq k _  ((x1 <<< ((1 : Int32) &&& 31)) ||| r14) x2 r34 e34) (va_cwS 2 htw (gd_S in124 in125 in121 in123) rfl rfl rfl (by decide +kernel) ⟨Nat.le_of_ble_eq_true rfl, Nat.le_of_ble_eq_true rfl⟩) (preS_of hG hS (va_free (wc := (wd_Reader_stepOf cI cZ cJ tq )) hD hS hA [] rfl) hK (hP.sub (ws' := (wd_Reader_stepOf cI cZ cJ tq )) [] rfl) (hD.sub (ws' := (wd_Reader_stepOf cI cZ cJ tq )) [] (by decide) rfl)) rfl rfl hl.1 rfl (lv_room (Nat.le_of_ble_eq_true rfl)) d_Reader_nextStep_34 ⟨Nat.le_of_ble_eq_true rfl, Nat.le_of_ble_eq_true rfl⟩) hP hD hS hA [] [0, 1, 2] [0, 1, 2] rfl rfl (by decide) (by decide) (by decide) rfl (fun H locs hP hD hS => ?_)
        refine lv_istore (lv' := [(4, .int r34), (1, .int ((x1 <<< ((1 : Int32) &&& 31)) ||| r14)), (3, .int r14), (0, .ref h0), (2, .int x2)]) hx hb d_Reader_nextStep_37 hl (by decide) rfl (fun ls hl => ?_)
        refine lv_iload hx hb d_Reader_nextStep_39 (lv_at hl 0 rfl) ?_
        refine lv_bipush (v := 12) hx hb d_Reader_nextStep_41 (by decide) ?_
        refine lv_icmp_eq (tgt := 49) hx hb d_Reader_nextStep_43 (by decide) (fun c43 => ?_) (fun c43 => ?_)
        · have hf := it_t hf c43
          refine lv_iinc (v := (x2 + 1)) (lv' := [(2, .int (x2 + 1)), (4, .int r34), (1, .int ((x1 <<< ((1 : Int32) &&& 31)) ||| r14)), (3, .int r14), (0, .ref h0)]) hx hb d_Reader_nextStep_49 hl (k := 4) rfl rfl (by decide) rfl (fun ls hl => ?_)
          refine lv_goto (tgt := 4) hx hb d_Reader_nextStep_52 (by decide) ?_
          exact ih ((x1 <<< ((1 : Int32) &&& 31)) ||| r14) (x2 + 1) f_refusal w14_f_next _ _ ls hP hD hS (lv_sub hl [4, 2, 0] rfl) hf
        · have hf := it_f hf c43
          refine lv_iload hx hb d_Reader_nextStep_46 (lv_at hl 0 rfl) ?_
          obtain ⟨e0, e1, e2⟩ := so3 hf
          subst e0; subst e1; subst e2
          exact W.iret (v := r34) hx hb hr (fun t ht hW => ⟨⟨_, (), rfl, rfl, by rw [ht]; exact hP, va_K.moved hW.alike hK, hD⟩, hS.F ht⟩) hS.2.2 d_Reader_nextStep_48 hlocks
      · have hf := it_t hf c20
        refine lv_bipush (v := 12) hx hb d_Reader_nextStep_23 (by decide) ?_
        obtain ⟨e0, e1, e2⟩ := so3 hf
        subst e0; subst e1; subst e2
        exact W.iret (v := 12) hx hb hr (fun t ht hW => ⟨⟨_, (), rfl, rfl, by rw [ht]; exact hP, va_K.moved hW.alike hK, hD⟩, hS.F ht⟩) hS.2.2 d_Reader_nextStep_25 hlocks
set_option maxHeartbeats 4000000 in
set_option maxRecDepth 100000 in
theorem c_Reader_nextStep (l : Launch) (D : va_G) (cI cZ cJ : ClassId) (tq : Nat → Nat) (k : Nat) (h0 : Nat) (h_inflow : Nat) (h_inflow_words : Nat) (h_skips : Nat) (h_ways : Nat) (h_samples : Nat) (h_line : Nat) (sz : Nat) (f_width : Int32) (f_height : Int32) (f_bitsRead : Int32) (f_rowsRead : Int32) (f_copyBefore : Int32) (f_ended : Int32) (f_refusal : Int32) (f_current : Int32) (f_currentIsCopy : Int32) (f_inflow_count : Int32) (f_inflow_next : Int32) (n_inflow_words : Nat) (g_inflow_words : Nat → Int32) (o_r : Int32) (o_f_refusal : Int32) (o_f_inflow_next : Int32) (hf : F_Reader_nextStep k f_refusal f_inflow_count f_inflow_next n_inflow_words g_inflow_words = some (o_r, o_f_refusal, o_f_inflow_next)) : Met l y_Reader_nextStep ws_Reader_nextStep RM_Reader_nextStep (va_Pc [.ref h0] (Pg D cI cZ cJ tq (wd_Reader_nextStep cI cZ cJ tq h0 h_inflow h_inflow_words h_skips h_ways h_samples h_line f_width f_height f_bitsRead f_rowsRead f_copyBefore f_ended f_refusal f_current f_currentIsCopy f_inflow_count f_inflow_next n_inflow_words g_inflow_words) sz)) (qI D cI cZ cJ (va_A (wd_Reader_nextStep cI cZ cJ tq h0 h_inflow h_inflow_words h_skips h_ways h_samples h_line f_width f_height f_bitsRead f_rowsRead f_copyBefore f_ended f_refusal f_current f_currentIsCopy f_inflow_count f_inflow_next n_inflow_words g_inflow_words) sz) o_r (wd_Reader_nextStep cI cZ cJ tq h0 h_inflow h_inflow_words h_skips h_ways h_samples h_line f_width f_height f_bitsRead f_rowsRead f_copyBefore f_ended o_f_refusal f_current f_currentIsCopy f_inflow_count o_f_inflow_next n_inflow_words g_inflow_words)) 0 0 (va_A (wd_Reader_nextStep cI cZ cJ tq h0 h_inflow h_inflow_words h_skips h_ways h_samples h_line f_width f_height f_bitsRead f_rowsRead f_copyBefore f_ended f_refusal f_current f_currentIsCopy f_inflow_count f_inflow_next n_inflow_words g_inflow_words) sz) := by
  refine Met.ofW (cc := b_Reader_nextStep) (maxL := 5) (ret := (some .int)) (by decide) rfl ?_
  intro p e s m args below meth c s₁ B hml hv
  obtain ⟨rfl, hsz, hP, hK, hD0, hG⟩ := hv
  have hx := B.exec
  have hb := B.bytes
  have hr := B.returns
  have htw : ∀ w ∈ W_all, w.before [.ref h0].toArray s = true := fun w h => atoms_spec (ws := ws_Reader_nextStep) B.pre w (List.mem_cons_of_mem _ h)
  have hown : s.vm.findClass R_Reader = some m.cls := findClass_of_methodNamed B.named
  have hlocks := B.notSynchronized
  subst hsz
  have hD := hD0.self (sz := s.heap.size)
  generalize hAe : va_A (wd_Reader_nextStep cI cZ cJ tq h0 h_inflow h_inflow_words h_skips h_ways h_samples h_line f_width f_height f_bitsRead f_rowsRead f_copyBefore f_ended f_refusal f_current f_currentIsCopy f_inflow_count f_inflow_next n_inflow_words g_inflow_words) s.heap.size = A at hD hG ⊢
  have hA : ∀ q : Nat, s.heap.size ≤ q → A q := fun q h => by rw [← hAe]; exact Or.inr h
  have hS : va_S A s.heap s.heap [] := va_S.rf
  have C0 : cx p s m meth c [.ref h0].toArray b_Reader_nextStep (some .int) 5 R_Reader D cI cZ cJ tq A := ⟨hx, hb, hr, hml, hown, htw, hlocks, hK, hG⟩
  have hl := lv_entry ([.ref h0]) (n := 5) (Nat.le_of_ble_eq_true rfl)
  rw [lg_entry_eq]
  generalize (lg_sl ([.ref h0]) ++ List.replicate (5 - (lg_sl ([.ref h0])).length) Slot.unset).toArray = ls at hl ⊢
  have hl : lv_has ls 5 [(0, .ref h0)] := hl
  have hP : va_P D classes (wd_Reader_nextStep cI cZ cJ tq h0 h_inflow h_inflow_words h_skips h_ways h_samples h_line f_width f_height f_bitsRead f_rowsRead f_copyBefore f_ended f_refusal f_current f_currentIsCopy f_inflow_count f_inflow_next n_inflow_words g_inflow_words) s.heap := hP
  clear hAe
  unfold F_Reader_nextStep at hf
  refine lv_iconst (v := 0) hx hb d_Reader_nextStep_0 (by decide) ?_
  refine lv_istore_n (lv' := [(1, .int 0), (0, .ref h0)]) hx hb d_Reader_nextStep_1 rfl hl (by decide) rfl (fun ls hl => ?_)
  refine lv_iconst (v := 1) hx hb d_Reader_nextStep_2 (by decide) ?_
  refine lv_istore_n (lv' := [(2, .int 1), (1, .int 0), (0, .ref h0)]) hx hb d_Reader_nextStep_3 rfl hl (by decide) rfl (fun ls hl => ?_)
  exact w_Reader_nextStep_4 k h0 h_inflow h_inflow_words h_skips h_ways h_samples h_line f_width f_height f_bitsRead f_rowsRead f_copyBefore f_ended f_current f_currentIsCopy f_inflow_count n_inflow_words g_inflow_words o_r o_f_refusal o_f_inflow_next C0 hA k 0 1 f_refusal f_inflow_next _ _ ls hP hD hS (lv_sub hl [2, 1, 0] rfl) hf
-- Reader_readNumber
abbrev RM_Reader_readNumber : Room := { frames := 1, cells := 0, slots := 0, locals := 22 }
def ws_Reader_readNumber : List Cond := .code y_Reader_readNumber b_Reader_readNumber 5 (some .int) :: W_all
def wd_Reader_readNumber (cI cZ cJ : ClassId) (tq : Nat → Nat) (h0 : Nat) (h_inflow : Nat) (h_inflow_words : Nat) (h_skips : Nat) (h_ways : Nat) (h_samples : Nat) (h_line : Nat) (f_width : Int32) (f_height : Int32) (f_bitsRead : Int32) (f_rowsRead : Int32) (f_copyBefore : Int32) (f_ended : Int32) (f_refusal : Int32) (f_current : Int32) (f_currentIsCopy : Int32) (f_inflow_count : Int32) (f_inflow_next : Int32) (n_inflow_words : Nat) (g_inflow_words : Nat → Int32) : va_W := [(h0, .inr (5, [.int f_width, .int f_height, .ref h_skips, .ref h_ways, .ref h_inflow, .ref h_samples, .ref h_line, .int f_bitsRead, .int f_rowsRead, .int f_copyBefore, .int f_ended, .int f_refusal, .int f_current, .int f_currentIsCopy])), (h_inflow, .inr (2, [.ref h_inflow_words, .int f_inflow_count, .int f_inflow_next])), (h_inflow_words, .inl (cI, n_inflow_words, .inl g_inflow_words))]
def F_Reader_readNumber_86 (k : Nat) (f_inflow_count : Int32) (n_inflow_words : Nat) (g_inflow_words : Nat → Int32) (x3 : Int32) (f_refusal : Int32) (f_inflow_next : Int32) : Option (Int32 × Int32 × Int32) :=
  (if x3 ≤ 0 then (some ((-1), f_refusal, f_inflow_next)) else (some ((x3 - (1 : Int32)), f_refusal, f_inflow_next)))
def F_Reader_readNumber_79 (k : Nat) (K47 : Int32 → Int32 → Int32 → Int32 → Int32 → Option (Int32 × Int32 × Int32)) (f_inflow_count : Int32) (n_inflow_words : Nat) (g_inflow_words : Nat → Int32) (x1 : Int32) (x4 : Int32) (z0 : Int32) (f_refusal : Int32) (f_inflow_next : Int32) : Option (Int32 × Int32 × Int32) :=
  (K47 x1 z0 (x4 + 1) f_refusal f_inflow_next)
def F_Reader_readNumber_47 (k : Nat) (f_inflow_count : Int32) (n_inflow_words : Nat) (g_inflow_words : Nat → Int32) : Nat → Int32 → Int32 → Int32 → Int32 → Int32 → Option (Int32 × Int32 × Int32)
  | 0, _, _, _, _, _ => none
  | n + 1, x1, x3, x4, f_refusal, f_inflow_next =>
    (if x1 ≤ x4 then (F_Reader_readNumber_86 k f_inflow_count n_inflow_words g_inflow_words x3 f_refusal f_inflow_next) else (if x3 ≤ 0 then (F_Reader_readNumber_86 k f_inflow_count n_inflow_words g_inflow_words x3 f_refusal f_inflow_next) else (bd2 (F_Inflow_take f_inflow_count f_inflow_next n_inflow_words g_inflow_words) (fun r61 w61_f_next => (if r61 = (-1 : Int32) then (F_Reader_readNumber_79 k (F_Reader_readNumber_47 k f_inflow_count n_inflow_words g_inflow_words n) f_inflow_count n_inflow_words g_inflow_words x1 x4 (-1) f_refusal w61_f_next) else (F_Reader_readNumber_79 k (F_Reader_readNumber_47 k f_inflow_count n_inflow_words g_inflow_words n) f_inflow_count n_inflow_words g_inflow_words x1 x4 ((x3 <<< ((1 : Int32) &&& 31)) ||| r61) f_refusal w61_f_next))))))
def F_Reader_readNumber_42 (k : Nat) (f_inflow_count : Int32) (n_inflow_words : Nat) (g_inflow_words : Nat → Int32) (x1 : Int32) (x2 : Int32) (f_refusal : Int32) (f_inflow_next : Int32) : Option (Int32 × Int32 × Int32) :=
  (F_Reader_readNumber_47 k f_inflow_count n_inflow_words g_inflow_words k x1 x2 0 f_refusal f_inflow_next)
def F_Reader_readNumber_33 (k : Nat) (f_inflow_count : Int32) (n_inflow_words : Nat) (g_inflow_words : Nat → Int32) (x1 : Int32) (x2 : Int32) (f_refusal : Int32) (f_inflow_next : Int32) : Option (Int32 × Int32 × Int32) :=
  (if x2 = 0 then (F_Reader_readNumber_42 k f_inflow_count n_inflow_words g_inflow_words x1 x2 2 f_inflow_next) else (F_Reader_readNumber_42 k f_inflow_count n_inflow_words g_inflow_words x1 x2 f_refusal f_inflow_next))
def F_Reader_readNumber_10 (k : Nat) (f_inflow_count : Int32) (n_inflow_words : Nat) (g_inflow_words : Nat → Int32) : Nat → Int32 → Int32 → Int32 → Int32 → Option (Int32 × Int32 × Int32)
  | 0, _, _, _, _ => none
  | n + 1, x1, x2, f_refusal, f_inflow_next =>
    (if x2 = 0 then (if (4 : Int32) ≤ x1 then (F_Reader_readNumber_33 k f_inflow_count n_inflow_words g_inflow_words x1 x2 f_refusal f_inflow_next) else (bd2 (F_Inflow_take f_inflow_count f_inflow_next n_inflow_words g_inflow_words) (fun r26 w26_f_next => (F_Reader_readNumber_10 k f_inflow_count n_inflow_words g_inflow_words n (x1 + 1) r26 f_refusal w26_f_next)))) else (F_Reader_readNumber_33 k f_inflow_count n_inflow_words g_inflow_words x1 x2 f_refusal f_inflow_next))
def F_Reader_readNumber (k : Nat) (f_refusal : Int32) (f_inflow_count : Int32) (f_inflow_next : Int32) (n_inflow_words : Nat) (g_inflow_words : Nat → Int32) : Option (Int32 × Int32 × Int32) :=
  (bd2 (F_Inflow_take f_inflow_count f_inflow_next n_inflow_words g_inflow_words) (fun r6 w6_f_next => (F_Reader_readNumber_10 k f_inflow_count n_inflow_words g_inflow_words k 0 r6 f_refusal w6_f_next)))
set_option maxHeartbeats 4000000 in
set_option maxRecDepth 100000 in
theorem w_Reader_readNumber_86 {p : Program} {l : Launch} {e : Env} {s : State} {m : MethodId} {args : Array Value} {below : List Frame} {meth : Method} {c : Code} {D : va_G} {cI cZ cJ : ClassId} {tq : Nat → Nat} {A : Nat → Prop} (k : Nat) (h0 : Nat) (h_inflow : Nat) (h_inflow_words : Nat) (h_skips : Nat) (h_ways : Nat) (h_samples : Nat) (h_line : Nat) (f_width : Int32) (f_height : Int32) (f_bitsRead : Int32) (f_rowsRead : Int32) (f_copyBefore : Int32) (f_ended : Int32) (f_current : Int32) (f_currentIsCopy : Int32) (f_inflow_count : Int32) (n_inflow_words : Nat) (g_inflow_words : Nat → Int32) (o_r : Int32) (o_f_refusal : Int32) (o_f_inflow_next : Int32) (C0 : cx p s m meth c args b_Reader_readNumber (some .int) 5 R_Reader D cI cZ cJ tq A) (hA : ∀ q : Nat, s.heap.size ≤ q → A q) : ∀ (x3 : Int32) (f_refusal : Int32) (f_inflow_next : Int32) (H : Heap) (locs : List Loc) (ls : Array Slot), va_P D classes (wd_Reader_readNumber cI cZ cJ tq h0 h_inflow h_inflow_words h_skips h_ways h_samples h_line f_width f_height f_bitsRead f_rowsRead f_copyBefore f_ended f_refusal f_current f_currentIsCopy f_inflow_count f_inflow_next n_inflow_words g_inflow_words) H → va_D A (wd_Reader_readNumber cI cZ cJ tq h0 h_inflow h_inflow_words h_skips h_ways h_samples h_line f_width f_height f_bitsRead f_rowsRead f_copyBefore f_ended f_refusal f_current f_currentIsCopy f_inflow_count f_inflow_next n_inflow_words g_inflow_words) → va_S A s.heap H locs → lv_has ls 5 [(3, .int x3)] → F_Reader_readNumber_86 k f_inflow_count n_inflow_words g_inflow_words x3 f_refusal f_inflow_next = some (o_r, o_f_refusal, o_f_inflow_next) → W p l e RM_Reader_readNumber s m args below meth c H locs 0 0 (MQ below (qI D cI cZ cJ A o_r (wd_Reader_readNumber cI cZ cJ tq h0 h_inflow h_inflow_words h_skips h_ways h_samples h_line f_width f_height f_bitsRead f_rowsRead f_copyBefore f_ended o_f_refusal f_current f_currentIsCopy f_inflow_count o_f_inflow_next n_inflow_words g_inflow_words)) args s 0 0 A) (F0 m 86 ls []) := by
  obtain ⟨hx, hb, hr, hml, hown, htw, hlocks, hK, hG⟩ := id C0
  intro x3 f_refusal f_inflow_next H locs ls hP hD hS hl hf
  unfold F_Reader_readNumber_86 at hf
  refine lv_iload_n hx hb d_Reader_readNumber_86 rfl (lv_at hl 0 rfl) ?_
  refine lv_if_le (tgt := 96) hx hb d_Reader_readNumber_87 (by decide) (fun c87 => ?_) (fun c87 => ?_)
  · have hf := it_t hf c87
    refine lv_iconst (v := (-1)) hx hb d_Reader_readNumber_96 (by decide) ?_
    obtain ⟨e0, e1, e2⟩ := so3 hf
    subst e0; subst e1; subst e2
    exact W.iret (v := (-1)) hx hb hr (fun t ht hW => ⟨⟨_, (), rfl, rfl, by rw [ht]; exact hP, va_K.moved hW.alike hK, hD⟩, hS.F ht⟩) hS.2.2 d_Reader_readNumber_97 hlocks
  · have hf := it_f hf c87
    refine lv_iload_n hx hb d_Reader_readNumber_90 rfl (lv_at hl 0 rfl) ?_
    refine lv_iconst (v := 1) hx hb d_Reader_readNumber_91 (by decide) ?_
    refine lv_isub hx hb d_Reader_readNumber_92 ?_
    refine lv_goto (tgt := 97) hx hb d_Reader_readNumber_93 (by decide) ?_
    obtain ⟨e0, e1, e2⟩ := so3 hf
    subst e0; subst e1; subst e2
    exact W.iret (v := (x3 - (1 : Int32))) hx hb hr (fun t ht hW => ⟨⟨_, (), rfl, rfl, by rw [ht]; exact hP, va_K.moved hW.alike hK, hD⟩, hS.F ht⟩) hS.2.2 d_Reader_readNumber_97 hlocks
set_option maxHeartbeats 4000000 in
set_option maxRecDepth 100000 in
theorem w_Reader_readNumber_79 {p : Program} {l : Launch} {e : Env} {s : State} {m : MethodId} {args : Array Value} {below : List Frame} {meth : Method} {c : Code} {D : va_G} {cI cZ cJ : ClassId} {tq : Nat → Nat} {A : Nat → Prop} (k : Nat) (h0 : Nat) (h_inflow : Nat) (h_inflow_words : Nat) (h_skips : Nat) (h_ways : Nat) (h_samples : Nat) (h_line : Nat) (f_width : Int32) (f_height : Int32) (f_bitsRead : Int32) (f_rowsRead : Int32) (f_copyBefore : Int32) (f_ended : Int32) (f_current : Int32) (f_currentIsCopy : Int32) (f_inflow_count : Int32) (n_inflow_words : Nat) (g_inflow_words : Nat → Int32) (o_r : Int32) (o_f_refusal : Int32) (o_f_inflow_next : Int32) (C0 : cx p s m meth c args b_Reader_readNumber (some .int) 5 R_Reader D cI cZ cJ tq A) (hA : ∀ q : Nat, s.heap.size ≤ q → A q) (K47 : Int32 → Int32 → Int32 → Int32 → Int32 → Option (Int32 × Int32 × Int32)) (hK47 : ∀ (x1 : Int32) (x3 : Int32) (x4 : Int32) (f_refusal : Int32) (f_inflow_next : Int32) (H : Heap) (locs : List Loc) (ls : Array Slot), va_P D classes (wd_Reader_readNumber cI cZ cJ tq h0 h_inflow h_inflow_words h_skips h_ways h_samples h_line f_width f_height f_bitsRead f_rowsRead f_copyBefore f_ended f_refusal f_current f_currentIsCopy f_inflow_count f_inflow_next n_inflow_words g_inflow_words) H → va_D A (wd_Reader_readNumber cI cZ cJ tq h0 h_inflow h_inflow_words h_skips h_ways h_samples h_line f_width f_height f_bitsRead f_rowsRead f_copyBefore f_ended f_refusal f_current f_currentIsCopy f_inflow_count f_inflow_next n_inflow_words g_inflow_words) → va_S A s.heap H locs → lv_has ls 5 [(0, .ref h0), (1, .int x1), (3, .int x3), (4, .int x4)] → K47 x1 x3 x4 f_refusal f_inflow_next = some (o_r, o_f_refusal, o_f_inflow_next) → W p l e RM_Reader_readNumber s m args below meth c H locs 0 0 (MQ below (qI D cI cZ cJ A o_r (wd_Reader_readNumber cI cZ cJ tq h0 h_inflow h_inflow_words h_skips h_ways h_samples h_line f_width f_height f_bitsRead f_rowsRead f_copyBefore f_ended o_f_refusal f_current f_currentIsCopy f_inflow_count o_f_inflow_next n_inflow_words g_inflow_words)) args s 0 0 A) (F0 m 47 ls [])) : ∀ (x1 : Int32) (x4 : Int32) (z0 : Int32) (f_refusal : Int32) (f_inflow_next : Int32) (H : Heap) (locs : List Loc) (ls : Array Slot), va_P D classes (wd_Reader_readNumber cI cZ cJ tq h0 h_inflow h_inflow_words h_skips h_ways h_samples h_line f_width f_height f_bitsRead f_rowsRead f_copyBefore f_ended f_refusal f_current f_currentIsCopy f_inflow_count f_inflow_next n_inflow_words g_inflow_words) H → va_D A (wd_Reader_readNumber cI cZ cJ tq h0 h_inflow h_inflow_words h_skips h_ways h_samples h_line f_width f_height f_bitsRead f_rowsRead f_copyBefore f_ended f_refusal f_current f_currentIsCopy f_inflow_count f_inflow_next n_inflow_words g_inflow_words) → va_S A s.heap H locs → lv_has ls 5 [(0, .ref h0), (1, .int x1), (4, .int x4)] → F_Reader_readNumber_79 k K47 f_inflow_count n_inflow_words g_inflow_words x1 x4 z0 f_refusal f_inflow_next = some (o_r, o_f_refusal, o_f_inflow_next) → W p l e RM_Reader_readNumber s m args below meth c H locs 0 0 (MQ below (qI D cI cZ cJ A o_r (wd_Reader_readNumber cI cZ cJ tq h0 h_inflow h_inflow_words h_skips h_ways h_samples h_line f_width f_height f_bitsRead f_rowsRead f_copyBefore f_ended o_f_refusal f_current f_currentIsCopy f_inflow_count o_f_inflow_next n_inflow_words g_inflow_words)) args s 0 0 A) (F0 m 79 ls [.int z0]) := by
  obtain ⟨hx, hb, hr, hml, hown, htw, hlocks, hK, hG⟩ := id C0
  intro x1 x4 z0 f_refusal f_inflow_next H locs ls hP hD hS hl hf
  unfold F_Reader_readNumber_79 at hf
  refine lv_istore_n (lv' := [(3, .int z0), (0, .ref h0), (1, .int x1), (4, .int x4)]) hx hb d_Reader_readNumber_79 rfl hl (by decide) rfl (fun ls hl => ?_)
  refine lv_iinc (v := (x4 + 1)) (lv' := [(4, .int (x4 + 1)), (3, .int z0), (0, .ref h0), (1, .int x1)]) hx hb d_Reader_readNumber_80 hl (k := 3) rfl rfl (by decide) rfl (fun ls hl => ?_)
  refine lv_goto (tgt := 47) hx hb d_Reader_readNumber_83 (by decide) ?_
  exact hK47 x1 z0 (x4 + 1) f_refusal f_inflow_next _ _ ls hP hD hS (lv_sub hl [2, 3, 1, 0] rfl) hf
set_option maxHeartbeats 4000000 in
set_option maxRecDepth 100000 in
theorem w_Reader_readNumber_47 {p : Program} {l : Launch} {e : Env} {s : State} {m : MethodId} {args : Array Value} {below : List Frame} {meth : Method} {c : Code} {D : va_G} {cI cZ cJ : ClassId} {tq : Nat → Nat} {A : Nat → Prop} (k : Nat) (h0 : Nat) (h_inflow : Nat) (h_inflow_words : Nat) (h_skips : Nat) (h_ways : Nat) (h_samples : Nat) (h_line : Nat) (f_width : Int32) (f_height : Int32) (f_bitsRead : Int32) (f_rowsRead : Int32) (f_copyBefore : Int32) (f_ended : Int32) (f_current : Int32) (f_currentIsCopy : Int32) (f_inflow_count : Int32) (n_inflow_words : Nat) (g_inflow_words : Nat → Int32) (o_r : Int32) (o_f_refusal : Int32) (o_f_inflow_next : Int32) (C0 : cx p s m meth c args b_Reader_readNumber (some .int) 5 R_Reader D cI cZ cJ tq A) (hA : ∀ q : Nat, s.heap.size ≤ q → A q) : ∀ n : Nat, ∀ (x1 : Int32) (x3 : Int32) (x4 : Int32) (f_refusal : Int32) (f_inflow_next : Int32) (H : Heap) (locs : List Loc) (ls : Array Slot), va_P D classes (wd_Reader_readNumber cI cZ cJ tq h0 h_inflow h_inflow_words h_skips h_ways h_samples h_line f_width f_height f_bitsRead f_rowsRead f_copyBefore f_ended f_refusal f_current f_currentIsCopy f_inflow_count f_inflow_next n_inflow_words g_inflow_words) H → va_D A (wd_Reader_readNumber cI cZ cJ tq h0 h_inflow h_inflow_words h_skips h_ways h_samples h_line f_width f_height f_bitsRead f_rowsRead f_copyBefore f_ended f_refusal f_current f_currentIsCopy f_inflow_count f_inflow_next n_inflow_words g_inflow_words) → va_S A s.heap H locs → lv_has ls 5 [(0, .ref h0), (1, .int x1), (3, .int x3), (4, .int x4)] → F_Reader_readNumber_47 k f_inflow_count n_inflow_words g_inflow_words n x1 x3 x4 f_refusal f_inflow_next = some (o_r, o_f_refusal, o_f_inflow_next) → W p l e RM_Reader_readNumber s m args below meth c H locs 0 0 (MQ below (qI D cI cZ cJ A o_r (wd_Reader_readNumber cI cZ cJ tq h0 h_inflow h_inflow_words h_skips h_ways h_samples h_line f_width f_height f_bitsRead f_rowsRead f_copyBefore f_ended o_f_refusal f_current f_currentIsCopy f_inflow_count o_f_inflow_next n_inflow_words g_inflow_words)) args s 0 0 A) (F0 m 47 ls []) := by
  obtain ⟨hx, hb, hr, hml, hown, htw, hlocks, hK, hG⟩ := id C0
  intro n
  induction n with
  | zero =>
    intro x1 x3 x4 f_refusal f_inflow_next H locs ls hP hD hS hl hf
    exact no_some hf
  | succ n ih =>
    intro x1 x3 x4 f_refusal f_inflow_next H locs ls hP hD hS hl hf
    rw [F_Reader_readNumber_47] at hf
    refine lv_iload hx hb d_Reader_readNumber_47 (lv_at hl 3 rfl) ?_
    refine lv_iload_n hx hb d_Reader_readNumber_49 rfl (lv_at hl 1 rfl) ?_
    refine lv_icmp_ge (tgt := 86) hx hb d_Reader_readNumber_50 (by decide) (fun c50 => ?_) (fun c50 => ?_)
    · have hf := it_t hf c50
      exact w_Reader_readNumber_86 k h0 h_inflow h_inflow_words h_skips h_ways h_samples h_line f_width f_height f_bitsRead f_rowsRead f_copyBefore f_ended f_current f_currentIsCopy f_inflow_count n_inflow_words g_inflow_words o_r o_f_refusal o_f_inflow_next C0 hA x3 f_refusal f_inflow_next _ _ ls hP hD hS (lv_sub hl [2] rfl) hf
    · have hf := it_f hf c50
      refine lv_iload_n hx hb d_Reader_readNumber_53 rfl (lv_at hl 2 rfl) ?_
      refine lv_if_le (tgt := 86) hx hb d_Reader_readNumber_54 (by decide) (fun c54 => ?_) (fun c54 => ?_)
      · have hf := it_t hf c54
        exact w_Reader_readNumber_86 k h0 h_inflow h_inflow_words h_skips h_ways h_samples h_line f_width f_height f_bitsRead f_rowsRead f_copyBefore f_ended f_current f_currentIsCopy f_inflow_count n_inflow_words g_inflow_words o_r o_f_refusal o_f_inflow_next C0 hA x3 f_refusal f_inflow_next _ _ ls hP hD hS (lv_sub hl [2] rfl) hf
      · have hf := it_f hf c54
        refine lv_aload_n hx hb d_Reader_readNumber_57 rfl (lv_at hl 0 rfl) ?_
        refine va_get (D := D) (ci := 5) (v := .ref h_inflow) (C := R_Reader) (T := F_Reader) (N := 14) hx hb htw i_Reader hown hK hP 0 rfl rfl 4 (by decide) (htw _ in74) (fun _ h9 => h9) rfl d_Reader_readNumber_58 ?_
        obtain ⟨r61, w61_f_next, e61, hf⟩ := bd2_some hf
        refine g_calli (wc := (wd_Inflow_take cI cZ cJ tq h_inflow h_inflow_words f_inflow_count f_inflow_next n_inflow_words g_inflow_words)) (w1 := (wd_Inflow_take cI cZ cJ tq h_inflow h_inflow_words f_inflow_count w61_f_next n_inflow_words g_inflow_words)) (ws' := (wd_Reader_readNumber cI cZ cJ tq h0 h_inflow h_inflow_words h_skips h_ways h_samples h_line f_width f_height f_bitsRead f_rowsRead f_copyBefore f_ended f_refusal f_current f_currentIsCopy f_inflow_count w61_f_next n_inflow_words g_inflow_words)) (va_runV (As := []) (rest := []) ⟨hx, hb, hml, hown, htw⟩ (c_Inflow_take l D cI cZ cJ tq h_inflow h_inflow_words _ f_inflow_count f_inflow_next n_inflow_words g_inflow_words r61 w61_f_next e61) (cwV 0 htw (gd_V in98 in99 in100 in101 in97) rfl rfl rfl (by decide +kernel) ⟨Nat.le_of_ble_eq_true rfl, Nat.le_of_ble_eq_true rfl⟩) (preV_of (ci := 2) (q0 := 1) hG hS (va_free (wc := (wd_Inflow_take cI cZ cJ tq h_inflow h_inflow_words f_inflow_count f_inflow_next n_inflow_words g_inflow_words)) hD hS hA [1, 2] rfl) hK hP rfl rfl (hP.sub (ws' := (wd_Inflow_take cI cZ cJ tq h_inflow h_inflow_words f_inflow_count f_inflow_next n_inflow_words g_inflow_words)) [1, 2] rfl) (hD.sub (ws' := (wd_Inflow_take cI cZ cJ tq h_inflow h_inflow_words f_inflow_count f_inflow_next n_inflow_words g_inflow_words)) [1, 2] (by decide) rfl)) rfl rfl hl.1 rfl (lv_room (Nat.le_of_ble_eq_true rfl)) d_Reader_readNumber_61 ⟨Nat.le_of_ble_eq_true rfl, Nat.le_of_ble_eq_true rfl⟩) hP hD hS hA [1, 2] [0] [0, 1, 2] rfl rfl (by decide) (by decide) (by decide) rfl (fun H locs hP hD hS => ?_)
        refine lv_istore_n (lv' := [(2, .int r61), (0, .ref h0), (1, .int x1), (3, .int x3), (4, .int x4)]) hx hb d_Reader_readNumber_64 rfl hl (by decide) rfl (fun ls hl => ?_)
        refine lv_iload_n hx hb d_Reader_readNumber_65 rfl (lv_at hl 0 rfl) ?_
        refine lv_iconst (v := (-1)) hx hb d_Reader_readNumber_66 (by decide) ?_
        refine lv_icmp_ne (tgt := 74) hx hb d_Reader_readNumber_67 (by decide) (fun c67 => ?_) (fun c67 => ?_)
        · have hf := it_f hf c67
          refine lv_iload_n hx hb d_Reader_readNumber_74 rfl (lv_at hl 3 rfl) ?_
          refine lv_iconst (v := 1) hx hb d_Reader_readNumber_75 (by decide) ?_
          refine lv_ishl hx hb d_Reader_readNumber_76 ?_
          refine lv_iload_n hx hb d_Reader_readNumber_77 rfl (lv_at hl 0 rfl) ?_
          refine lv_ior hx hb d_Reader_readNumber_78 ?_
          exact w_Reader_readNumber_79 k h0 h_inflow h_inflow_words h_skips h_ways h_samples h_line f_width f_height f_bitsRead f_rowsRead f_copyBefore f_ended f_current f_currentIsCopy f_inflow_count n_inflow_words g_inflow_words o_r o_f_refusal o_f_inflow_next C0 hA (F_Reader_readNumber_47 k f_inflow_count n_inflow_words g_inflow_words n) ih x1 x4 ((x3 <<< ((1 : Int32) &&& 31)) ||| r61) f_refusal w61_f_next _ _ ls hP hD hS (lv_sub hl [1, 2, 4] rfl) hf
        · have hf := it_t hf c67
          refine lv_iconst (v := (-1)) hx hb d_Reader_readNumber_70 (by decide) ?_
          refine lv_goto (tgt := 79) hx hb d_Reader_readNumber_71 (by decide) ?_
          exact w_Reader_readNumber_79 k h0 h_inflow h_inflow_words h_skips h_ways h_samples h_line f_width f_height f_bitsRead f_rowsRead f_copyBefore f_ended f_current f_currentIsCopy f_inflow_count n_inflow_words g_inflow_words o_r o_f_refusal o_f_inflow_next C0 hA (F_Reader_readNumber_47 k f_inflow_count n_inflow_words g_inflow_words n) ih x1 x4 (-1) f_refusal w61_f_next _ _ ls hP hD hS (lv_sub hl [1, 2, 4] rfl) hf
set_option maxHeartbeats 4000000 in
set_option maxRecDepth 100000 in
theorem w_Reader_readNumber_42 {p : Program} {l : Launch} {e : Env} {s : State} {m : MethodId} {args : Array Value} {below : List Frame} {meth : Method} {c : Code} {D : va_G} {cI cZ cJ : ClassId} {tq : Nat → Nat} {A : Nat → Prop} (k : Nat) (h0 : Nat) (h_inflow : Nat) (h_inflow_words : Nat) (h_skips : Nat) (h_ways : Nat) (h_samples : Nat) (h_line : Nat) (f_width : Int32) (f_height : Int32) (f_bitsRead : Int32) (f_rowsRead : Int32) (f_copyBefore : Int32) (f_ended : Int32) (f_current : Int32) (f_currentIsCopy : Int32) (f_inflow_count : Int32) (n_inflow_words : Nat) (g_inflow_words : Nat → Int32) (o_r : Int32) (o_f_refusal : Int32) (o_f_inflow_next : Int32) (C0 : cx p s m meth c args b_Reader_readNumber (some .int) 5 R_Reader D cI cZ cJ tq A) (hA : ∀ q : Nat, s.heap.size ≤ q → A q) : ∀ (x1 : Int32) (x2 : Int32) (f_refusal : Int32) (f_inflow_next : Int32) (H : Heap) (locs : List Loc) (ls : Array Slot), va_P D classes (wd_Reader_readNumber cI cZ cJ tq h0 h_inflow h_inflow_words h_skips h_ways h_samples h_line f_width f_height f_bitsRead f_rowsRead f_copyBefore f_ended f_refusal f_current f_currentIsCopy f_inflow_count f_inflow_next n_inflow_words g_inflow_words) H → va_D A (wd_Reader_readNumber cI cZ cJ tq h0 h_inflow h_inflow_words h_skips h_ways h_samples h_line f_width f_height f_bitsRead f_rowsRead f_copyBefore f_ended f_refusal f_current f_currentIsCopy f_inflow_count f_inflow_next n_inflow_words g_inflow_words) → va_S A s.heap H locs → lv_has ls 5 [(0, .ref h0), (1, .int x1), (2, .int x2)] → F_Reader_readNumber_42 k f_inflow_count n_inflow_words g_inflow_words x1 x2 f_refusal f_inflow_next = some (o_r, o_f_refusal, o_f_inflow_next) → W p l e RM_Reader_readNumber s m args below meth c H locs 0 0 (MQ below (qI D cI cZ cJ A o_r (wd_Reader_readNumber cI cZ cJ tq h0 h_inflow h_inflow_words h_skips h_ways h_samples h_line f_width f_height f_bitsRead f_rowsRead f_copyBefore f_ended o_f_refusal f_current f_currentIsCopy f_inflow_count o_f_inflow_next n_inflow_words g_inflow_words)) args s 0 0 A) (F0 m 42 ls []) := by
  obtain ⟨hx, hb, hr, hml, hown, htw, hlocks, hK, hG⟩ := id C0
  intro x1 x2 f_refusal f_inflow_next H locs ls hP hD hS hl hf
  unfold F_Reader_readNumber_42 at hf
  refine lv_iload_n hx hb d_Reader_readNumber_42 rfl (lv_at hl 2 rfl) ?_
  refine lv_istore_n (lv' := [(3, .int x2), (0, .ref h0), (1, .int x1), (2, .int x2)]) hx hb d_Reader_readNumber_43 rfl hl (by decide) rfl (fun ls hl => ?_)
  refine lv_iconst (v := 0) hx hb d_Reader_readNumber_44 (by decide) ?_
  refine lv_istore (lv' := [(4, .int 0), (3, .int x2), (0, .ref h0), (1, .int x1), (2, .int x2)]) hx hb d_Reader_readNumber_45 hl (by decide) rfl (fun ls hl => ?_)
  exact w_Reader_readNumber_47 k h0 h_inflow h_inflow_words h_skips h_ways h_samples h_line f_width f_height f_bitsRead f_rowsRead f_copyBefore f_ended f_current f_currentIsCopy f_inflow_count n_inflow_words g_inflow_words o_r o_f_refusal o_f_inflow_next C0 hA k x1 x2 0 f_refusal f_inflow_next _ _ ls hP hD hS (lv_sub hl [2, 3, 1, 0] rfl) hf
set_option maxHeartbeats 4000000 in
set_option maxRecDepth 100000 in
theorem w_Reader_readNumber_33 {p : Program} {l : Launch} {e : Env} {s : State} {m : MethodId} {args : Array Value} {below : List Frame} {meth : Method} {c : Code} {D : va_G} {cI cZ cJ : ClassId} {tq : Nat → Nat} {A : Nat → Prop} (k : Nat) (h0 : Nat) (h_inflow : Nat) (h_inflow_words : Nat) (h_skips : Nat) (h_ways : Nat) (h_samples : Nat) (h_line : Nat) (f_width : Int32) (f_height : Int32) (f_bitsRead : Int32) (f_rowsRead : Int32) (f_copyBefore : Int32) (f_ended : Int32) (f_current : Int32) (f_currentIsCopy : Int32) (f_inflow_count : Int32) (n_inflow_words : Nat) (g_inflow_words : Nat → Int32) (o_r : Int32) (o_f_refusal : Int32) (o_f_inflow_next : Int32) (C0 : cx p s m meth c args b_Reader_readNumber (some .int) 5 R_Reader D cI cZ cJ tq A) (hA : ∀ q : Nat, s.heap.size ≤ q → A q) : ∀ (x1 : Int32) (x2 : Int32) (f_refusal : Int32) (f_inflow_next : Int32) (H : Heap) (locs : List Loc) (ls : Array Slot), va_P D classes (wd_Reader_readNumber cI cZ cJ tq h0 h_inflow h_inflow_words h_skips h_ways h_samples h_line f_width f_height f_bitsRead f_rowsRead f_copyBefore f_ended f_refusal f_current f_currentIsCopy f_inflow_count f_inflow_next n_inflow_words g_inflow_words) H → va_D A (wd_Reader_readNumber cI cZ cJ tq h0 h_inflow h_inflow_words h_skips h_ways h_samples h_line f_width f_height f_bitsRead f_rowsRead f_copyBefore f_ended f_refusal f_current f_currentIsCopy f_inflow_count f_inflow_next n_inflow_words g_inflow_words) → va_S A s.heap H locs → lv_has ls 5 [(0, .ref h0), (1, .int x1), (2, .int x2)] → F_Reader_readNumber_33 k f_inflow_count n_inflow_words g_inflow_words x1 x2 f_refusal f_inflow_next = some (o_r, o_f_refusal, o_f_inflow_next) → W p l e RM_Reader_readNumber s m args below meth c H locs 0 0 (MQ below (qI D cI cZ cJ A o_r (wd_Reader_readNumber cI cZ cJ tq h0 h_inflow h_inflow_words h_skips h_ways h_samples h_line f_width f_height f_bitsRead f_rowsRead f_copyBefore f_ended o_f_refusal f_current f_currentIsCopy f_inflow_count o_f_inflow_next n_inflow_words g_inflow_words)) args s 0 0 A) (F0 m 33 ls []) := by
  obtain ⟨hx, hb, hr, hml, hown, htw, hlocks, hK, hG⟩ := id C0
  intro x1 x2 f_refusal f_inflow_next H locs ls hP hD hS hl hf
  unfold F_Reader_readNumber_33 at hf
  refine lv_iload_n hx hb d_Reader_readNumber_33 rfl (lv_at hl 2 rfl) ?_
  refine lv_if_ne (tgt := 42) hx hb d_Reader_readNumber_34 (by decide) (fun c34 => ?_) (fun c34 => ?_)
  · have hf := it_f hf c34
    exact w_Reader_readNumber_42 k h0 h_inflow h_inflow_words h_skips h_ways h_samples h_line f_width f_height f_bitsRead f_rowsRead f_copyBefore f_ended f_current f_currentIsCopy f_inflow_count n_inflow_words g_inflow_words o_r o_f_refusal o_f_inflow_next C0 hA x1 x2 f_refusal f_inflow_next _ _ ls hP hD hS (lv_sub hl [0, 1, 2] rfl) hf
  · have hf := it_t hf c34
    refine lv_aload_n hx hb d_Reader_readNumber_37 rfl (lv_at hl 0 rfl) ?_
    refine lv_iconst (v := 2) hx hb d_Reader_readNumber_38 (by decide) ?_
    refine va_put (D := D) (ci := 5) (v := .int 2) (ty := .int) (C := R_Reader) (T := F_Reader) (N := 14) hx hb htw i_Reader t_Reader t_Reader_ok n_Reader hown hK hP hD hS 0 rfl rfl 11 (by decide) (htw _ in69) (fun _ h9 => h9) rfl (by decide +kernel) rfl rfl (Nat.le_of_ble_eq_true rfl) d_Reader_readNumber_39 (fun H locs hP hD hS => ?_)
    have hP : va_P D classes (wd_Reader_readNumber cI cZ cJ tq h0 h_inflow h_inflow_words h_skips h_ways h_samples h_line f_width f_height f_bitsRead f_rowsRead f_copyBefore f_ended 2 f_current f_currentIsCopy f_inflow_count f_inflow_next n_inflow_words g_inflow_words) H := hP
    have hD : va_D A (wd_Reader_readNumber cI cZ cJ tq h0 h_inflow h_inflow_words h_skips h_ways h_samples h_line f_width f_height f_bitsRead f_rowsRead f_copyBefore f_ended 2 f_current f_currentIsCopy f_inflow_count f_inflow_next n_inflow_words g_inflow_words) := hD
    exact w_Reader_readNumber_42 k h0 h_inflow h_inflow_words h_skips h_ways h_samples h_line f_width f_height f_bitsRead f_rowsRead f_copyBefore f_ended f_current f_currentIsCopy f_inflow_count n_inflow_words g_inflow_words o_r o_f_refusal o_f_inflow_next C0 hA x1 x2 2 f_inflow_next _ _ ls hP hD hS (lv_sub hl [0, 1, 2] rfl) hf
set_option maxHeartbeats 4000000 in
set_option maxRecDepth 100000 in
theorem w_Reader_readNumber_10 {p : Program} {l : Launch} {e : Env} {s : State} {m : MethodId} {args : Array Value} {below : List Frame} {meth : Method} {c : Code} {D : va_G} {cI cZ cJ : ClassId} {tq : Nat → Nat} {A : Nat → Prop} (k : Nat) (h0 : Nat) (h_inflow : Nat) (h_inflow_words : Nat) (h_skips : Nat) (h_ways : Nat) (h_samples : Nat) (h_line : Nat) (f_width : Int32) (f_height : Int32) (f_bitsRead : Int32) (f_rowsRead : Int32) (f_copyBefore : Int32) (f_ended : Int32) (f_current : Int32) (f_currentIsCopy : Int32) (f_inflow_count : Int32) (n_inflow_words : Nat) (g_inflow_words : Nat → Int32) (o_r : Int32) (o_f_refusal : Int32) (o_f_inflow_next : Int32) (C0 : cx p s m meth c args b_Reader_readNumber (some .int) 5 R_Reader D cI cZ cJ tq A) (hA : ∀ q : Nat, s.heap.size ≤ q → A q) : ∀ n : Nat, ∀ (x1 : Int32) (x2 : Int32) (f_refusal : Int32) (f_inflow_next : Int32) (H : Heap) (locs : List Loc) (ls : Array Slot), va_P D classes (wd_Reader_readNumber cI cZ cJ tq h0 h_inflow h_inflow_words h_skips h_ways h_samples h_line f_width f_height f_bitsRead f_rowsRead f_copyBefore f_ended f_refusal f_current f_currentIsCopy f_inflow_count f_inflow_next n_inflow_words g_inflow_words) H → va_D A (wd_Reader_readNumber cI cZ cJ tq h0 h_inflow h_inflow_words h_skips h_ways h_samples h_line f_width f_height f_bitsRead f_rowsRead f_copyBefore f_ended f_refusal f_current f_currentIsCopy f_inflow_count f_inflow_next n_inflow_words g_inflow_words) → va_S A s.heap H locs → lv_has ls 5 [(0, .ref h0), (1, .int x1), (2, .int x2)] → F_Reader_readNumber_10 k f_inflow_count n_inflow_words g_inflow_words n x1 x2 f_refusal f_inflow_next = some (o_r, o_f_refusal, o_f_inflow_next) → W p l e RM_Reader_readNumber s m args below meth c H locs 0 0 (MQ below (qI D cI cZ cJ A o_r (wd_Reader_readNumber cI cZ cJ tq h0 h_inflow h_inflow_words h_skips h_ways h_samples h_line f_width f_height f_bitsRead f_rowsRead f_copyBefore f_ended o_f_refusal f_current f_currentIsCopy f_inflow_count o_f_inflow_next n_inflow_words g_inflow_words)) args s 0 0 A) (F0 m 10 ls []) := by
  obtain ⟨hx, hb, hr, hml, hown, htw, hlocks, hK, hG⟩ := id C0
  intro n
  induction n with
  | zero =>
    intro x1 x2 f_refusal f_inflow_next H locs ls hP hD hS hl hf
    exact no_some hf
  | succ n ih =>
    intro x1 x2 f_refusal f_inflow_next H locs ls hP hD hS hl hf
    rw [F_Reader_readNumber_10] at hf
    refine lv_iload_n hx hb d_Reader_readNumber_10 rfl (lv_at hl 2 rfl) ?_
    refine lv_if_ne (tgt := 33) hx hb d_Reader_readNumber_11 (by decide) (fun c11 => ?_) (fun c11 => ?_)
    · have hf := it_f hf c11
      exact w_Reader_readNumber_33 k h0 h_inflow h_inflow_words h_skips h_ways h_samples h_line f_width f_height f_bitsRead f_rowsRead f_copyBefore f_ended f_current f_currentIsCopy f_inflow_count n_inflow_words g_inflow_words o_r o_f_refusal o_f_inflow_next C0 hA x1 x2 f_refusal f_inflow_next _ _ ls hP hD hS (lv_sub hl [0, 1, 2] rfl) hf
    · have hf := it_t hf c11
      refine lv_iload_n hx hb d_Reader_readNumber_14 rfl (lv_at hl 1 rfl) ?_
      refine lv_iconst (v := 4) hx hb d_Reader_readNumber_15 (by decide) ?_
      refine lv_icmp_ge (tgt := 33) hx hb d_Reader_readNumber_16 (by decide) (fun c16 => ?_) (fun c16 => ?_)
      · have hf := it_t hf c16
        exact w_Reader_readNumber_33 k h0 h_inflow h_inflow_words h_skips h_ways h_samples h_line f_width f_height f_bitsRead f_rowsRead f_copyBefore f_ended f_current f_currentIsCopy f_inflow_count n_inflow_words g_inflow_words o_r o_f_refusal o_f_inflow_next C0 hA x1 x2 f_refusal f_inflow_next _ _ ls hP hD hS (lv_sub hl [0, 1, 2] rfl) hf
      · have hf := it_f hf c16
        refine lv_iinc (v := (x1 + 1)) (lv' := [(1, .int (x1 + 1)), (0, .ref h0), (2, .int x2)]) hx hb d_Reader_readNumber_19 hl (k := 1) rfl rfl (by decide) rfl (fun ls hl => ?_)
        refine lv_aload_n hx hb d_Reader_readNumber_22 rfl (lv_at hl 1 rfl) ?_
        refine va_get (D := D) (ci := 5) (v := .ref h_inflow) (C := R_Reader) (T := F_Reader) (N := 14) hx hb htw i_Reader hown hK hP 0 rfl rfl 4 (by decide) (htw _ in74) (fun _ h9 => h9) rfl d_Reader_readNumber_23 ?_
        obtain ⟨r26, w26_f_next, e26, hf⟩ := bd2_some hf
        refine g_calli (wc := (wd_Inflow_take cI cZ cJ tq h_inflow h_inflow_words f_inflow_count f_inflow_next n_inflow_words g_inflow_words)) (w1 := (wd_Inflow_take cI cZ cJ tq h_inflow h_inflow_words f_inflow_count w26_f_next n_inflow_words g_inflow_words)) (ws' := (wd_Reader_readNumber cI cZ cJ tq h0 h_inflow h_inflow_words h_skips h_ways h_samples h_line f_width f_height f_bitsRead f_rowsRead f_copyBefore f_ended f_refusal f_current f_currentIsCopy f_inflow_count w26_f_next n_inflow_words g_inflow_words)) (va_runV (As := []) (rest := []) ⟨hx, hb, hml, hown, htw⟩ (c_Inflow_take l D cI cZ cJ tq h_inflow h_inflow_words _ f_inflow_count f_inflow_next n_inflow_words g_inflow_words r26 w26_f_next e26) (cwV 0 htw (gd_V in98 in99 in100 in101 in97) rfl rfl rfl (by decide +kernel) ⟨Nat.le_of_ble_eq_true rfl, Nat.le_of_ble_eq_true rfl⟩) (preV_of (ci := 2) (q0 := 1) hG hS (va_free (wc := (wd_Inflow_take cI cZ cJ tq h_inflow h_inflow_words f_inflow_count f_inflow_next n_inflow_words g_inflow_words)) hD hS hA [1, 2] rfl) hK hP rfl rfl (hP.sub (ws' := (wd_Inflow_take cI cZ cJ tq h_inflow h_inflow_words f_inflow_count f_inflow_next n_inflow_words g_inflow_words)) [1, 2] rfl) (hD.sub (ws' := (wd_Inflow_take cI cZ cJ tq h_inflow h_inflow_words f_inflow_count f_inflow_next n_inflow_words g_inflow_words)) [1, 2] (by decide) rfl)) rfl rfl hl.1 rfl (lv_room (Nat.le_of_ble_eq_true rfl)) d_Reader_readNumber_26 ⟨Nat.le_of_ble_eq_true rfl, Nat.le_of_ble_eq_true rfl⟩) hP hD hS hA [1, 2] [0] [0, 1, 2] rfl rfl (by decide) (by decide) (by decide) rfl (fun H locs hP hD hS => ?_)
        refine lv_istore_n (lv' := [(2, .int r26), (1, .int (x1 + 1)), (0, .ref h0)]) hx hb d_Reader_readNumber_29 rfl hl (by decide) rfl (fun ls hl => ?_)
        refine lv_goto (tgt := 10) hx hb d_Reader_readNumber_30 (by decide) ?_
        exact ih (x1 + 1) r26 f_refusal w26_f_next _ _ ls hP hD hS (lv_sub hl [2, 1, 0] rfl) hf
set_option maxHeartbeats 4000000 in
set_option maxRecDepth 100000 in
theorem c_Reader_readNumber (l : Launch) (D : va_G) (cI cZ cJ : ClassId) (tq : Nat → Nat) (k : Nat) (h0 : Nat) (h_inflow : Nat) (h_inflow_words : Nat) (h_skips : Nat) (h_ways : Nat) (h_samples : Nat) (h_line : Nat) (sz : Nat) (f_width : Int32) (f_height : Int32) (f_bitsRead : Int32) (f_rowsRead : Int32) (f_copyBefore : Int32) (f_ended : Int32) (f_refusal : Int32) (f_current : Int32) (f_currentIsCopy : Int32) (f_inflow_count : Int32) (f_inflow_next : Int32) (n_inflow_words : Nat) (g_inflow_words : Nat → Int32) (o_r : Int32) (o_f_refusal : Int32) (o_f_inflow_next : Int32) (hf : F_Reader_readNumber k f_refusal f_inflow_count f_inflow_next n_inflow_words g_inflow_words = some (o_r, o_f_refusal, o_f_inflow_next)) : Met l y_Reader_readNumber ws_Reader_readNumber RM_Reader_readNumber (va_Pc [.ref h0] (Pg D cI cZ cJ tq (wd_Reader_readNumber cI cZ cJ tq h0 h_inflow h_inflow_words h_skips h_ways h_samples h_line f_width f_height f_bitsRead f_rowsRead f_copyBefore f_ended f_refusal f_current f_currentIsCopy f_inflow_count f_inflow_next n_inflow_words g_inflow_words) sz)) (qI D cI cZ cJ (va_A (wd_Reader_readNumber cI cZ cJ tq h0 h_inflow h_inflow_words h_skips h_ways h_samples h_line f_width f_height f_bitsRead f_rowsRead f_copyBefore f_ended f_refusal f_current f_currentIsCopy f_inflow_count f_inflow_next n_inflow_words g_inflow_words) sz) o_r (wd_Reader_readNumber cI cZ cJ tq h0 h_inflow h_inflow_words h_skips h_ways h_samples h_line f_width f_height f_bitsRead f_rowsRead f_copyBefore f_ended o_f_refusal f_current f_currentIsCopy f_inflow_count o_f_inflow_next n_inflow_words g_inflow_words)) 0 0 (va_A (wd_Reader_readNumber cI cZ cJ tq h0 h_inflow h_inflow_words h_skips h_ways h_samples h_line f_width f_height f_bitsRead f_rowsRead f_copyBefore f_ended f_refusal f_current f_currentIsCopy f_inflow_count f_inflow_next n_inflow_words g_inflow_words) sz) := by
  refine Met.ofW (cc := b_Reader_readNumber) (maxL := 5) (ret := (some .int)) (by decide) rfl ?_
  intro p e s m args below meth c s₁ B hml hv
  obtain ⟨rfl, hsz, hP, hK, hD0, hG⟩ := hv
  have hx := B.exec
  have hb := B.bytes
  have hr := B.returns
  have htw : ∀ w ∈ W_all, w.before [.ref h0].toArray s = true := fun w h => atoms_spec (ws := ws_Reader_readNumber) B.pre w (List.mem_cons_of_mem _ h)
  have hown : s.vm.findClass R_Reader = some m.cls := findClass_of_methodNamed B.named
  have hlocks := B.notSynchronized
  subst hsz
  have hD := hD0.self (sz := s.heap.size)
  generalize hAe : va_A (wd_Reader_readNumber cI cZ cJ tq h0 h_inflow h_inflow_words h_skips h_ways h_samples h_line f_width f_height f_bitsRead f_rowsRead f_copyBefore f_ended f_refusal f_current f_currentIsCopy f_inflow_count f_inflow_next n_inflow_words g_inflow_words) s.heap.size = A at hD hG ⊢
  have hA : ∀ q : Nat, s.heap.size ≤ q → A q := fun q h => by rw [← hAe]; exact Or.inr h
  have hS : va_S A s.heap s.heap [] := va_S.rf
  have C0 : cx p s m meth c [.ref h0].toArray b_Reader_readNumber (some .int) 5 R_Reader D cI cZ cJ tq A := ⟨hx, hb, hr, hml, hown, htw, hlocks, hK, hG⟩
  have hl := lv_entry ([.ref h0]) (n := 5) (Nat.le_of_ble_eq_true rfl)
  rw [lg_entry_eq]
  generalize (lg_sl ([.ref h0]) ++ List.replicate (5 - (lg_sl ([.ref h0])).length) Slot.unset).toArray = ls at hl ⊢
  have hl : lv_has ls 5 [(0, .ref h0)] := hl
  have hP : va_P D classes (wd_Reader_readNumber cI cZ cJ tq h0 h_inflow h_inflow_words h_skips h_ways h_samples h_line f_width f_height f_bitsRead f_rowsRead f_copyBefore f_ended f_refusal f_current f_currentIsCopy f_inflow_count f_inflow_next n_inflow_words g_inflow_words) s.heap := hP
  clear hAe
  unfold F_Reader_readNumber at hf
  refine lv_iconst (v := 0) hx hb d_Reader_readNumber_0 (by decide) ?_
  refine lv_istore_n (lv' := [(1, .int 0), (0, .ref h0)]) hx hb d_Reader_readNumber_1 rfl hl (by decide) rfl (fun ls hl => ?_)
  refine lv_aload_n hx hb d_Reader_readNumber_2 rfl (lv_at hl 1 rfl) ?_
  refine va_get (D := D) (ci := 5) (v := .ref h_inflow) (C := R_Reader) (T := F_Reader) (N := 14) hx hb htw i_Reader hown hK hP 0 rfl rfl 4 (by decide) (htw _ in74) (fun _ h9 => h9) rfl d_Reader_readNumber_3 ?_
  obtain ⟨r6, w6_f_next, e6, hf⟩ := bd2_some hf
  refine g_calli (wc := (wd_Inflow_take cI cZ cJ tq h_inflow h_inflow_words f_inflow_count f_inflow_next n_inflow_words g_inflow_words)) (w1 := (wd_Inflow_take cI cZ cJ tq h_inflow h_inflow_words f_inflow_count w6_f_next n_inflow_words g_inflow_words)) (ws' := (wd_Reader_readNumber cI cZ cJ tq h0 h_inflow h_inflow_words h_skips h_ways h_samples h_line f_width f_height f_bitsRead f_rowsRead f_copyBefore f_ended f_refusal f_current f_currentIsCopy f_inflow_count w6_f_next n_inflow_words g_inflow_words)) (va_runV (As := []) (rest := []) ⟨hx, hb, hml, hown, htw⟩ (c_Inflow_take l D cI cZ cJ tq h_inflow h_inflow_words _ f_inflow_count f_inflow_next n_inflow_words g_inflow_words r6 w6_f_next e6) (cwV 0 htw (gd_V in98 in99 in100 in101 in97) rfl rfl rfl (by decide +kernel) ⟨Nat.le_of_ble_eq_true rfl, Nat.le_of_ble_eq_true rfl⟩) (preV_of (ci := 2) (q0 := 1) hG hS (va_free (wc := (wd_Inflow_take cI cZ cJ tq h_inflow h_inflow_words f_inflow_count f_inflow_next n_inflow_words g_inflow_words)) hD hS hA [1, 2] rfl) hK hP rfl rfl (hP.sub (ws' := (wd_Inflow_take cI cZ cJ tq h_inflow h_inflow_words f_inflow_count f_inflow_next n_inflow_words g_inflow_words)) [1, 2] rfl) (hD.sub (ws' := (wd_Inflow_take cI cZ cJ tq h_inflow h_inflow_words f_inflow_count f_inflow_next n_inflow_words g_inflow_words)) [1, 2] (by decide) rfl)) rfl rfl hl.1 rfl (lv_room (Nat.le_of_ble_eq_true rfl)) d_Reader_readNumber_6 ⟨Nat.le_of_ble_eq_true rfl, Nat.le_of_ble_eq_true rfl⟩) hP hD hS hA [1, 2] [0] [0, 1, 2] rfl rfl (by decide) (by decide) (by decide) rfl (fun H locs hP hD hS => ?_)
  refine lv_istore_n (lv' := [(2, .int r6), (1, .int 0), (0, .ref h0)]) hx hb d_Reader_readNumber_9 rfl hl (by decide) rfl (fun ls hl => ?_)
  exact w_Reader_readNumber_10 k h0 h_inflow h_inflow_words h_skips h_ways h_samples h_line f_width f_height f_bitsRead f_rowsRead f_copyBefore f_ended f_current f_currentIsCopy f_inflow_count n_inflow_words g_inflow_words o_r o_f_refusal o_f_inflow_next C0 hA k 0 r6 f_refusal w6_f_next _ _ ls hP hD hS (lv_sub hl [2, 1, 0] rfl) hf
-- Reader_paint
abbrev RM_Reader_paint : Room := { frames := 1, cells := 0, slots := 0, locals := 24 }
def ws_Reader_paint : List Cond := .code y_Reader_paint b_Reader_paint 5 none :: W_all
def wd_Reader_paint (cI cZ cJ : ClassId) (tq : Nat → Nat) (h0 : Nat) (h_skips : Nat) (h_ways : Nat) (h_inflow : Nat) (h_samples : Nat) (h_line : Nat) (f_width : Int32) (f_height : Int32) (f_bitsRead : Int32) (f_rowsRead : Int32) (f_copyBefore : Int32) (f_ended : Int32) (f_refusal : Int32) (f_current : Int32) (f_currentIsCopy : Int32) : va_W := [(h0, .inr (5, [.int f_width, .int f_height, .ref h_skips, .ref h_ways, .ref h_inflow, .ref h_samples, .ref h_line, .int f_bitsRead, .int f_rowsRead, .int f_copyBefore, .int f_ended, .int f_refusal, .int f_current, .int f_currentIsCopy]))]
def F_Reader_paint_7 (k : Nat) : Nat → Int32 → Int32 → Int32 → Int32 → Option (Int32)
  | 0, _, _, _, _ => none
  | n + 1, x2, x3, x4, f_current =>
    (if x2 ≤ x4 then (some f_current) else (if x3 = 0 then (some f_current) else (F_Reader_paint_7 k n x2 x3 (x4 + 1) (f_current ||| ((1 : Int32) <<< (x4 &&& 31))))))
def F_Reader_paint (k : Nat) (x1 : Int32) (x2 : Int32) (x3 : Int32) (f_current : Int32) : Option (Int32) :=
  (F_Reader_paint_7 k k x2 x3 (maI x1 0) f_current)
set_option maxHeartbeats 4000000 in
set_option maxRecDepth 100000 in
theorem w_Reader_paint_7 {p : Program} {l : Launch} {e : Env} {s : State} {m : MethodId} {args : Array Value} {below : List Frame} {meth : Method} {c : Code} {D : va_G} {cI cZ cJ : ClassId} {tq : Nat → Nat} {A : Nat → Prop} (k : Nat) (h0 : Nat) (h_skips : Nat) (h_ways : Nat) (h_inflow : Nat) (h_samples : Nat) (h_line : Nat) (f_width : Int32) (f_height : Int32) (f_bitsRead : Int32) (f_rowsRead : Int32) (f_copyBefore : Int32) (f_ended : Int32) (f_refusal : Int32) (f_currentIsCopy : Int32) (o_f_current : Int32) (C0 : cx p s m meth c args b_Reader_paint none 5 R_Reader D cI cZ cJ tq A) (hA : ∀ q : Nat, s.heap.size ≤ q → A q) : ∀ n : Nat, ∀ (x2 : Int32) (x3 : Int32) (x4 : Int32) (f_current : Int32) (H : Heap) (locs : List Loc) (ls : Array Slot), va_P D classes (wd_Reader_paint cI cZ cJ tq h0 h_skips h_ways h_inflow h_samples h_line f_width f_height f_bitsRead f_rowsRead f_copyBefore f_ended f_refusal f_current f_currentIsCopy) H → va_D A (wd_Reader_paint cI cZ cJ tq h0 h_skips h_ways h_inflow h_samples h_line f_width f_height f_bitsRead f_rowsRead f_copyBefore f_ended f_refusal f_current f_currentIsCopy) → va_S A s.heap H locs → lv_has ls 5 [(0, .ref h0), (2, .int x2), (3, .int x3), (4, .int x4)] → F_Reader_paint_7 k n x2 x3 x4 f_current = some o_f_current → W p l e RM_Reader_paint s m args below meth c H locs 0 0 (MQ below (qV D cI cZ cJ A (wd_Reader_paint cI cZ cJ tq h0 h_skips h_ways h_inflow h_samples h_line f_width f_height f_bitsRead f_rowsRead f_copyBefore f_ended f_refusal o_f_current f_currentIsCopy)) args s 0 0 A) (F0 m 7 ls []) := by
  obtain ⟨hx, hb, hr, hml, hown, htw, hlocks, hK, hG⟩ := id C0
  intro n
  induction n with
  | zero =>
    intro x2 x3 x4 f_current H locs ls hP hD hS hl hf
    exact no_some hf
  | succ n ih =>
    intro x2 x3 x4 f_current H locs ls hP hD hS hl hf
    rw [F_Reader_paint_7] at hf
    refine lv_iload hx hb d_Reader_paint_7 (lv_at hl 3 rfl) ?_
    refine lv_iload_n hx hb d_Reader_paint_9 rfl (lv_at hl 1 rfl) ?_
    refine lv_icmp_ge (tgt := 36) hx hb d_Reader_paint_10 (by decide) (fun c10 => ?_) (fun c10 => ?_)
    · have hf := it_t hf c10
      have e0 := Option.some.inj hf
      subst e0
      exact W.vret hx hb hr (fun t ht hW => ⟨⟨(), rfl, trivial, by rw [ht]; exact hP, va_K.moved hW.alike hK, hD⟩, hS.F ht⟩) hS.2.2 d_Reader_paint_36 hlocks
    · have hf := it_f hf c10
      refine lv_iload_n hx hb d_Reader_paint_13 rfl (lv_at hl 2 rfl) ?_
      refine lv_if_eq (tgt := 36) hx hb d_Reader_paint_14 (by decide) (fun c14 => ?_) (fun c14 => ?_)
      · have hf := it_t hf c14
        have e0 := Option.some.inj hf
        subst e0
        exact W.vret hx hb hr (fun t ht hW => ⟨⟨(), rfl, trivial, by rw [ht]; exact hP, va_K.moved hW.alike hK, hD⟩, hS.F ht⟩) hS.2.2 d_Reader_paint_36 hlocks
      · have hf := it_f hf c14
        refine lv_aload_n hx hb d_Reader_paint_17 rfl (lv_at hl 0 rfl) ?_
        refine lv_dup hx hb d_Reader_paint_18 rfl ?_
        refine va_get (D := D) (ci := 5) (v := .int f_current) (C := R_Reader) (T := F_Reader) (N := 14) hx hb htw i_Reader hown hK hP 0 rfl rfl 12 (by decide) (htw _ in110) (fun _ h9 => h9) rfl d_Reader_paint_19 ?_
        refine lv_iconst (v := 1) hx hb d_Reader_paint_22 (by decide) ?_
        refine lv_iload hx hb d_Reader_paint_23 (lv_at hl 3 rfl) ?_
        refine lv_ishl hx hb d_Reader_paint_25 ?_
        refine lv_ior hx hb d_Reader_paint_26 ?_
        refine va_put (D := D) (ci := 5) (v := .int (f_current ||| ((1 : Int32) <<< (x4 &&& 31)))) (ty := .int) (C := R_Reader) (T := F_Reader) (N := 14) hx hb htw i_Reader t_Reader t_Reader_ok n_Reader hown hK hP hD hS 0 rfl rfl 12 (by decide) (htw _ in110) (fun _ h9 => h9) rfl (by decide +kernel) rfl rfl (Nat.le_of_ble_eq_true rfl) d_Reader_paint_27 (fun H locs hP hD hS => ?_)
        have hP : va_P D classes (wd_Reader_paint cI cZ cJ tq h0 h_skips h_ways h_inflow h_samples h_line f_width f_height f_bitsRead f_rowsRead f_copyBefore f_ended f_refusal (f_current ||| ((1 : Int32) <<< (x4 &&& 31))) f_currentIsCopy) H := hP
        have hD : va_D A (wd_Reader_paint cI cZ cJ tq h0 h_skips h_ways h_inflow h_samples h_line f_width f_height f_bitsRead f_rowsRead f_copyBefore f_ended f_refusal (f_current ||| ((1 : Int32) <<< (x4 &&& 31))) f_currentIsCopy) := hD
        refine lv_iinc (v := (x4 + 1)) (lv' := [(4, .int (x4 + 1)), (0, .ref h0), (2, .int x2), (3, .int x3)]) hx hb d_Reader_paint_30 hl (k := 3) rfl rfl (by decide) rfl (fun ls hl => ?_)
        refine lv_goto (tgt := 7) hx hb d_Reader_paint_33 (by decide) ?_
        exact ih x2 x3 (x4 + 1) (f_current ||| ((1 : Int32) <<< (x4 &&& 31))) _ _ ls hP hD hS (lv_sub hl [1, 2, 3, 0] rfl) hf
set_option maxHeartbeats 4000000 in
set_option maxRecDepth 100000 in
theorem c_Reader_paint (l : Launch) (D : va_G) (cI cZ cJ : ClassId) (tq : Nat → Nat) (k : Nat) (h0 : Nat) (h_skips : Nat) (h_ways : Nat) (h_inflow : Nat) (h_samples : Nat) (h_line : Nat) (sz : Nat) (f_width : Int32) (f_height : Int32) (f_bitsRead : Int32) (f_rowsRead : Int32) (f_copyBefore : Int32) (f_ended : Int32) (f_refusal : Int32) (f_current : Int32) (f_currentIsCopy : Int32) (x1 : Int32) (x2 : Int32) (x3 : Int32) (o_f_current : Int32) (hf : F_Reader_paint k x1 x2 x3 f_current = some o_f_current) : Met l y_Reader_paint ws_Reader_paint RM_Reader_paint (va_Pc [.ref h0, .int x1, .int x2, .int x3] (Pg D cI cZ cJ tq (wd_Reader_paint cI cZ cJ tq h0 h_skips h_ways h_inflow h_samples h_line f_width f_height f_bitsRead f_rowsRead f_copyBefore f_ended f_refusal f_current f_currentIsCopy) sz)) (qV D cI cZ cJ (va_A (wd_Reader_paint cI cZ cJ tq h0 h_skips h_ways h_inflow h_samples h_line f_width f_height f_bitsRead f_rowsRead f_copyBefore f_ended f_refusal f_current f_currentIsCopy) sz) (wd_Reader_paint cI cZ cJ tq h0 h_skips h_ways h_inflow h_samples h_line f_width f_height f_bitsRead f_rowsRead f_copyBefore f_ended f_refusal o_f_current f_currentIsCopy)) 0 0 (va_A (wd_Reader_paint cI cZ cJ tq h0 h_skips h_ways h_inflow h_samples h_line f_width f_height f_bitsRead f_rowsRead f_copyBefore f_ended f_refusal f_current f_currentIsCopy) sz) := by
  refine Met.ofW (cc := b_Reader_paint) (maxL := 5) (ret := none) (by decide) rfl ?_
  intro p e s m args below meth c s₁ B hml hv
  obtain ⟨rfl, hsz, hP, hK, hD0, hG⟩ := hv
  have hx := B.exec
  have hb := B.bytes
  have hr := B.returns
  have htw : ∀ w ∈ W_all, w.before [.ref h0, .int x1, .int x2, .int x3].toArray s = true := fun w h => atoms_spec (ws := ws_Reader_paint) B.pre w (List.mem_cons_of_mem _ h)
  have hown : s.vm.findClass R_Reader = some m.cls := findClass_of_methodNamed B.named
  have hlocks := B.notSynchronized
  subst hsz
  have hD := hD0.self (sz := s.heap.size)
  generalize hAe : va_A (wd_Reader_paint cI cZ cJ tq h0 h_skips h_ways h_inflow h_samples h_line f_width f_height f_bitsRead f_rowsRead f_copyBefore f_ended f_refusal f_current f_currentIsCopy) s.heap.size = A at hD hG ⊢
  have hA : ∀ q : Nat, s.heap.size ≤ q → A q := fun q h => by rw [← hAe]; exact Or.inr h
  have hS : va_S A s.heap s.heap [] := va_S.rf
  have C0 : cx p s m meth c [.ref h0, .int x1, .int x2, .int x3].toArray b_Reader_paint none 5 R_Reader D cI cZ cJ tq A := ⟨hx, hb, hr, hml, hown, htw, hlocks, hK, hG⟩
  have hl := lv_entry ([.ref h0, .int x1, .int x2, .int x3]) (n := 5) (Nat.le_of_ble_eq_true rfl)
  rw [lg_entry_eq]
  generalize (lg_sl ([.ref h0, .int x1, .int x2, .int x3]) ++ List.replicate (5 - (lg_sl ([.ref h0, .int x1, .int x2, .int x3])).length) Slot.unset).toArray = ls at hl ⊢
  have hl : lv_has ls 5 [(0, .ref h0), (1, .int x1), (2, .int x2), (3, .int x3)] := hl
  have hP : va_P D classes (wd_Reader_paint cI cZ cJ tq h0 h_skips h_ways h_inflow h_samples h_line f_width f_height f_bitsRead f_rowsRead f_copyBefore f_ended f_refusal f_current f_currentIsCopy) s.heap := hP
  clear hAe
  unfold F_Reader_paint at hf
  refine lv_iload_n hx hb d_Reader_paint_0 rfl (lv_at hl 1 rfl) ?_
  refine lv_iconst (v := 0) hx hb d_Reader_paint_1 (by decide) ?_
  refine va_mmax hx hb (hml.trans hl.1.symm) hown (htw _ in126) (htw _ in60) (htw _ in61) (htw _ in62) (Nat.le_of_ble_eq_true rfl) (Nat.le_of_ble_eq_true rfl) (Nat.le_of_ble_eq_true rfl) (Nat.le_of_ble_eq_true rfl) d_Reader_paint_2 ?_
  refine lv_istore (lv' := [(4, .int (maI x1 0)), (0, .ref h0), (1, .int x1), (2, .int x2), (3, .int x3)]) hx hb d_Reader_paint_5 hl (by decide) rfl (fun ls hl => ?_)
  exact w_Reader_paint_7 k h0 h_skips h_ways h_inflow h_samples h_line f_width f_height f_bitsRead f_rowsRead f_copyBefore f_ended f_refusal f_currentIsCopy o_f_current C0 hA k x2 x3 (maI x1 0) f_current _ _ ls hP hD hS (lv_sub hl [1, 3, 4, 0] rfl) hf
-- Reader_readRuns
abbrev RM_Reader_readRuns : Room := { frames := 2, cells := 0, slots := 0, locals := 48 }
def ws_Reader_readRuns : List Cond := .code y_Reader_readRuns b_Reader_readRuns 6 (some .boolean) :: W_all
def wd_Reader_readRuns (cI cZ cJ : ClassId) (tq : Nat → Nat) (h0 : Nat) (h_inflow : Nat) (h_inflow_words : Nat) (h_line : Nat) (h_skips : Nat) (h_ways : Nat) (h_samples : Nat) (f_width : Int32) (f_height : Int32) (f_bitsRead : Int32) (f_rowsRead : Int32) (f_copyBefore : Int32) (f_ended : Int32) (f_refusal : Int32) (f_current : Int32) (f_currentIsCopy : Int32) (f_inflow_count : Int32) (f_inflow_next : Int32) (n_inflow_words : Nat) (g_inflow_words : Nat → Int32) (f_line_width : Int32) (f_line_above : Int32) (f_line_place : Int32) (f_line_black : Int32) : va_W := [(h0, .inr (5, [.int f_width, .int f_height, .ref h_skips, .ref h_ways, .ref h_inflow, .ref h_samples, .ref h_line, .int f_bitsRead, .int f_rowsRead, .int f_copyBefore, .int f_ended, .int f_refusal, .int f_current, .int f_currentIsCopy])), (h_inflow, .inr (2, [.ref h_inflow_words, .int f_inflow_count, .int f_inflow_next])), (h_inflow_words, .inl (cI, n_inflow_words, .inl g_inflow_words)), (h_line, .inr (1, [.int f_line_width, .int f_line_above, .int f_line_place, .int f_line_black]))]
def F_Reader_readRuns_111 (k : Nat) (f_width : Int32) (f_inflow_count : Int32) (n_inflow_words : Nat) (g_inflow_words : Nat → Int32) (f_line_black : Int32) (x5 : Int32) (z0 : Int32) (z1 : Int32) (z2 : Int32) (f_refusal : Int32) (f_current : Int32) (f_inflow_next : Int32) (f_line_place : Int32) : Option (Int32 × Int32 × Int32 × Int32 × Int32) :=
  (bd1 (F_Reader_paint k z2 z1 z0 f_current) (fun w111_f_current => (bd1 (F_FaxLine_goTo x5 f_line_place) (fun w120_f_place => (some (1, f_refusal, w111_f_current, f_inflow_next, w120_f_place))))))
def F_Reader_readRuns_18 (k : Nat) (f_width : Int32) (f_inflow_count : Int32) (n_inflow_words : Nat) (g_inflow_words : Nat → Int32) (f_line_black : Int32) (x1 : Int32) (z0 : Int32) (f_refusal : Int32) (f_current : Int32) (f_inflow_next : Int32) (f_line_place : Int32) : Option (Int32 × Int32 × Int32 × Int32 × Int32) :=
  (if z0 = (-1 : Int32) then (some (0, f_refusal, f_current, f_inflow_next, f_line_place)) else (bd1 (F_FaxLine_place f_line_place) (fun r30 => (if f_width < (((maI r30 0) + x1) + z0) then (some (0, 2, f_current, f_inflow_next, f_line_place)) else (bd1 (F_FaxLine_place f_line_place) (fun r64 => (if r64 < (((maI r30 0) + x1) + z0) then (bd1 (F_FaxLine_black f_line_black) (fun r85 => (bd1 (F_Reader_paint k (maI r30 0) ((maI r30 0) + x1) r85 f_current) (fun w88_f_current => (bd1 (F_FaxLine_black f_line_black) (fun r100 => (if r100 = 0 then (F_Reader_readRuns_111 k f_width f_inflow_count n_inflow_words g_inflow_words f_line_black (((maI r30 0) + x1) + z0) 1 (((maI r30 0) + x1) + z0) ((maI r30 0) + x1) f_refusal w88_f_current f_inflow_next f_line_place) else (F_Reader_readRuns_111 k f_width f_inflow_count n_inflow_words g_inflow_words f_line_black (((maI r30 0) + x1) + z0) 0 (((maI r30 0) + x1) + z0) ((maI r30 0) + x1) f_refusal w88_f_current f_inflow_next f_line_place)))))))) else (some (0, 2, f_current, f_inflow_next, f_line_place)))))))))
def F_Reader_readRuns (k : Nat) (f_width : Int32) (f_refusal : Int32) (f_current : Int32) (f_inflow_count : Int32) (f_inflow_next : Int32) (n_inflow_words : Nat) (g_inflow_words : Nat → Int32) (f_line_place : Int32) (f_line_black : Int32) : Option (Int32 × Int32 × Int32 × Int32 × Int32) :=
  (bd3 (F_Reader_readNumber k f_refusal f_inflow_count f_inflow_next n_inflow_words g_inflow_words) (fun r1 w1_f_refusal w1_f_inflow_next => (if r1 = (-1 : Int32) then (F_Reader_readRuns_18 k f_width f_inflow_count n_inflow_words g_inflow_words f_line_black r1 (-1) w1_f_refusal f_current w1_f_inflow_next f_line_place) else (bd3 (F_Reader_readNumber k w1_f_refusal f_inflow_count w1_f_inflow_next n_inflow_words g_inflow_words) (fun r15 w15_f_refusal w15_f_inflow_next => (F_Reader_readRuns_18 k f_width f_inflow_count n_inflow_words g_inflow_words f_line_black r1 r15 w15_f_refusal f_current w15_f_inflow_next f_line_place))))))
set_option maxHeartbeats 4000000 in
set_option maxRecDepth 100000 in
theorem w_Reader_readRuns_111 {p : Program} {l : Launch} {e : Env} {s : State} {m : MethodId} {args : Array Value} {below : List Frame} {meth : Method} {c : Code} {D : va_G} {cI cZ cJ : ClassId} {tq : Nat → Nat} {A : Nat → Prop} (k : Nat) (h0 : Nat) (h_inflow : Nat) (h_inflow_words : Nat) (h_line : Nat) (h_skips : Nat) (h_ways : Nat) (h_samples : Nat) (f_width : Int32) (f_height : Int32) (f_bitsRead : Int32) (f_rowsRead : Int32) (f_copyBefore : Int32) (f_ended : Int32) (f_currentIsCopy : Int32) (f_inflow_count : Int32) (n_inflow_words : Nat) (g_inflow_words : Nat → Int32) (f_line_width : Int32) (f_line_above : Int32) (f_line_black : Int32) (o_r : Int32) (o_f_refusal : Int32) (o_f_current : Int32) (o_f_inflow_next : Int32) (o_f_line_place : Int32) (C0 : cx p s m meth c args b_Reader_readRuns (some .boolean) 6 R_Reader D cI cZ cJ tq A) (hA : ∀ q : Nat, s.heap.size ≤ q → A q) : ∀ (x5 : Int32) (z0 : Int32) (z1 : Int32) (z2 : Int32) (f_refusal : Int32) (f_current : Int32) (f_inflow_next : Int32) (f_line_place : Int32) (H : Heap) (locs : List Loc) (ls : Array Slot), va_P D classes (wd_Reader_readRuns cI cZ cJ tq h0 h_inflow h_inflow_words h_line h_skips h_ways h_samples f_width f_height f_bitsRead f_rowsRead f_copyBefore f_ended f_refusal f_current f_currentIsCopy f_inflow_count f_inflow_next n_inflow_words g_inflow_words f_line_width f_line_above f_line_place f_line_black) H → va_D A (wd_Reader_readRuns cI cZ cJ tq h0 h_inflow h_inflow_words h_line h_skips h_ways h_samples f_width f_height f_bitsRead f_rowsRead f_copyBefore f_ended f_refusal f_current f_currentIsCopy f_inflow_count f_inflow_next n_inflow_words g_inflow_words f_line_width f_line_above f_line_place f_line_black) → va_S A s.heap H locs → lv_has ls 6 [(0, .ref h0), (5, .int x5)] → F_Reader_readRuns_111 k f_width f_inflow_count n_inflow_words g_inflow_words f_line_black x5 z0 z1 z2 f_refusal f_current f_inflow_next f_line_place = some (o_r, o_f_refusal, o_f_current, o_f_inflow_next, o_f_line_place) → W p l e RM_Reader_readRuns s m args below meth c H locs 0 0 (MQ below (qI D cI cZ cJ A o_r (wd_Reader_readRuns cI cZ cJ tq h0 h_inflow h_inflow_words h_line h_skips h_ways h_samples f_width f_height f_bitsRead f_rowsRead f_copyBefore f_ended o_f_refusal o_f_current f_currentIsCopy f_inflow_count o_f_inflow_next n_inflow_words g_inflow_words f_line_width f_line_above o_f_line_place f_line_black)) args s 0 0 A) (F0 m 111 ls [.int z0, .int z1, .int z2, .ref h0]) := by
  obtain ⟨hx, hb, hr, hml, hown, htw, hlocks, hK, hG⟩ := id C0
  intro x5 z0 z1 z2 f_refusal f_current f_inflow_next f_line_place H locs ls hP hD hS hl hf
  unfold F_Reader_readRuns_111 at hf
  obtain ⟨w111_f_current, e111, hf⟩ := bd1_some hf
  refine g_callv (wc := (wd_Reader_paint cI cZ cJ tq h0 h_skips h_ways h_inflow h_samples h_line f_width f_height f_bitsRead f_rowsRead f_copyBefore f_ended f_refusal f_current f_currentIsCopy)) (w1 := (wd_Reader_paint cI cZ cJ tq h0 h_skips h_ways h_inflow h_samples h_line f_width f_height f_bitsRead f_rowsRead f_copyBefore f_ended f_refusal w111_f_current f_currentIsCopy)) (ws' := (wd_Reader_readRuns cI cZ cJ tq h0 h_inflow h_inflow_words h_line h_skips h_ways h_samples f_width f_height f_bitsRead f_rowsRead f_copyBefore f_ended f_refusal w111_f_current f_currentIsCopy f_inflow_count f_inflow_next n_inflow_words g_inflow_words f_line_width f_line_above f_line_place f_line_black)) (va_runV (As := [.int z2, .int z1, .int z0]) (rest := []) ⟨hx, hb, hml, hown, htw⟩ (c_Reader_paint l D cI cZ cJ tq k h0 h_skips h_ways h_inflow h_samples h_line _ f_width f_height f_bitsRead f_rowsRead f_copyBefore f_ended f_refusal f_current f_currentIsCopy z2 z1 z0 w111_f_current e111) (cwV 3 htw (gd_V in140 in141 in142 in121 in139) rfl rfl rfl (by decide +kernel) ⟨Nat.le_of_ble_eq_true rfl, Nat.le_of_ble_eq_true rfl⟩) (preV_of (ci := 5) (q0 := 0) hG hS (va_free (wc := (wd_Reader_paint cI cZ cJ tq h0 h_skips h_ways h_inflow h_samples h_line f_width f_height f_bitsRead f_rowsRead f_copyBefore f_ended f_refusal f_current f_currentIsCopy)) hD hS hA [0] rfl) hK hP rfl rfl (hP.sub (ws' := (wd_Reader_paint cI cZ cJ tq h0 h_skips h_ways h_inflow h_samples h_line f_width f_height f_bitsRead f_rowsRead f_copyBefore f_ended f_refusal f_current f_currentIsCopy)) [0] rfl) (hD.sub (ws' := (wd_Reader_paint cI cZ cJ tq h0 h_skips h_ways h_inflow h_samples h_line f_width f_height f_bitsRead f_rowsRead f_copyBefore f_ended f_refusal f_current f_currentIsCopy)) [0] (by decide) rfl)) rfl rfl hl.1 rfl (lv_room (Nat.le_of_ble_eq_true rfl)) d_Reader_readRuns_111 ⟨Nat.le_of_ble_eq_true rfl, Nat.le_of_ble_eq_true rfl⟩) hP hD hS hA [0] [1, 2, 3] [3, 0, 1, 2] rfl rfl (by decide) (by decide) (by decide) rfl (fun H locs hP hD hS => ?_)
  refine lv_aload_n hx hb d_Reader_readRuns_114 rfl (lv_at hl 0 rfl) ?_
  refine va_get (D := D) (ci := 5) (v := .ref h_line) (C := R_Reader) (T := F_Reader) (N := 14) hx hb htw i_Reader hown hK hP 0 rfl rfl 6 (by decide) (htw _ in86) (fun _ h9 => h9) rfl d_Reader_readRuns_115 ?_
  refine lv_iload hx hb d_Reader_readRuns_118 (lv_at hl 1 rfl) ?_
  obtain ⟨w120_f_place, e120, hf⟩ := bd1_some hf
  refine g_callv (wc := (wd_FaxLine_goTo cI cZ cJ tq h_line f_line_width f_line_above f_line_place f_line_black)) (w1 := (wd_FaxLine_goTo cI cZ cJ tq h_line f_line_width f_line_above w120_f_place f_line_black)) (ws' := (wd_Reader_readRuns cI cZ cJ tq h0 h_inflow h_inflow_words h_line h_skips h_ways h_samples f_width f_height f_bitsRead f_rowsRead f_copyBefore f_ended f_refusal w111_f_current f_currentIsCopy f_inflow_count f_inflow_next n_inflow_words g_inflow_words f_line_width f_line_above w120_f_place f_line_black)) (va_runV (As := [.int x5]) (rest := []) ⟨hx, hb, hml, hown, htw⟩ (c_FaxLine_goTo l D cI cZ cJ tq h_line _ f_line_width f_line_above f_line_place f_line_black x5 w120_f_place e120) (cwV 1 htw (gd_V in144 in145 in146 in10 in143) rfl rfl rfl (by decide +kernel) ⟨Nat.le_of_ble_eq_true rfl, Nat.le_of_ble_eq_true rfl⟩) (preV_of (ci := 1) (q0 := 3) hG hS (va_free (wc := (wd_FaxLine_goTo cI cZ cJ tq h_line f_line_width f_line_above f_line_place f_line_black)) hD hS hA [3] rfl) hK hP rfl rfl (hP.sub (ws' := (wd_FaxLine_goTo cI cZ cJ tq h_line f_line_width f_line_above f_line_place f_line_black)) [3] rfl) (hD.sub (ws' := (wd_FaxLine_goTo cI cZ cJ tq h_line f_line_width f_line_above f_line_place f_line_black)) [3] (by decide) rfl)) rfl rfl hl.1 rfl (lv_room (Nat.le_of_ble_eq_true rfl)) d_Reader_readRuns_120 ⟨Nat.le_of_ble_eq_true rfl, Nat.le_of_ble_eq_true rfl⟩) hP hD hS hA [3] [0, 1, 2] [0, 1, 2, 3] rfl rfl (by decide) (by decide) (by decide) rfl (fun H locs hP hD hS => ?_)
  refine lv_iconst (v := 1) hx hb d_Reader_readRuns_123 (by decide) ?_
  obtain ⟨e0, e1, e2, e3, e4⟩ := so5 hf
  subst e0; subst e1; subst e2; subst e3; subst e4
  exact W.zret (v := 1) hx hb hr rfl (fun t ht hW => ⟨⟨_, (), rfl, rfl, by rw [ht]; exact hP, va_K.moved hW.alike hK, hD⟩, hS.F ht⟩) hS.2.2 d_Reader_readRuns_124 hlocks
set_option maxHeartbeats 4000000 in
set_option maxRecDepth 100000 in
theorem w_Reader_readRuns_18 {p : Program} {l : Launch} {e : Env} {s : State} {m : MethodId} {args : Array Value} {below : List Frame} {meth : Method} {c : Code} {D : va_G} {cI cZ cJ : ClassId} {tq : Nat → Nat} {A : Nat → Prop} (k : Nat) (h0 : Nat) (h_inflow : Nat) (h_inflow_words : Nat) (h_line : Nat) (h_skips : Nat) (h_ways : Nat) (h_samples : Nat) (f_width : Int32) (f_height : Int32) (f_bitsRead : Int32) (f_rowsRead : Int32) (f_copyBefore : Int32) (f_ended : Int32) (f_currentIsCopy : Int32) (f_inflow_count : Int32) (n_inflow_words : Nat) (g_inflow_words : Nat → Int32) (f_line_width : Int32) (f_line_above : Int32) (f_line_black : Int32) (o_r : Int32) (o_f_refusal : Int32) (o_f_current : Int32) (o_f_inflow_next : Int32) (o_f_line_place : Int32) (C0 : cx p s m meth c args b_Reader_readRuns (some .boolean) 6 R_Reader D cI cZ cJ tq A) (hA : ∀ q : Nat, s.heap.size ≤ q → A q) : ∀ (x1 : Int32) (z0 : Int32) (f_refusal : Int32) (f_current : Int32) (f_inflow_next : Int32) (f_line_place : Int32) (H : Heap) (locs : List Loc) (ls : Array Slot), va_P D classes (wd_Reader_readRuns cI cZ cJ tq h0 h_inflow h_inflow_words h_line h_skips h_ways h_samples f_width f_height f_bitsRead f_rowsRead f_copyBefore f_ended f_refusal f_current f_currentIsCopy f_inflow_count f_inflow_next n_inflow_words g_inflow_words f_line_width f_line_above f_line_place f_line_black) H → va_D A (wd_Reader_readRuns cI cZ cJ tq h0 h_inflow h_inflow_words h_line h_skips h_ways h_samples f_width f_height f_bitsRead f_rowsRead f_copyBefore f_ended f_refusal f_current f_currentIsCopy f_inflow_count f_inflow_next n_inflow_words g_inflow_words f_line_width f_line_above f_line_place f_line_black) → va_S A s.heap H locs → lv_has ls 6 [(0, .ref h0), (1, .int x1)] → F_Reader_readRuns_18 k f_width f_inflow_count n_inflow_words g_inflow_words f_line_black x1 z0 f_refusal f_current f_inflow_next f_line_place = some (o_r, o_f_refusal, o_f_current, o_f_inflow_next, o_f_line_place) → W p l e RM_Reader_readRuns s m args below meth c H locs 0 0 (MQ below (qI D cI cZ cJ A o_r (wd_Reader_readRuns cI cZ cJ tq h0 h_inflow h_inflow_words h_line h_skips h_ways h_samples f_width f_height f_bitsRead f_rowsRead f_copyBefore f_ended o_f_refusal o_f_current f_currentIsCopy f_inflow_count o_f_inflow_next n_inflow_words g_inflow_words f_line_width f_line_above o_f_line_place f_line_black)) args s 0 0 A) (F0 m 18 ls [.int z0]) := by
  obtain ⟨hx, hb, hr, hml, hown, htw, hlocks, hK, hG⟩ := id C0
  intro x1 z0 f_refusal f_current f_inflow_next f_line_place H locs ls hP hD hS hl hf
  unfold F_Reader_readRuns_18 at hf
  refine lv_istore_n (lv' := [(2, .int z0), (0, .ref h0), (1, .int x1)]) hx hb d_Reader_readRuns_18 rfl hl (by decide) rfl (fun ls hl => ?_)
  refine lv_iload_n hx hb d_Reader_readRuns_19 rfl (lv_at hl 0 rfl) ?_
  refine lv_iconst (v := (-1)) hx hb d_Reader_readRuns_20 (by decide) ?_
  refine lv_icmp_ne (tgt := 26) hx hb d_Reader_readRuns_21 (by decide) (fun c21 => ?_) (fun c21 => ?_)
  · have hf := it_f hf c21
    refine lv_aload_n hx hb d_Reader_readRuns_26 rfl (lv_at hl 1 rfl) ?_
    refine va_get (D := D) (ci := 5) (v := .ref h_line) (C := R_Reader) (T := F_Reader) (N := 14) hx hb htw i_Reader hown hK hP 0 rfl rfl 6 (by decide) (htw _ in86) (fun _ h9 => h9) rfl d_Reader_readRuns_27 ?_
    obtain ⟨r30, e30, hf⟩ := bd1_some hf
    refine g_calli (wc := (wd_FaxLine_place cI cZ cJ tq h_line f_line_width f_line_above f_line_place f_line_black)) (w1 := (wd_FaxLine_place cI cZ cJ tq h_line f_line_width f_line_above f_line_place f_line_black)) (ws' := (wd_Reader_readRuns cI cZ cJ tq h0 h_inflow h_inflow_words h_line h_skips h_ways h_samples f_width f_height f_bitsRead f_rowsRead f_copyBefore f_ended f_refusal f_current f_currentIsCopy f_inflow_count f_inflow_next n_inflow_words g_inflow_words f_line_width f_line_above f_line_place f_line_black)) (va_runV (As := []) (rest := []) ⟨hx, hb, hml, hown, htw⟩ (c_FaxLine_place l D cI cZ cJ tq h_line _ f_line_width f_line_above f_line_place f_line_black r30 e30) (cwV 0 htw (gd_V in132 in133 in134 in10 in131) rfl rfl rfl (by decide +kernel) ⟨Nat.le_of_ble_eq_true rfl, Nat.le_of_ble_eq_true rfl⟩) (preV_of (ci := 1) (q0 := 3) hG hS (va_free (wc := (wd_FaxLine_place cI cZ cJ tq h_line f_line_width f_line_above f_line_place f_line_black)) hD hS hA [3] rfl) hK hP rfl rfl (hP.sub (ws' := (wd_FaxLine_place cI cZ cJ tq h_line f_line_width f_line_above f_line_place f_line_black)) [3] rfl) (hD.sub (ws' := (wd_FaxLine_place cI cZ cJ tq h_line f_line_width f_line_above f_line_place f_line_black)) [3] (by decide) rfl)) rfl rfl hl.1 rfl (lv_room (Nat.le_of_ble_eq_true rfl)) d_Reader_readRuns_30 ⟨Nat.le_of_ble_eq_true rfl, Nat.le_of_ble_eq_true rfl⟩) hP hD hS hA [3] [0, 1, 2] [0, 1, 2, 3] rfl rfl (by decide) (by decide) (by decide) rfl (fun H locs hP hD hS => ?_)
    refine lv_iconst (v := 0) hx hb d_Reader_readRuns_33 (by decide) ?_
    refine va_mmax hx hb (hml.trans hl.1.symm) hown (htw _ in126) (htw _ in60) (htw _ in61) (htw _ in62) (Nat.le_of_ble_eq_true rfl) (Nat.le_of_ble_eq_true rfl) (Nat.le_of_ble_eq_true rfl) (Nat.le_of_ble_eq_true rfl) d_Reader_readRuns_34 ?_
    refine lv_istore_n (lv' := [(3, .int (maI r30 0)), (2, .int z0), (0, .ref h0), (1, .int x1)]) hx hb d_Reader_readRuns_37 rfl hl (by decide) rfl (fun ls hl => ?_)
    refine lv_iload_n hx hb d_Reader_readRuns_38 rfl (lv_at hl 0 rfl) ?_
    refine lv_iload_n hx hb d_Reader_readRuns_39 rfl (lv_at hl 3 rfl) ?_
    refine lv_iadd hx hb d_Reader_readRuns_40 ?_
    refine lv_istore (lv' := [(4, .int ((maI r30 0) + x1)), (3, .int (maI r30 0)), (2, .int z0), (0, .ref h0), (1, .int x1)]) hx hb d_Reader_readRuns_41 hl (by decide) rfl (fun ls hl => ?_)
    refine lv_iload hx hb d_Reader_readRuns_43 (lv_at hl 0 rfl) ?_
    refine lv_iload_n hx hb d_Reader_readRuns_45 rfl (lv_at hl 2 rfl) ?_
    refine lv_iadd hx hb d_Reader_readRuns_46 ?_
    refine lv_istore (lv' := [(5, .int (((maI r30 0) + x1) + z0)), (4, .int ((maI r30 0) + x1)), (3, .int (maI r30 0)), (2, .int z0), (0, .ref h0), (1, .int x1)]) hx hb d_Reader_readRuns_47 hl (by decide) rfl (fun ls hl => ?_)
    refine lv_iload hx hb d_Reader_readRuns_49 (lv_at hl 0 rfl) ?_
    refine lv_aload_n hx hb d_Reader_readRuns_51 rfl (lv_at hl 4 rfl) ?_
    refine va_get (D := D) (ci := 5) (v := .int f_width) (C := R_Reader) (T := F_Reader) (N := 14) hx hb htw i_Reader hown hK hP 0 rfl rfl 0 (by decide) (htw _ in70) (fun _ h9 => h9) rfl d_Reader_readRuns_52 ?_
    refine lv_icmp_gt (tgt := 70) hx hb d_Reader_readRuns_55 (by decide) (fun c55 => ?_) (fun c55 => ?_)
    · have hf := it_t hf c55
      refine lv_aload_n hx hb d_Reader_readRuns_70 rfl (lv_at hl 4 rfl) ?_
      refine lv_iconst (v := 2) hx hb d_Reader_readRuns_71 (by decide) ?_
      refine va_put (D := D) (ci := 5) (v := .int 2) (ty := .int) (C := R_Reader) (T := F_Reader) (N := 14) hx hb htw i_Reader t_Reader t_Reader_ok n_Reader hown hK hP hD hS 0 rfl rfl 11 (by decide) (htw _ in69) (fun _ h9 => h9) rfl (by decide +kernel) rfl rfl (Nat.le_of_ble_eq_true rfl) d_Reader_readRuns_72 (fun H locs hP hD hS => ?_)
      have hP : va_P D classes (wd_Reader_readRuns cI cZ cJ tq h0 h_inflow h_inflow_words h_line h_skips h_ways h_samples f_width f_height f_bitsRead f_rowsRead f_copyBefore f_ended 2 f_current f_currentIsCopy f_inflow_count f_inflow_next n_inflow_words g_inflow_words f_line_width f_line_above f_line_place f_line_black) H := hP
      have hD : va_D A (wd_Reader_readRuns cI cZ cJ tq h0 h_inflow h_inflow_words h_line h_skips h_ways h_samples f_width f_height f_bitsRead f_rowsRead f_copyBefore f_ended 2 f_current f_currentIsCopy f_inflow_count f_inflow_next n_inflow_words g_inflow_words f_line_width f_line_above f_line_place f_line_black) := hD
      refine lv_iconst (v := 0) hx hb d_Reader_readRuns_75 (by decide) ?_
      obtain ⟨e0, e1, e2, e3, e4⟩ := so5 hf
      subst e0; subst e1; subst e2; subst e3; subst e4
      exact W.zret (v := 0) hx hb hr rfl (fun t ht hW => ⟨⟨_, (), rfl, rfl, by rw [ht]; exact hP, va_K.moved hW.alike hK, hD⟩, hS.F ht⟩) hS.2.2 d_Reader_readRuns_76 hlocks
    · have hf := it_f hf c55
      refine lv_iload hx hb d_Reader_readRuns_58 (lv_at hl 0 rfl) ?_
      refine lv_aload_n hx hb d_Reader_readRuns_60 rfl (lv_at hl 4 rfl) ?_
      refine va_get (D := D) (ci := 5) (v := .ref h_line) (C := R_Reader) (T := F_Reader) (N := 14) hx hb htw i_Reader hown hK hP 0 rfl rfl 6 (by decide) (htw _ in86) (fun _ h9 => h9) rfl d_Reader_readRuns_61 ?_
      obtain ⟨r64, e64, hf⟩ := bd1_some hf
      refine g_calli (wc := (wd_FaxLine_place cI cZ cJ tq h_line f_line_width f_line_above f_line_place f_line_black)) (w1 := (wd_FaxLine_place cI cZ cJ tq h_line f_line_width f_line_above f_line_place f_line_black)) (ws' := (wd_Reader_readRuns cI cZ cJ tq h0 h_inflow h_inflow_words h_line h_skips h_ways h_samples f_width f_height f_bitsRead f_rowsRead f_copyBefore f_ended f_refusal f_current f_currentIsCopy f_inflow_count f_inflow_next n_inflow_words g_inflow_words f_line_width f_line_above f_line_place f_line_black)) (va_runV (As := []) (rest := [.int (((maI r30 0) + x1) + z0)]) ⟨hx, hb, hml, hown, htw⟩ (c_FaxLine_place l D cI cZ cJ tq h_line _ f_line_width f_line_above f_line_place f_line_black r64 e64) (cwV 0 htw (gd_V in132 in133 in134 in10 in131) rfl rfl rfl (by decide +kernel) ⟨Nat.le_of_ble_eq_true rfl, Nat.le_of_ble_eq_true rfl⟩) (preV_of (ci := 1) (q0 := 3) hG hS (va_free (wc := (wd_FaxLine_place cI cZ cJ tq h_line f_line_width f_line_above f_line_place f_line_black)) hD hS hA [3] rfl) hK hP rfl rfl (hP.sub (ws' := (wd_FaxLine_place cI cZ cJ tq h_line f_line_width f_line_above f_line_place f_line_black)) [3] rfl) (hD.sub (ws' := (wd_FaxLine_place cI cZ cJ tq h_line f_line_width f_line_above f_line_place f_line_black)) [3] (by decide) rfl)) rfl rfl hl.1 rfl (lv_room (Nat.le_of_ble_eq_true rfl)) d_Reader_readRuns_64 ⟨Nat.le_of_ble_eq_true rfl, Nat.le_of_ble_eq_true rfl⟩) hP hD hS hA [3] [0, 1, 2] [0, 1, 2, 3] rfl rfl (by decide) (by decide) (by decide) rfl (fun H locs hP hD hS => ?_)
      refine lv_icmp_gt (tgt := 77) hx hb d_Reader_readRuns_67 (by decide) (fun c67 => ?_) (fun c67 => ?_)
      · have hf := it_t hf c67
        refine lv_aload_n hx hb d_Reader_readRuns_77 rfl (lv_at hl 4 rfl) ?_
        refine lv_iload_n hx hb d_Reader_readRuns_78 rfl (lv_at hl 2 rfl) ?_
        refine lv_iload hx hb d_Reader_readRuns_79 (lv_at hl 1 rfl) ?_
        refine lv_aload_n hx hb d_Reader_readRuns_81 rfl (lv_at hl 4 rfl) ?_
        refine va_get (D := D) (ci := 5) (v := .ref h_line) (C := R_Reader) (T := F_Reader) (N := 14) hx hb htw i_Reader hown hK hP 0 rfl rfl 6 (by decide) (htw _ in86) (fun _ h9 => h9) rfl d_Reader_readRuns_82 ?_
        obtain ⟨r85, e85, hf⟩ := bd1_some hf
        refine g_calli (wc := (wd_FaxLine_black cI cZ cJ tq h_line f_line_width f_line_above f_line_place f_line_black)) (w1 := (wd_FaxLine_black cI cZ cJ tq h_line f_line_width f_line_above f_line_place f_line_black)) (ws' := (wd_Reader_readRuns cI cZ cJ tq h0 h_inflow h_inflow_words h_line h_skips h_ways h_samples f_width f_height f_bitsRead f_rowsRead f_copyBefore f_ended f_refusal f_current f_currentIsCopy f_inflow_count f_inflow_next n_inflow_words g_inflow_words f_line_width f_line_above f_line_place f_line_black)) (va_runV (As := []) (rest := [.int ((maI r30 0) + x1), .int (maI r30 0), .ref h0]) ⟨hx, hb, hml, hown, htw⟩ (c_FaxLine_black l D cI cZ cJ tq h_line _ f_line_width f_line_above f_line_place f_line_black r85 e85) (cwV 0 htw (gd_V in136 in137 in138 in10 in135) rfl rfl rfl (by decide +kernel) ⟨Nat.le_of_ble_eq_true rfl, Nat.le_of_ble_eq_true rfl⟩) (preV_of (ci := 1) (q0 := 3) hG hS (va_free (wc := (wd_FaxLine_black cI cZ cJ tq h_line f_line_width f_line_above f_line_place f_line_black)) hD hS hA [3] rfl) hK hP rfl rfl (hP.sub (ws' := (wd_FaxLine_black cI cZ cJ tq h_line f_line_width f_line_above f_line_place f_line_black)) [3] rfl) (hD.sub (ws' := (wd_FaxLine_black cI cZ cJ tq h_line f_line_width f_line_above f_line_place f_line_black)) [3] (by decide) rfl)) rfl rfl hl.1 rfl (lv_room (Nat.le_of_ble_eq_true rfl)) d_Reader_readRuns_85 ⟨Nat.le_of_ble_eq_true rfl, Nat.le_of_ble_eq_true rfl⟩) hP hD hS hA [3] [0, 1, 2] [0, 1, 2, 3] rfl rfl (by decide) (by decide) (by decide) rfl (fun H locs hP hD hS => ?_)
        obtain ⟨w88_f_current, e88, hf⟩ := bd1_some hf
        refine g_callv (wc := (wd_Reader_paint cI cZ cJ tq h0 h_skips h_ways h_inflow h_samples h_line f_width f_height f_bitsRead f_rowsRead f_copyBefore f_ended f_refusal f_current f_currentIsCopy)) (w1 := (wd_Reader_paint cI cZ cJ tq h0 h_skips h_ways h_inflow h_samples h_line f_width f_height f_bitsRead f_rowsRead f_copyBefore f_ended f_refusal w88_f_current f_currentIsCopy)) (ws' := (wd_Reader_readRuns cI cZ cJ tq h0 h_inflow h_inflow_words h_line h_skips h_ways h_samples f_width f_height f_bitsRead f_rowsRead f_copyBefore f_ended f_refusal w88_f_current f_currentIsCopy f_inflow_count f_inflow_next n_inflow_words g_inflow_words f_line_width f_line_above f_line_place f_line_black)) (va_runV (As := [.int (maI r30 0), .int ((maI r30 0) + x1), .int r85]) (rest := []) ⟨hx, hb, hml, hown, htw⟩ (c_Reader_paint l D cI cZ cJ tq k h0 h_skips h_ways h_inflow h_samples h_line _ f_width f_height f_bitsRead f_rowsRead f_copyBefore f_ended f_refusal f_current f_currentIsCopy (maI r30 0) ((maI r30 0) + x1) r85 w88_f_current e88) (cwV 3 htw (gd_V in140 in141 in142 in121 in139) rfl rfl rfl (by decide +kernel) ⟨Nat.le_of_ble_eq_true rfl, Nat.le_of_ble_eq_true rfl⟩) (preV_of (ci := 5) (q0 := 0) hG hS (va_free (wc := (wd_Reader_paint cI cZ cJ tq h0 h_skips h_ways h_inflow h_samples h_line f_width f_height f_bitsRead f_rowsRead f_copyBefore f_ended f_refusal f_current f_currentIsCopy)) hD hS hA [0] rfl) hK hP rfl rfl (hP.sub (ws' := (wd_Reader_paint cI cZ cJ tq h0 h_skips h_ways h_inflow h_samples h_line f_width f_height f_bitsRead f_rowsRead f_copyBefore f_ended f_refusal f_current f_currentIsCopy)) [0] rfl) (hD.sub (ws' := (wd_Reader_paint cI cZ cJ tq h0 h_skips h_ways h_inflow h_samples h_line f_width f_height f_bitsRead f_rowsRead f_copyBefore f_ended f_refusal f_current f_currentIsCopy)) [0] (by decide) rfl)) rfl rfl hl.1 rfl (lv_room (Nat.le_of_ble_eq_true rfl)) d_Reader_readRuns_88 ⟨Nat.le_of_ble_eq_true rfl, Nat.le_of_ble_eq_true rfl⟩) hP hD hS hA [0] [1, 2, 3] [3, 0, 1, 2] rfl rfl (by decide) (by decide) (by decide) rfl (fun H locs hP hD hS => ?_)
        refine lv_aload_n hx hb d_Reader_readRuns_91 rfl (lv_at hl 4 rfl) ?_
        refine lv_iload hx hb d_Reader_readRuns_92 (lv_at hl 1 rfl) ?_
        refine lv_iload hx hb d_Reader_readRuns_94 (lv_at hl 0 rfl) ?_
        refine lv_aload_n hx hb d_Reader_readRuns_96 rfl (lv_at hl 4 rfl) ?_
        refine va_get (D := D) (ci := 5) (v := .ref h_line) (C := R_Reader) (T := F_Reader) (N := 14) hx hb htw i_Reader hown hK hP 0 rfl rfl 6 (by decide) (htw _ in86) (fun _ h9 => h9) rfl d_Reader_readRuns_97 ?_
        obtain ⟨r100, e100, hf⟩ := bd1_some hf
        refine g_calli (wc := (wd_FaxLine_black cI cZ cJ tq h_line f_line_width f_line_above f_line_place f_line_black)) (w1 := (wd_FaxLine_black cI cZ cJ tq h_line f_line_width f_line_above f_line_place f_line_black)) (ws' := (wd_Reader_readRuns cI cZ cJ tq h0 h_inflow h_inflow_words h_line h_skips h_ways h_samples f_width f_height f_bitsRead f_rowsRead f_copyBefore f_ended f_refusal w88_f_current f_currentIsCopy f_inflow_count f_inflow_next n_inflow_words g_inflow_words f_line_width f_line_above f_line_place f_line_black)) (va_runV (As := []) (rest := [.int (((maI r30 0) + x1) + z0), .int ((maI r30 0) + x1), .ref h0]) ⟨hx, hb, hml, hown, htw⟩ (c_FaxLine_black l D cI cZ cJ tq h_line _ f_line_width f_line_above f_line_place f_line_black r100 e100) (cwV 0 htw (gd_V in136 in137 in138 in10 in135) rfl rfl rfl (by decide +kernel) ⟨Nat.le_of_ble_eq_true rfl, Nat.le_of_ble_eq_true rfl⟩) (preV_of (ci := 1) (q0 := 3) hG hS (va_free (wc := (wd_FaxLine_black cI cZ cJ tq h_line f_line_width f_line_above f_line_place f_line_black)) hD hS hA [3] rfl) hK hP rfl rfl (hP.sub (ws' := (wd_FaxLine_black cI cZ cJ tq h_line f_line_width f_line_above f_line_place f_line_black)) [3] rfl) (hD.sub (ws' := (wd_FaxLine_black cI cZ cJ tq h_line f_line_width f_line_above f_line_place f_line_black)) [3] (by decide) rfl)) rfl rfl hl.1 rfl (lv_room (Nat.le_of_ble_eq_true rfl)) d_Reader_readRuns_100 ⟨Nat.le_of_ble_eq_true rfl, Nat.le_of_ble_eq_true rfl⟩) hP hD hS hA [3] [0, 1, 2] [0, 1, 2, 3] rfl rfl (by decide) (by decide) (by decide) rfl (fun H locs hP hD hS => ?_)
        refine lv_if_ne (tgt := 110) hx hb d_Reader_readRuns_103 (by decide) (fun c103 => ?_) (fun c103 => ?_)
        · have hf := it_f hf c103
          refine lv_iconst (v := 0) hx hb d_Reader_readRuns_110 (by decide) ?_
          exact w_Reader_readRuns_111 k h0 h_inflow h_inflow_words h_line h_skips h_ways h_samples f_width f_height f_bitsRead f_rowsRead f_copyBefore f_ended f_currentIsCopy f_inflow_count n_inflow_words g_inflow_words f_line_width f_line_above f_line_black o_r o_f_refusal o_f_current o_f_inflow_next o_f_line_place C0 hA (((maI r30 0) + x1) + z0) 0 (((maI r30 0) + x1) + z0) ((maI r30 0) + x1) f_refusal w88_f_current f_inflow_next f_line_place _ _ ls hP hD hS (lv_sub hl [4, 0] rfl) hf
        · have hf := it_t hf c103
          refine lv_iconst (v := 1) hx hb d_Reader_readRuns_106 (by decide) ?_
          refine lv_goto (tgt := 111) hx hb d_Reader_readRuns_107 (by decide) ?_
          exact w_Reader_readRuns_111 k h0 h_inflow h_inflow_words h_line h_skips h_ways h_samples f_width f_height f_bitsRead f_rowsRead f_copyBefore f_ended f_currentIsCopy f_inflow_count n_inflow_words g_inflow_words f_line_width f_line_above f_line_black o_r o_f_refusal o_f_current o_f_inflow_next o_f_line_place C0 hA (((maI r30 0) + x1) + z0) 1 (((maI r30 0) + x1) + z0) ((maI r30 0) + x1) f_refusal w88_f_current f_inflow_next f_line_place _ _ ls hP hD hS (lv_sub hl [4, 0] rfl) hf
      · have hf := it_f hf c67
        refine lv_aload_n hx hb d_Reader_readRuns_70 rfl (lv_at hl 4 rfl) ?_
        refine lv_iconst (v := 2) hx hb d_Reader_readRuns_71 (by decide) ?_
        refine va_put (D := D) (ci := 5) (v := .int 2) (ty := .int) (C := R_Reader) (T := F_Reader) (N := 14) hx hb htw i_Reader t_Reader t_Reader_ok n_Reader hown hK hP hD hS 0 rfl rfl 11 (by decide) (htw _ in69) (fun _ h9 => h9) rfl (by decide +kernel) rfl rfl (Nat.le_of_ble_eq_true rfl) d_Reader_readRuns_72 (fun H locs hP hD hS => ?_)
        have hP : va_P D classes (wd_Reader_readRuns cI cZ cJ tq h0 h_inflow h_inflow_words h_line h_skips h_ways h_samples f_width f_height f_bitsRead f_rowsRead f_copyBefore f_ended 2 f_current f_currentIsCopy f_inflow_count f_inflow_next n_inflow_words g_inflow_words f_line_width f_line_above f_line_place f_line_black) H := hP
        have hD : va_D A (wd_Reader_readRuns cI cZ cJ tq h0 h_inflow h_inflow_words h_line h_skips h_ways h_samples f_width f_height f_bitsRead f_rowsRead f_copyBefore f_ended 2 f_current f_currentIsCopy f_inflow_count f_inflow_next n_inflow_words g_inflow_words f_line_width f_line_above f_line_place f_line_black) := hD
        refine lv_iconst (v := 0) hx hb d_Reader_readRuns_75 (by decide) ?_
        obtain ⟨e0, e1, e2, e3, e4⟩ := so5 hf
        subst e0; subst e1; subst e2; subst e3; subst e4
        exact W.zret (v := 0) hx hb hr rfl (fun t ht hW => ⟨⟨_, (), rfl, rfl, by rw [ht]; exact hP, va_K.moved hW.alike hK, hD⟩, hS.F ht⟩) hS.2.2 d_Reader_readRuns_76 hlocks
  · have hf := it_t hf c21
    refine lv_iconst (v := 0) hx hb d_Reader_readRuns_24 (by decide) ?_
    obtain ⟨e0, e1, e2, e3, e4⟩ := so5 hf
    subst e0; subst e1; subst e2; subst e3; subst e4
    exact W.zret (v := 0) hx hb hr rfl (fun t ht hW => ⟨⟨_, (), rfl, rfl, by rw [ht]; exact hP, va_K.moved hW.alike hK, hD⟩, hS.F ht⟩) hS.2.2 d_Reader_readRuns_25 hlocks
set_option maxHeartbeats 4000000 in
set_option maxRecDepth 100000 in
theorem c_Reader_readRuns (l : Launch) (D : va_G) (cI cZ cJ : ClassId) (tq : Nat → Nat) (k : Nat) (h0 : Nat) (h_inflow : Nat) (h_inflow_words : Nat) (h_line : Nat) (h_skips : Nat) (h_ways : Nat) (h_samples : Nat) (sz : Nat) (f_width : Int32) (f_height : Int32) (f_bitsRead : Int32) (f_rowsRead : Int32) (f_copyBefore : Int32) (f_ended : Int32) (f_refusal : Int32) (f_current : Int32) (f_currentIsCopy : Int32) (f_inflow_count : Int32) (f_inflow_next : Int32) (n_inflow_words : Nat) (g_inflow_words : Nat → Int32) (f_line_width : Int32) (f_line_above : Int32) (f_line_place : Int32) (f_line_black : Int32) (o_r : Int32) (o_f_refusal : Int32) (o_f_current : Int32) (o_f_inflow_next : Int32) (o_f_line_place : Int32) (hf : F_Reader_readRuns k f_width f_refusal f_current f_inflow_count f_inflow_next n_inflow_words g_inflow_words f_line_place f_line_black = some (o_r, o_f_refusal, o_f_current, o_f_inflow_next, o_f_line_place)) : Met l y_Reader_readRuns ws_Reader_readRuns RM_Reader_readRuns (va_Pc [.ref h0] (Pg D cI cZ cJ tq (wd_Reader_readRuns cI cZ cJ tq h0 h_inflow h_inflow_words h_line h_skips h_ways h_samples f_width f_height f_bitsRead f_rowsRead f_copyBefore f_ended f_refusal f_current f_currentIsCopy f_inflow_count f_inflow_next n_inflow_words g_inflow_words f_line_width f_line_above f_line_place f_line_black) sz)) (qI D cI cZ cJ (va_A (wd_Reader_readRuns cI cZ cJ tq h0 h_inflow h_inflow_words h_line h_skips h_ways h_samples f_width f_height f_bitsRead f_rowsRead f_copyBefore f_ended f_refusal f_current f_currentIsCopy f_inflow_count f_inflow_next n_inflow_words g_inflow_words f_line_width f_line_above f_line_place f_line_black) sz) o_r (wd_Reader_readRuns cI cZ cJ tq h0 h_inflow h_inflow_words h_line h_skips h_ways h_samples f_width f_height f_bitsRead f_rowsRead f_copyBefore f_ended o_f_refusal o_f_current f_currentIsCopy f_inflow_count o_f_inflow_next n_inflow_words g_inflow_words f_line_width f_line_above o_f_line_place f_line_black)) 0 0 (va_A (wd_Reader_readRuns cI cZ cJ tq h0 h_inflow h_inflow_words h_line h_skips h_ways h_samples f_width f_height f_bitsRead f_rowsRead f_copyBefore f_ended f_refusal f_current f_currentIsCopy f_inflow_count f_inflow_next n_inflow_words g_inflow_words f_line_width f_line_above f_line_place f_line_black) sz) := by
  refine Met.ofW (cc := b_Reader_readRuns) (maxL := 6) (ret := (some .boolean)) (by decide) rfl ?_
  intro p e s m args below meth c s₁ B hml hv
  obtain ⟨rfl, hsz, hP, hK, hD0, hG⟩ := hv
  have hx := B.exec
  have hb := B.bytes
  have hr := B.returns
  have htw : ∀ w ∈ W_all, w.before [.ref h0].toArray s = true := fun w h => atoms_spec (ws := ws_Reader_readRuns) B.pre w (List.mem_cons_of_mem _ h)
  have hown : s.vm.findClass R_Reader = some m.cls := findClass_of_methodNamed B.named
  have hlocks := B.notSynchronized
  subst hsz
  have hD := hD0.self (sz := s.heap.size)
  generalize hAe : va_A (wd_Reader_readRuns cI cZ cJ tq h0 h_inflow h_inflow_words h_line h_skips h_ways h_samples f_width f_height f_bitsRead f_rowsRead f_copyBefore f_ended f_refusal f_current f_currentIsCopy f_inflow_count f_inflow_next n_inflow_words g_inflow_words f_line_width f_line_above f_line_place f_line_black) s.heap.size = A at hD hG ⊢
  have hA : ∀ q : Nat, s.heap.size ≤ q → A q := fun q h => by rw [← hAe]; exact Or.inr h
  have hS : va_S A s.heap s.heap [] := va_S.rf
  have C0 : cx p s m meth c [.ref h0].toArray b_Reader_readRuns (some .boolean) 6 R_Reader D cI cZ cJ tq A := ⟨hx, hb, hr, hml, hown, htw, hlocks, hK, hG⟩
  have hl := lv_entry ([.ref h0]) (n := 6) (Nat.le_of_ble_eq_true rfl)
  rw [lg_entry_eq]
  generalize (lg_sl ([.ref h0]) ++ List.replicate (6 - (lg_sl ([.ref h0])).length) Slot.unset).toArray = ls at hl ⊢
  have hl : lv_has ls 6 [(0, .ref h0)] := hl
  have hP : va_P D classes (wd_Reader_readRuns cI cZ cJ tq h0 h_inflow h_inflow_words h_line h_skips h_ways h_samples f_width f_height f_bitsRead f_rowsRead f_copyBefore f_ended f_refusal f_current f_currentIsCopy f_inflow_count f_inflow_next n_inflow_words g_inflow_words f_line_width f_line_above f_line_place f_line_black) s.heap := hP
  clear hAe
  unfold F_Reader_readRuns at hf
  refine lv_aload_n hx hb d_Reader_readRuns_0 rfl (lv_at hl 0 rfl) ?_
  obtain ⟨r1, w1_f_refusal, w1_f_inflow_next, e1, hf⟩ := bd3_some hf
  refine g_calli (wc := (wd_Reader_readNumber cI cZ cJ tq h0 h_inflow h_inflow_words h_skips h_ways h_samples h_line f_width f_height f_bitsRead f_rowsRead f_copyBefore f_ended f_refusal f_current f_currentIsCopy f_inflow_count f_inflow_next n_inflow_words g_inflow_words)) (w1 := (wd_Reader_readNumber cI cZ cJ tq h0 h_inflow h_inflow_words h_skips h_ways h_samples h_line f_width f_height f_bitsRead f_rowsRead f_copyBefore f_ended w1_f_refusal f_current f_currentIsCopy f_inflow_count w1_f_inflow_next n_inflow_words g_inflow_words)) (ws' := (wd_Reader_readRuns cI cZ cJ tq h0 h_inflow h_inflow_words h_line h_skips h_ways h_samples f_width f_height f_bitsRead f_rowsRead f_copyBefore f_ended w1_f_refusal f_current f_currentIsCopy f_inflow_count w1_f_inflow_next n_inflow_words g_inflow_words f_line_width f_line_above f_line_place f_line_black)) (va_runV (As := []) (rest := []) ⟨hx, hb, hml, hown, htw⟩ (c_Reader_readNumber l D cI cZ cJ tq k h0 h_inflow h_inflow_words h_skips h_ways h_samples h_line _ f_width f_height f_bitsRead f_rowsRead f_copyBefore f_ended f_refusal f_current f_currentIsCopy f_inflow_count f_inflow_next n_inflow_words g_inflow_words r1 w1_f_refusal w1_f_inflow_next e1) (cwV 0 htw (gd_V in128 in129 in130 in121 in127) rfl rfl rfl (by decide +kernel) ⟨Nat.le_of_ble_eq_true rfl, Nat.le_of_ble_eq_true rfl⟩) (preV_of (ci := 5) (q0 := 0) hG hS (va_free (wc := (wd_Reader_readNumber cI cZ cJ tq h0 h_inflow h_inflow_words h_skips h_ways h_samples h_line f_width f_height f_bitsRead f_rowsRead f_copyBefore f_ended f_refusal f_current f_currentIsCopy f_inflow_count f_inflow_next n_inflow_words g_inflow_words)) hD hS hA [0, 1, 2] rfl) hK hP rfl rfl (hP.sub (ws' := (wd_Reader_readNumber cI cZ cJ tq h0 h_inflow h_inflow_words h_skips h_ways h_samples h_line f_width f_height f_bitsRead f_rowsRead f_copyBefore f_ended f_refusal f_current f_currentIsCopy f_inflow_count f_inflow_next n_inflow_words g_inflow_words)) [0, 1, 2] rfl) (hD.sub (ws' := (wd_Reader_readNumber cI cZ cJ tq h0 h_inflow h_inflow_words h_skips h_ways h_samples h_line f_width f_height f_bitsRead f_rowsRead f_copyBefore f_ended f_refusal f_current f_currentIsCopy f_inflow_count f_inflow_next n_inflow_words g_inflow_words)) [0, 1, 2] (by decide) rfl)) rfl rfl hl.1 rfl (lv_room (Nat.le_of_ble_eq_true rfl)) d_Reader_readRuns_1 ⟨Nat.le_of_ble_eq_true rfl, Nat.le_of_ble_eq_true rfl⟩) hP hD hS hA [0, 1, 2] [3] [1, 2, 3, 0] rfl rfl (by decide) (by decide) (by decide) rfl (fun H locs hP hD hS => ?_)
  refine lv_istore_n (lv' := [(1, .int r1), (0, .ref h0)]) hx hb d_Reader_readRuns_4 rfl hl (by decide) rfl (fun ls hl => ?_)
  refine lv_iload_n hx hb d_Reader_readRuns_5 rfl (lv_at hl 0 rfl) ?_
  refine lv_iconst (v := (-1)) hx hb d_Reader_readRuns_6 (by decide) ?_
  refine lv_icmp_ne (tgt := 14) hx hb d_Reader_readRuns_7 (by decide) (fun c7 => ?_) (fun c7 => ?_)
  · have hf := it_f hf c7
    refine lv_aload_n hx hb d_Reader_readRuns_14 rfl (lv_at hl 1 rfl) ?_
    obtain ⟨r15, w15_f_refusal, w15_f_inflow_next, e15, hf⟩ := bd3_some hf
    refine g_calli (wc := (wd_Reader_readNumber cI cZ cJ tq h0 h_inflow h_inflow_words h_skips h_ways h_samples h_line f_width f_height f_bitsRead f_rowsRead f_copyBefore f_ended w1_f_refusal f_current f_currentIsCopy f_inflow_count w1_f_inflow_next n_inflow_words g_inflow_words)) (w1 := (wd_Reader_readNumber cI cZ cJ tq h0 h_inflow h_inflow_words h_skips h_ways h_samples h_line f_width f_height f_bitsRead f_rowsRead f_copyBefore f_ended w15_f_refusal f_current f_currentIsCopy f_inflow_count w15_f_inflow_next n_inflow_words g_inflow_words)) (ws' := (wd_Reader_readRuns cI cZ cJ tq h0 h_inflow h_inflow_words h_line h_skips h_ways h_samples f_width f_height f_bitsRead f_rowsRead f_copyBefore f_ended w15_f_refusal f_current f_currentIsCopy f_inflow_count w15_f_inflow_next n_inflow_words g_inflow_words f_line_width f_line_above f_line_place f_line_black)) (va_runV (As := []) (rest := []) ⟨hx, hb, hml, hown, htw⟩ (c_Reader_readNumber l D cI cZ cJ tq k h0 h_inflow h_inflow_words h_skips h_ways h_samples h_line _ f_width f_height f_bitsRead f_rowsRead f_copyBefore f_ended w1_f_refusal f_current f_currentIsCopy f_inflow_count w1_f_inflow_next n_inflow_words g_inflow_words r15 w15_f_refusal w15_f_inflow_next e15) (cwV 0 htw (gd_V in128 in129 in130 in121 in127) rfl rfl rfl (by decide +kernel) ⟨Nat.le_of_ble_eq_true rfl, Nat.le_of_ble_eq_true rfl⟩) (preV_of (ci := 5) (q0 := 0) hG hS (va_free (wc := (wd_Reader_readNumber cI cZ cJ tq h0 h_inflow h_inflow_words h_skips h_ways h_samples h_line f_width f_height f_bitsRead f_rowsRead f_copyBefore f_ended w1_f_refusal f_current f_currentIsCopy f_inflow_count w1_f_inflow_next n_inflow_words g_inflow_words)) hD hS hA [0, 1, 2] rfl) hK hP rfl rfl (hP.sub (ws' := (wd_Reader_readNumber cI cZ cJ tq h0 h_inflow h_inflow_words h_skips h_ways h_samples h_line f_width f_height f_bitsRead f_rowsRead f_copyBefore f_ended w1_f_refusal f_current f_currentIsCopy f_inflow_count w1_f_inflow_next n_inflow_words g_inflow_words)) [0, 1, 2] rfl) (hD.sub (ws' := (wd_Reader_readNumber cI cZ cJ tq h0 h_inflow h_inflow_words h_skips h_ways h_samples h_line f_width f_height f_bitsRead f_rowsRead f_copyBefore f_ended w1_f_refusal f_current f_currentIsCopy f_inflow_count w1_f_inflow_next n_inflow_words g_inflow_words)) [0, 1, 2] (by decide) rfl)) rfl rfl hl.1 rfl (lv_room (Nat.le_of_ble_eq_true rfl)) d_Reader_readRuns_15 ⟨Nat.le_of_ble_eq_true rfl, Nat.le_of_ble_eq_true rfl⟩) hP hD hS hA [0, 1, 2] [3] [1, 2, 3, 0] rfl rfl (by decide) (by decide) (by decide) rfl (fun H locs hP hD hS => ?_)
    exact w_Reader_readRuns_18 k h0 h_inflow h_inflow_words h_line h_skips h_ways h_samples f_width f_height f_bitsRead f_rowsRead f_copyBefore f_ended f_currentIsCopy f_inflow_count n_inflow_words g_inflow_words f_line_width f_line_above f_line_black o_r o_f_refusal o_f_current o_f_inflow_next o_f_line_place C0 hA r1 r15 w15_f_refusal f_current w15_f_inflow_next f_line_place _ _ ls hP hD hS (lv_sub hl [1, 0] rfl) hf
  · have hf := it_t hf c7
    refine lv_iconst (v := (-1)) hx hb d_Reader_readRuns_10 (by decide) ?_
    refine lv_goto (tgt := 18) hx hb d_Reader_readRuns_11 (by decide) ?_
    exact w_Reader_readRuns_18 k h0 h_inflow h_inflow_words h_line h_skips h_ways h_samples f_width f_height f_bitsRead f_rowsRead f_copyBefore f_ended f_currentIsCopy f_inflow_count n_inflow_words g_inflow_words f_line_width f_line_above f_line_black o_r o_f_refusal o_f_current o_f_inflow_next o_f_line_place C0 hA r1 (-1) w1_f_refusal f_current w1_f_inflow_next f_line_place _ _ ls hP hD hS (lv_sub hl [1, 0] rfl) hf
-- Reader_passBelow
abbrev RM_Reader_passBelow : Room := { frames := 2, cells := 0, slots := 0, locals := 48 }
def ws_Reader_passBelow : List Cond := .code y_Reader_passBelow b_Reader_passBelow 2 (some .boolean) :: W_all
def wd_Reader_passBelow (cI cZ cJ : ClassId) (tq : Nat → Nat) (h0 : Nat) (h_line : Nat) (h_skips : Nat) (h_ways : Nat) (h_inflow : Nat) (h_samples : Nat) (f_width : Int32) (f_height : Int32) (f_bitsRead : Int32) (f_rowsRead : Int32) (f_copyBefore : Int32) (f_ended : Int32) (f_refusal : Int32) (f_current : Int32) (f_currentIsCopy : Int32) (f_line_width : Int32) (f_line_above : Int32) (f_line_place : Int32) (f_line_black : Int32) : va_W := [(h0, .inr (5, [.int f_width, .int f_height, .ref h_skips, .ref h_ways, .ref h_inflow, .ref h_samples, .ref h_line, .int f_bitsRead, .int f_rowsRead, .int f_copyBefore, .int f_ended, .int f_refusal, .int f_current, .int f_currentIsCopy])), (h_line, .inr (1, [.int f_line_width, .int f_line_above, .int f_line_place, .int f_line_black]))]
def F_Reader_passBelow (k : Nat) (x1 : Int32) (f_width : Int32) (f_refusal : Int32) (f_current : Int32) (f_line_place : Int32) (f_line_black : Int32) : Option (Int32 × Int32 × Int32 × Int32) :=
  (bd1 (F_FaxLine_place f_line_place) (fun r5 => (if x1 ≤ r5 then (some (0, 1, f_current, f_line_place)) else (if x1 < f_width then (bd1 (F_FaxLine_place f_line_place) (fun r31 => (bd1 (F_FaxLine_black f_line_black) (fun r39 => (bd1 (F_Reader_paint k r31 x1 r39 f_current) (fun w42_f_current => (bd1 (F_FaxLine_goTo x1 f_line_place) (fun w50_f_place => (some (1, f_refusal, w42_f_current, w50_f_place)))))))))) else (some (0, 1, f_current, f_line_place))))))
set_option maxHeartbeats 4000000 in
set_option maxRecDepth 100000 in
theorem c_Reader_passBelow (l : Launch) (D : va_G) (cI cZ cJ : ClassId) (tq : Nat → Nat) (k : Nat) (h0 : Nat) (h_line : Nat) (h_skips : Nat) (h_ways : Nat) (h_inflow : Nat) (h_samples : Nat) (sz : Nat) (f_width : Int32) (f_height : Int32) (f_bitsRead : Int32) (f_rowsRead : Int32) (f_copyBefore : Int32) (f_ended : Int32) (f_refusal : Int32) (f_current : Int32) (f_currentIsCopy : Int32) (f_line_width : Int32) (f_line_above : Int32) (f_line_place : Int32) (f_line_black : Int32) (x1 : Int32) (o_r : Int32) (o_f_refusal : Int32) (o_f_current : Int32) (o_f_line_place : Int32) (hf : F_Reader_passBelow k x1 f_width f_refusal f_current f_line_place f_line_black = some (o_r, o_f_refusal, o_f_current, o_f_line_place)) : Met l y_Reader_passBelow ws_Reader_passBelow RM_Reader_passBelow (va_Pc [.ref h0, .int x1] (Pg D cI cZ cJ tq (wd_Reader_passBelow cI cZ cJ tq h0 h_line h_skips h_ways h_inflow h_samples f_width f_height f_bitsRead f_rowsRead f_copyBefore f_ended f_refusal f_current f_currentIsCopy f_line_width f_line_above f_line_place f_line_black) sz)) (qI D cI cZ cJ (va_A (wd_Reader_passBelow cI cZ cJ tq h0 h_line h_skips h_ways h_inflow h_samples f_width f_height f_bitsRead f_rowsRead f_copyBefore f_ended f_refusal f_current f_currentIsCopy f_line_width f_line_above f_line_place f_line_black) sz) o_r (wd_Reader_passBelow cI cZ cJ tq h0 h_line h_skips h_ways h_inflow h_samples f_width f_height f_bitsRead f_rowsRead f_copyBefore f_ended o_f_refusal o_f_current f_currentIsCopy f_line_width f_line_above o_f_line_place f_line_black)) 0 0 (va_A (wd_Reader_passBelow cI cZ cJ tq h0 h_line h_skips h_ways h_inflow h_samples f_width f_height f_bitsRead f_rowsRead f_copyBefore f_ended f_refusal f_current f_currentIsCopy f_line_width f_line_above f_line_place f_line_black) sz) := by
  refine Met.ofW (cc := b_Reader_passBelow) (maxL := 2) (ret := (some .boolean)) (by decide) rfl ?_
  intro p e s m args below meth c s₁ B hml hv
  obtain ⟨rfl, hsz, hP, hK, hD0, hG⟩ := hv
  have hx := B.exec
  have hb := B.bytes
  have hr := B.returns
  have htw : ∀ w ∈ W_all, w.before [.ref h0, .int x1].toArray s = true := fun w h => atoms_spec (ws := ws_Reader_passBelow) B.pre w (List.mem_cons_of_mem _ h)
  have hown : s.vm.findClass R_Reader = some m.cls := findClass_of_methodNamed B.named
  have hlocks := B.notSynchronized
  subst hsz
  have hD := hD0.self (sz := s.heap.size)
  generalize hAe : va_A (wd_Reader_passBelow cI cZ cJ tq h0 h_line h_skips h_ways h_inflow h_samples f_width f_height f_bitsRead f_rowsRead f_copyBefore f_ended f_refusal f_current f_currentIsCopy f_line_width f_line_above f_line_place f_line_black) s.heap.size = A at hD hG ⊢
  have hA : ∀ q : Nat, s.heap.size ≤ q → A q := fun q h => by rw [← hAe]; exact Or.inr h
  have hS : va_S A s.heap s.heap [] := va_S.rf
  have C0 : cx p s m meth c [.ref h0, .int x1].toArray b_Reader_passBelow (some .boolean) 2 R_Reader D cI cZ cJ tq A := ⟨hx, hb, hr, hml, hown, htw, hlocks, hK, hG⟩
  have hl := lv_entry ([.ref h0, .int x1]) (n := 2) (Nat.le_of_ble_eq_true rfl)
  rw [lg_entry_eq]
  generalize (lg_sl ([.ref h0, .int x1]) ++ List.replicate (2 - (lg_sl ([.ref h0, .int x1])).length) Slot.unset).toArray = ls at hl ⊢
  have hl : lv_has ls 2 [(0, .ref h0), (1, .int x1)] := hl
  have hP : va_P D classes (wd_Reader_passBelow cI cZ cJ tq h0 h_line h_skips h_ways h_inflow h_samples f_width f_height f_bitsRead f_rowsRead f_copyBefore f_ended f_refusal f_current f_currentIsCopy f_line_width f_line_above f_line_place f_line_black) s.heap := hP
  clear hAe
  unfold F_Reader_passBelow at hf
  refine lv_iload_n hx hb d_Reader_passBelow_0 rfl (lv_at hl 1 rfl) ?_
  refine lv_aload_n hx hb d_Reader_passBelow_1 rfl (lv_at hl 0 rfl) ?_
  refine va_get (D := D) (ci := 5) (v := .ref h_line) (C := R_Reader) (T := F_Reader) (N := 14) hx hb htw i_Reader hown hK hP 0 rfl rfl 6 (by decide) (htw _ in86) (fun _ h9 => h9) rfl d_Reader_passBelow_2 ?_
  obtain ⟨r5, e5, hf⟩ := bd1_some hf
  refine g_calli (wc := (wd_FaxLine_place cI cZ cJ tq h_line f_line_width f_line_above f_line_place f_line_black)) (w1 := (wd_FaxLine_place cI cZ cJ tq h_line f_line_width f_line_above f_line_place f_line_black)) (ws' := (wd_Reader_passBelow cI cZ cJ tq h0 h_line h_skips h_ways h_inflow h_samples f_width f_height f_bitsRead f_rowsRead f_copyBefore f_ended f_refusal f_current f_currentIsCopy f_line_width f_line_above f_line_place f_line_black)) (va_runV (As := []) (rest := [.int x1]) ⟨hx, hb, hml, hown, htw⟩ (c_FaxLine_place l D cI cZ cJ tq h_line _ f_line_width f_line_above f_line_place f_line_black r5 e5) (cwV 0 htw (gd_V in132 in133 in134 in10 in131) rfl rfl rfl (by decide +kernel) ⟨Nat.le_of_ble_eq_true rfl, Nat.le_of_ble_eq_true rfl⟩) (preV_of (ci := 1) (q0 := 1) hG hS (va_free (wc := (wd_FaxLine_place cI cZ cJ tq h_line f_line_width f_line_above f_line_place f_line_black)) hD hS hA [1] rfl) hK hP rfl rfl (hP.sub (ws' := (wd_FaxLine_place cI cZ cJ tq h_line f_line_width f_line_above f_line_place f_line_black)) [1] rfl) (hD.sub (ws' := (wd_FaxLine_place cI cZ cJ tq h_line f_line_width f_line_above f_line_place f_line_black)) [1] (by decide) rfl)) rfl rfl hl.1 rfl (lv_room (Nat.le_of_ble_eq_true rfl)) d_Reader_passBelow_5 ⟨Nat.le_of_ble_eq_true rfl, Nat.le_of_ble_eq_true rfl⟩) hP hD hS hA [1] [0] [0, 1] rfl rfl (by decide) (by decide) (by decide) rfl (fun H locs hP hD hS => ?_)
  refine lv_icmp_le (tgt := 19) hx hb d_Reader_passBelow_8 (by decide) (fun c8 => ?_) (fun c8 => ?_)
  · have hf := it_t hf c8
    refine lv_aload_n hx hb d_Reader_passBelow_19 rfl (lv_at hl 0 rfl) ?_
    refine lv_iconst (v := 1) hx hb d_Reader_passBelow_20 (by decide) ?_
    refine va_put (D := D) (ci := 5) (v := .int 1) (ty := .int) (C := R_Reader) (T := F_Reader) (N := 14) hx hb htw i_Reader t_Reader t_Reader_ok n_Reader hown hK hP hD hS 0 rfl rfl 11 (by decide) (htw _ in69) (fun _ h9 => h9) rfl (by decide +kernel) rfl rfl (Nat.le_of_ble_eq_true rfl) d_Reader_passBelow_21 (fun H locs hP hD hS => ?_)
    have hP : va_P D classes (wd_Reader_passBelow cI cZ cJ tq h0 h_line h_skips h_ways h_inflow h_samples f_width f_height f_bitsRead f_rowsRead f_copyBefore f_ended 1 f_current f_currentIsCopy f_line_width f_line_above f_line_place f_line_black) H := hP
    have hD : va_D A (wd_Reader_passBelow cI cZ cJ tq h0 h_line h_skips h_ways h_inflow h_samples f_width f_height f_bitsRead f_rowsRead f_copyBefore f_ended 1 f_current f_currentIsCopy f_line_width f_line_above f_line_place f_line_black) := hD
    refine lv_iconst (v := 0) hx hb d_Reader_passBelow_24 (by decide) ?_
    obtain ⟨e0, e1, e2, e3⟩ := so4 hf
    subst e0; subst e1; subst e2; subst e3
    exact W.zret (v := 0) hx hb hr rfl (fun t ht hW => ⟨⟨_, (), rfl, rfl, by rw [ht]; exact hP, va_K.moved hW.alike hK, hD⟩, hS.F ht⟩) hS.2.2 d_Reader_passBelow_25 hlocks
  · have hf := it_f hf c8
    refine lv_iload_n hx hb d_Reader_passBelow_11 rfl (lv_at hl 1 rfl) ?_
    refine lv_aload_n hx hb d_Reader_passBelow_12 rfl (lv_at hl 0 rfl) ?_
    refine va_get (D := D) (ci := 5) (v := .int f_width) (C := R_Reader) (T := F_Reader) (N := 14) hx hb htw i_Reader hown hK hP 0 rfl rfl 0 (by decide) (htw _ in70) (fun _ h9 => h9) rfl d_Reader_passBelow_13 ?_
    refine lv_icmp_lt (tgt := 26) hx hb d_Reader_passBelow_16 (by decide) (fun c16 => ?_) (fun c16 => ?_)
    · have hf := it_t hf c16
      refine lv_aload_n hx hb d_Reader_passBelow_26 rfl (lv_at hl 0 rfl) ?_
      refine lv_aload_n hx hb d_Reader_passBelow_27 rfl (lv_at hl 0 rfl) ?_
      refine va_get (D := D) (ci := 5) (v := .ref h_line) (C := R_Reader) (T := F_Reader) (N := 14) hx hb htw i_Reader hown hK hP 0 rfl rfl 6 (by decide) (htw _ in86) (fun _ h9 => h9) rfl d_Reader_passBelow_28 ?_
      obtain ⟨r31, e31, hf⟩ := bd1_some hf
      refine g_calli (wc := (wd_FaxLine_place cI cZ cJ tq h_line f_line_width f_line_above f_line_place f_line_black)) (w1 := (wd_FaxLine_place cI cZ cJ tq h_line f_line_width f_line_above f_line_place f_line_black)) (ws' := (wd_Reader_passBelow cI cZ cJ tq h0 h_line h_skips h_ways h_inflow h_samples f_width f_height f_bitsRead f_rowsRead f_copyBefore f_ended f_refusal f_current f_currentIsCopy f_line_width f_line_above f_line_place f_line_black)) (va_runV (As := []) (rest := [.ref h0]) ⟨hx, hb, hml, hown, htw⟩ (c_FaxLine_place l D cI cZ cJ tq h_line _ f_line_width f_line_above f_line_place f_line_black r31 e31) (cwV 0 htw (gd_V in132 in133 in134 in10 in131) rfl rfl rfl (by decide +kernel) ⟨Nat.le_of_ble_eq_true rfl, Nat.le_of_ble_eq_true rfl⟩) (preV_of (ci := 1) (q0 := 1) hG hS (va_free (wc := (wd_FaxLine_place cI cZ cJ tq h_line f_line_width f_line_above f_line_place f_line_black)) hD hS hA [1] rfl) hK hP rfl rfl (hP.sub (ws' := (wd_FaxLine_place cI cZ cJ tq h_line f_line_width f_line_above f_line_place f_line_black)) [1] rfl) (hD.sub (ws' := (wd_FaxLine_place cI cZ cJ tq h_line f_line_width f_line_above f_line_place f_line_black)) [1] (by decide) rfl)) rfl rfl hl.1 rfl (lv_room (Nat.le_of_ble_eq_true rfl)) d_Reader_passBelow_31 ⟨Nat.le_of_ble_eq_true rfl, Nat.le_of_ble_eq_true rfl⟩) hP hD hS hA [1] [0] [0, 1] rfl rfl (by decide) (by decide) (by decide) rfl (fun H locs hP hD hS => ?_)
      refine lv_iload_n hx hb d_Reader_passBelow_34 rfl (lv_at hl 1 rfl) ?_
      refine lv_aload_n hx hb d_Reader_passBelow_35 rfl (lv_at hl 0 rfl) ?_
      refine va_get (D := D) (ci := 5) (v := .ref h_line) (C := R_Reader) (T := F_Reader) (N := 14) hx hb htw i_Reader hown hK hP 0 rfl rfl 6 (by decide) (htw _ in86) (fun _ h9 => h9) rfl d_Reader_passBelow_36 ?_
      obtain ⟨r39, e39, hf⟩ := bd1_some hf
      refine g_calli (wc := (wd_FaxLine_black cI cZ cJ tq h_line f_line_width f_line_above f_line_place f_line_black)) (w1 := (wd_FaxLine_black cI cZ cJ tq h_line f_line_width f_line_above f_line_place f_line_black)) (ws' := (wd_Reader_passBelow cI cZ cJ tq h0 h_line h_skips h_ways h_inflow h_samples f_width f_height f_bitsRead f_rowsRead f_copyBefore f_ended f_refusal f_current f_currentIsCopy f_line_width f_line_above f_line_place f_line_black)) (va_runV (As := []) (rest := [.int x1, .int r31, .ref h0]) ⟨hx, hb, hml, hown, htw⟩ (c_FaxLine_black l D cI cZ cJ tq h_line _ f_line_width f_line_above f_line_place f_line_black r39 e39) (cwV 0 htw (gd_V in136 in137 in138 in10 in135) rfl rfl rfl (by decide +kernel) ⟨Nat.le_of_ble_eq_true rfl, Nat.le_of_ble_eq_true rfl⟩) (preV_of (ci := 1) (q0 := 1) hG hS (va_free (wc := (wd_FaxLine_black cI cZ cJ tq h_line f_line_width f_line_above f_line_place f_line_black)) hD hS hA [1] rfl) hK hP rfl rfl (hP.sub (ws' := (wd_FaxLine_black cI cZ cJ tq h_line f_line_width f_line_above f_line_place f_line_black)) [1] rfl) (hD.sub (ws' := (wd_FaxLine_black cI cZ cJ tq h_line f_line_width f_line_above f_line_place f_line_black)) [1] (by decide) rfl)) rfl rfl hl.1 rfl (lv_room (Nat.le_of_ble_eq_true rfl)) d_Reader_passBelow_39 ⟨Nat.le_of_ble_eq_true rfl, Nat.le_of_ble_eq_true rfl⟩) hP hD hS hA [1] [0] [0, 1] rfl rfl (by decide) (by decide) (by decide) rfl (fun H locs hP hD hS => ?_)
      obtain ⟨w42_f_current, e42, hf⟩ := bd1_some hf
      refine g_callv (wc := (wd_Reader_paint cI cZ cJ tq h0 h_skips h_ways h_inflow h_samples h_line f_width f_height f_bitsRead f_rowsRead f_copyBefore f_ended f_refusal f_current f_currentIsCopy)) (w1 := (wd_Reader_paint cI cZ cJ tq h0 h_skips h_ways h_inflow h_samples h_line f_width f_height f_bitsRead f_rowsRead f_copyBefore f_ended f_refusal w42_f_current f_currentIsCopy)) (ws' := (wd_Reader_passBelow cI cZ cJ tq h0 h_line h_skips h_ways h_inflow h_samples f_width f_height f_bitsRead f_rowsRead f_copyBefore f_ended f_refusal w42_f_current f_currentIsCopy f_line_width f_line_above f_line_place f_line_black)) (va_runV (As := [.int r31, .int x1, .int r39]) (rest := []) ⟨hx, hb, hml, hown, htw⟩ (c_Reader_paint l D cI cZ cJ tq k h0 h_skips h_ways h_inflow h_samples h_line _ f_width f_height f_bitsRead f_rowsRead f_copyBefore f_ended f_refusal f_current f_currentIsCopy r31 x1 r39 w42_f_current e42) (cwV 3 htw (gd_V in140 in141 in142 in121 in139) rfl rfl rfl (by decide +kernel) ⟨Nat.le_of_ble_eq_true rfl, Nat.le_of_ble_eq_true rfl⟩) (preV_of (ci := 5) (q0 := 0) hG hS (va_free (wc := (wd_Reader_paint cI cZ cJ tq h0 h_skips h_ways h_inflow h_samples h_line f_width f_height f_bitsRead f_rowsRead f_copyBefore f_ended f_refusal f_current f_currentIsCopy)) hD hS hA [0] rfl) hK hP rfl rfl (hP.sub (ws' := (wd_Reader_paint cI cZ cJ tq h0 h_skips h_ways h_inflow h_samples h_line f_width f_height f_bitsRead f_rowsRead f_copyBefore f_ended f_refusal f_current f_currentIsCopy)) [0] rfl) (hD.sub (ws' := (wd_Reader_paint cI cZ cJ tq h0 h_skips h_ways h_inflow h_samples h_line f_width f_height f_bitsRead f_rowsRead f_copyBefore f_ended f_refusal f_current f_currentIsCopy)) [0] (by decide) rfl)) rfl rfl hl.1 rfl (lv_room (Nat.le_of_ble_eq_true rfl)) d_Reader_passBelow_42 ⟨Nat.le_of_ble_eq_true rfl, Nat.le_of_ble_eq_true rfl⟩) hP hD hS hA [0] [1] [1, 0] rfl rfl (by decide) (by decide) (by decide) rfl (fun H locs hP hD hS => ?_)
      refine lv_aload_n hx hb d_Reader_passBelow_45 rfl (lv_at hl 0 rfl) ?_
      refine va_get (D := D) (ci := 5) (v := .ref h_line) (C := R_Reader) (T := F_Reader) (N := 14) hx hb htw i_Reader hown hK hP 0 rfl rfl 6 (by decide) (htw _ in86) (fun _ h9 => h9) rfl d_Reader_passBelow_46 ?_
      refine lv_iload_n hx hb d_Reader_passBelow_49 rfl (lv_at hl 1 rfl) ?_
      obtain ⟨w50_f_place, e50, hf⟩ := bd1_some hf
      refine g_callv (wc := (wd_FaxLine_goTo cI cZ cJ tq h_line f_line_width f_line_above f_line_place f_line_black)) (w1 := (wd_FaxLine_goTo cI cZ cJ tq h_line f_line_width f_line_above w50_f_place f_line_black)) (ws' := (wd_Reader_passBelow cI cZ cJ tq h0 h_line h_skips h_ways h_inflow h_samples f_width f_height f_bitsRead f_rowsRead f_copyBefore f_ended f_refusal w42_f_current f_currentIsCopy f_line_width f_line_above w50_f_place f_line_black)) (va_runV (As := [.int x1]) (rest := []) ⟨hx, hb, hml, hown, htw⟩ (c_FaxLine_goTo l D cI cZ cJ tq h_line _ f_line_width f_line_above f_line_place f_line_black x1 w50_f_place e50) (cwV 1 htw (gd_V in144 in145 in146 in10 in143) rfl rfl rfl (by decide +kernel) ⟨Nat.le_of_ble_eq_true rfl, Nat.le_of_ble_eq_true rfl⟩) (preV_of (ci := 1) (q0 := 1) hG hS (va_free (wc := (wd_FaxLine_goTo cI cZ cJ tq h_line f_line_width f_line_above f_line_place f_line_black)) hD hS hA [1] rfl) hK hP rfl rfl (hP.sub (ws' := (wd_FaxLine_goTo cI cZ cJ tq h_line f_line_width f_line_above f_line_place f_line_black)) [1] rfl) (hD.sub (ws' := (wd_FaxLine_goTo cI cZ cJ tq h_line f_line_width f_line_above f_line_place f_line_black)) [1] (by decide) rfl)) rfl rfl hl.1 rfl (lv_room (Nat.le_of_ble_eq_true rfl)) d_Reader_passBelow_50 ⟨Nat.le_of_ble_eq_true rfl, Nat.le_of_ble_eq_true rfl⟩) hP hD hS hA [1] [0] [0, 1] rfl rfl (by decide) (by decide) (by decide) rfl (fun H locs hP hD hS => ?_)
      refine lv_iconst (v := 1) hx hb d_Reader_passBelow_53 (by decide) ?_
      obtain ⟨e0, e1, e2, e3⟩ := so4 hf
      subst e0; subst e1; subst e2; subst e3
      exact W.zret (v := 1) hx hb hr rfl (fun t ht hW => ⟨⟨_, (), rfl, rfl, by rw [ht]; exact hP, va_K.moved hW.alike hK, hD⟩, hS.F ht⟩) hS.2.2 d_Reader_passBelow_54 hlocks
    · have hf := it_f hf c16
      refine lv_aload_n hx hb d_Reader_passBelow_19 rfl (lv_at hl 0 rfl) ?_
      refine lv_iconst (v := 1) hx hb d_Reader_passBelow_20 (by decide) ?_
      refine va_put (D := D) (ci := 5) (v := .int 1) (ty := .int) (C := R_Reader) (T := F_Reader) (N := 14) hx hb htw i_Reader t_Reader t_Reader_ok n_Reader hown hK hP hD hS 0 rfl rfl 11 (by decide) (htw _ in69) (fun _ h9 => h9) rfl (by decide +kernel) rfl rfl (Nat.le_of_ble_eq_true rfl) d_Reader_passBelow_21 (fun H locs hP hD hS => ?_)
      have hP : va_P D classes (wd_Reader_passBelow cI cZ cJ tq h0 h_line h_skips h_ways h_inflow h_samples f_width f_height f_bitsRead f_rowsRead f_copyBefore f_ended 1 f_current f_currentIsCopy f_line_width f_line_above f_line_place f_line_black) H := hP
      have hD : va_D A (wd_Reader_passBelow cI cZ cJ tq h0 h_line h_skips h_ways h_inflow h_samples f_width f_height f_bitsRead f_rowsRead f_copyBefore f_ended 1 f_current f_currentIsCopy f_line_width f_line_above f_line_place f_line_black) := hD
      refine lv_iconst (v := 0) hx hb d_Reader_passBelow_24 (by decide) ?_
      obtain ⟨e0, e1, e2, e3⟩ := so4 hf
      subst e0; subst e1; subst e2; subst e3
      exact W.zret (v := 0) hx hb hr rfl (fun t ht hW => ⟨⟨_, (), rfl, rfl, by rw [ht]; exact hP, va_K.moved hW.alike hK, hD⟩, hS.F ht⟩) hS.2.2 d_Reader_passBelow_25 hlocks
-- Reader_turnNear
abbrev RM_Reader_turnNear : Room := { frames := 2, cells := 0, slots := 0, locals := 48 }
def ws_Reader_turnNear : List Cond := .code y_Reader_turnNear b_Reader_turnNear 2 (some .boolean) :: W_all
def wd_Reader_turnNear (cI cZ cJ : ClassId) (tq : Nat → Nat) (h0 : Nat) (h_line : Nat) (h_skips : Nat) (h_ways : Nat) (h_inflow : Nat) (h_samples : Nat) (f_width : Int32) (f_height : Int32) (f_bitsRead : Int32) (f_rowsRead : Int32) (f_copyBefore : Int32) (f_ended : Int32) (f_refusal : Int32) (f_current : Int32) (f_currentIsCopy : Int32) (f_line_width : Int32) (f_line_above : Int32) (f_line_place : Int32) (f_line_black : Int32) : va_W := [(h0, .inr (5, [.int f_width, .int f_height, .ref h_skips, .ref h_ways, .ref h_inflow, .ref h_samples, .ref h_line, .int f_bitsRead, .int f_rowsRead, .int f_copyBefore, .int f_ended, .int f_refusal, .int f_current, .int f_currentIsCopy])), (h_line, .inr (1, [.int f_line_width, .int f_line_above, .int f_line_place, .int f_line_black]))]
def F_Reader_turnNear (k : Nat) (x1 : Int32) (f_width : Int32) (f_refusal : Int32) (f_current : Int32) (f_line_place : Int32) (f_line_black : Int32) : Option (Int32 × Int32 × Int32 × Int32 × Int32) :=
  (bd1 (F_FaxLine_place f_line_place) (fun r5 => (if x1 ≤ r5 then (some (0, 1, f_current, f_line_place, f_line_black)) else (if x1 ≤ f_width then (bd1 (F_FaxLine_place f_line_place) (fun r31 => (bd1 (F_FaxLine_black f_line_black) (fun r39 => (bd1 (F_Reader_paint k r31 x1 r39 f_current) (fun w42_f_current => (bd2 (F_FaxLine_turnAt x1 f_line_place f_line_black) (fun w50_f_place w50_f_black => (some (1, f_refusal, w42_f_current, w50_f_place, w50_f_black)))))))))) else (some (0, 1, f_current, f_line_place, f_line_black))))))
set_option maxHeartbeats 4000000 in
set_option maxRecDepth 100000 in
theorem c_Reader_turnNear (l : Launch) (D : va_G) (cI cZ cJ : ClassId) (tq : Nat → Nat) (k : Nat) (h0 : Nat) (h_line : Nat) (h_skips : Nat) (h_ways : Nat) (h_inflow : Nat) (h_samples : Nat) (sz : Nat) (f_width : Int32) (f_height : Int32) (f_bitsRead : Int32) (f_rowsRead : Int32) (f_copyBefore : Int32) (f_ended : Int32) (f_refusal : Int32) (f_current : Int32) (f_currentIsCopy : Int32) (f_line_width : Int32) (f_line_above : Int32) (f_line_place : Int32) (f_line_black : Int32) (x1 : Int32) (o_r : Int32) (o_f_refusal : Int32) (o_f_current : Int32) (o_f_line_place : Int32) (o_f_line_black : Int32) (hf : F_Reader_turnNear k x1 f_width f_refusal f_current f_line_place f_line_black = some (o_r, o_f_refusal, o_f_current, o_f_line_place, o_f_line_black)) : Met l y_Reader_turnNear ws_Reader_turnNear RM_Reader_turnNear (va_Pc [.ref h0, .int x1] (Pg D cI cZ cJ tq (wd_Reader_turnNear cI cZ cJ tq h0 h_line h_skips h_ways h_inflow h_samples f_width f_height f_bitsRead f_rowsRead f_copyBefore f_ended f_refusal f_current f_currentIsCopy f_line_width f_line_above f_line_place f_line_black) sz)) (qI D cI cZ cJ (va_A (wd_Reader_turnNear cI cZ cJ tq h0 h_line h_skips h_ways h_inflow h_samples f_width f_height f_bitsRead f_rowsRead f_copyBefore f_ended f_refusal f_current f_currentIsCopy f_line_width f_line_above f_line_place f_line_black) sz) o_r (wd_Reader_turnNear cI cZ cJ tq h0 h_line h_skips h_ways h_inflow h_samples f_width f_height f_bitsRead f_rowsRead f_copyBefore f_ended o_f_refusal o_f_current f_currentIsCopy f_line_width f_line_above o_f_line_place o_f_line_black)) 0 0 (va_A (wd_Reader_turnNear cI cZ cJ tq h0 h_line h_skips h_ways h_inflow h_samples f_width f_height f_bitsRead f_rowsRead f_copyBefore f_ended f_refusal f_current f_currentIsCopy f_line_width f_line_above f_line_place f_line_black) sz) := by
  refine Met.ofW (cc := b_Reader_turnNear) (maxL := 2) (ret := (some .boolean)) (by decide) rfl ?_
  intro p e s m args below meth c s₁ B hml hv
  obtain ⟨rfl, hsz, hP, hK, hD0, hG⟩ := hv
  have hx := B.exec
  have hb := B.bytes
  have hr := B.returns
  have htw : ∀ w ∈ W_all, w.before [.ref h0, .int x1].toArray s = true := fun w h => atoms_spec (ws := ws_Reader_turnNear) B.pre w (List.mem_cons_of_mem _ h)
  have hown : s.vm.findClass R_Reader = some m.cls := findClass_of_methodNamed B.named
  have hlocks := B.notSynchronized
  subst hsz
  have hD := hD0.self (sz := s.heap.size)
  generalize hAe : va_A (wd_Reader_turnNear cI cZ cJ tq h0 h_line h_skips h_ways h_inflow h_samples f_width f_height f_bitsRead f_rowsRead f_copyBefore f_ended f_refusal f_current f_currentIsCopy f_line_width f_line_above f_line_place f_line_black) s.heap.size = A at hD hG ⊢
  have hA : ∀ q : Nat, s.heap.size ≤ q → A q := fun q h => by rw [← hAe]; exact Or.inr h
  have hS : va_S A s.heap s.heap [] := va_S.rf
  have C0 : cx p s m meth c [.ref h0, .int x1].toArray b_Reader_turnNear (some .boolean) 2 R_Reader D cI cZ cJ tq A := ⟨hx, hb, hr, hml, hown, htw, hlocks, hK, hG⟩
  have hl := lv_entry ([.ref h0, .int x1]) (n := 2) (Nat.le_of_ble_eq_true rfl)
  rw [lg_entry_eq]
  generalize (lg_sl ([.ref h0, .int x1]) ++ List.replicate (2 - (lg_sl ([.ref h0, .int x1])).length) Slot.unset).toArray = ls at hl ⊢
  have hl : lv_has ls 2 [(0, .ref h0), (1, .int x1)] := hl
  have hP : va_P D classes (wd_Reader_turnNear cI cZ cJ tq h0 h_line h_skips h_ways h_inflow h_samples f_width f_height f_bitsRead f_rowsRead f_copyBefore f_ended f_refusal f_current f_currentIsCopy f_line_width f_line_above f_line_place f_line_black) s.heap := hP
  clear hAe
  unfold F_Reader_turnNear at hf
  refine lv_iload_n hx hb d_Reader_turnNear_0 rfl (lv_at hl 1 rfl) ?_
  refine lv_aload_n hx hb d_Reader_turnNear_1 rfl (lv_at hl 0 rfl) ?_
  refine va_get (D := D) (ci := 5) (v := .ref h_line) (C := R_Reader) (T := F_Reader) (N := 14) hx hb htw i_Reader hown hK hP 0 rfl rfl 6 (by decide) (htw _ in86) (fun _ h9 => h9) rfl d_Reader_turnNear_2 ?_
  obtain ⟨r5, e5, hf⟩ := bd1_some hf
  refine g_calli (wc := (wd_FaxLine_place cI cZ cJ tq h_line f_line_width f_line_above f_line_place f_line_black)) (w1 := (wd_FaxLine_place cI cZ cJ tq h_line f_line_width f_line_above f_line_place f_line_black)) (ws' := (wd_Reader_turnNear cI cZ cJ tq h0 h_line h_skips h_ways h_inflow h_samples f_width f_height f_bitsRead f_rowsRead f_copyBefore f_ended f_refusal f_current f_currentIsCopy f_line_width f_line_above f_line_place f_line_black)) (va_runV (As := []) (rest := [.int x1]) ⟨hx, hb, hml, hown, htw⟩ (c_FaxLine_place l D cI cZ cJ tq h_line _ f_line_width f_line_above f_line_place f_line_black r5 e5) (cwV 0 htw (gd_V in132 in133 in134 in10 in131) rfl rfl rfl (by decide +kernel) ⟨Nat.le_of_ble_eq_true rfl, Nat.le_of_ble_eq_true rfl⟩) (preV_of (ci := 1) (q0 := 1) hG hS (va_free (wc := (wd_FaxLine_place cI cZ cJ tq h_line f_line_width f_line_above f_line_place f_line_black)) hD hS hA [1] rfl) hK hP rfl rfl (hP.sub (ws' := (wd_FaxLine_place cI cZ cJ tq h_line f_line_width f_line_above f_line_place f_line_black)) [1] rfl) (hD.sub (ws' := (wd_FaxLine_place cI cZ cJ tq h_line f_line_width f_line_above f_line_place f_line_black)) [1] (by decide) rfl)) rfl rfl hl.1 rfl (lv_room (Nat.le_of_ble_eq_true rfl)) d_Reader_turnNear_5 ⟨Nat.le_of_ble_eq_true rfl, Nat.le_of_ble_eq_true rfl⟩) hP hD hS hA [1] [0] [0, 1] rfl rfl (by decide) (by decide) (by decide) rfl (fun H locs hP hD hS => ?_)
  refine lv_icmp_le (tgt := 19) hx hb d_Reader_turnNear_8 (by decide) (fun c8 => ?_) (fun c8 => ?_)
  · have hf := it_t hf c8
    refine lv_aload_n hx hb d_Reader_turnNear_19 rfl (lv_at hl 0 rfl) ?_
    refine lv_iconst (v := 1) hx hb d_Reader_turnNear_20 (by decide) ?_
    refine va_put (D := D) (ci := 5) (v := .int 1) (ty := .int) (C := R_Reader) (T := F_Reader) (N := 14) hx hb htw i_Reader t_Reader t_Reader_ok n_Reader hown hK hP hD hS 0 rfl rfl 11 (by decide) (htw _ in69) (fun _ h9 => h9) rfl (by decide +kernel) rfl rfl (Nat.le_of_ble_eq_true rfl) d_Reader_turnNear_21 (fun H locs hP hD hS => ?_)
    have hP : va_P D classes (wd_Reader_turnNear cI cZ cJ tq h0 h_line h_skips h_ways h_inflow h_samples f_width f_height f_bitsRead f_rowsRead f_copyBefore f_ended 1 f_current f_currentIsCopy f_line_width f_line_above f_line_place f_line_black) H := hP
    have hD : va_D A (wd_Reader_turnNear cI cZ cJ tq h0 h_line h_skips h_ways h_inflow h_samples f_width f_height f_bitsRead f_rowsRead f_copyBefore f_ended 1 f_current f_currentIsCopy f_line_width f_line_above f_line_place f_line_black) := hD
    refine lv_iconst (v := 0) hx hb d_Reader_turnNear_24 (by decide) ?_
    obtain ⟨e0, e1, e2, e3, e4⟩ := so5 hf
    subst e0; subst e1; subst e2; subst e3; subst e4
    exact W.zret (v := 0) hx hb hr rfl (fun t ht hW => ⟨⟨_, (), rfl, rfl, by rw [ht]; exact hP, va_K.moved hW.alike hK, hD⟩, hS.F ht⟩) hS.2.2 d_Reader_turnNear_25 hlocks
  · have hf := it_f hf c8
    refine lv_iload_n hx hb d_Reader_turnNear_11 rfl (lv_at hl 1 rfl) ?_
    refine lv_aload_n hx hb d_Reader_turnNear_12 rfl (lv_at hl 0 rfl) ?_
    refine va_get (D := D) (ci := 5) (v := .int f_width) (C := R_Reader) (T := F_Reader) (N := 14) hx hb htw i_Reader hown hK hP 0 rfl rfl 0 (by decide) (htw _ in70) (fun _ h9 => h9) rfl d_Reader_turnNear_13 ?_
    refine lv_icmp_le (tgt := 26) hx hb d_Reader_turnNear_16 (by decide) (fun c16 => ?_) (fun c16 => ?_)
    · have hf := it_t hf c16
      refine lv_aload_n hx hb d_Reader_turnNear_26 rfl (lv_at hl 0 rfl) ?_
      refine lv_aload_n hx hb d_Reader_turnNear_27 rfl (lv_at hl 0 rfl) ?_
      refine va_get (D := D) (ci := 5) (v := .ref h_line) (C := R_Reader) (T := F_Reader) (N := 14) hx hb htw i_Reader hown hK hP 0 rfl rfl 6 (by decide) (htw _ in86) (fun _ h9 => h9) rfl d_Reader_turnNear_28 ?_
      obtain ⟨r31, e31, hf⟩ := bd1_some hf
      refine g_calli (wc := (wd_FaxLine_place cI cZ cJ tq h_line f_line_width f_line_above f_line_place f_line_black)) (w1 := (wd_FaxLine_place cI cZ cJ tq h_line f_line_width f_line_above f_line_place f_line_black)) (ws' := (wd_Reader_turnNear cI cZ cJ tq h0 h_line h_skips h_ways h_inflow h_samples f_width f_height f_bitsRead f_rowsRead f_copyBefore f_ended f_refusal f_current f_currentIsCopy f_line_width f_line_above f_line_place f_line_black)) (va_runV (As := []) (rest := [.ref h0]) ⟨hx, hb, hml, hown, htw⟩ (c_FaxLine_place l D cI cZ cJ tq h_line _ f_line_width f_line_above f_line_place f_line_black r31 e31) (cwV 0 htw (gd_V in132 in133 in134 in10 in131) rfl rfl rfl (by decide +kernel) ⟨Nat.le_of_ble_eq_true rfl, Nat.le_of_ble_eq_true rfl⟩) (preV_of (ci := 1) (q0 := 1) hG hS (va_free (wc := (wd_FaxLine_place cI cZ cJ tq h_line f_line_width f_line_above f_line_place f_line_black)) hD hS hA [1] rfl) hK hP rfl rfl (hP.sub (ws' := (wd_FaxLine_place cI cZ cJ tq h_line f_line_width f_line_above f_line_place f_line_black)) [1] rfl) (hD.sub (ws' := (wd_FaxLine_place cI cZ cJ tq h_line f_line_width f_line_above f_line_place f_line_black)) [1] (by decide) rfl)) rfl rfl hl.1 rfl (lv_room (Nat.le_of_ble_eq_true rfl)) d_Reader_turnNear_31 ⟨Nat.le_of_ble_eq_true rfl, Nat.le_of_ble_eq_true rfl⟩) hP hD hS hA [1] [0] [0, 1] rfl rfl (by decide) (by decide) (by decide) rfl (fun H locs hP hD hS => ?_)
      refine lv_iload_n hx hb d_Reader_turnNear_34 rfl (lv_at hl 1 rfl) ?_
      refine lv_aload_n hx hb d_Reader_turnNear_35 rfl (lv_at hl 0 rfl) ?_
      refine va_get (D := D) (ci := 5) (v := .ref h_line) (C := R_Reader) (T := F_Reader) (N := 14) hx hb htw i_Reader hown hK hP 0 rfl rfl 6 (by decide) (htw _ in86) (fun _ h9 => h9) rfl d_Reader_turnNear_36 ?_
      obtain ⟨r39, e39, hf⟩ := bd1_some hf
      refine g_calli (wc := (wd_FaxLine_black cI cZ cJ tq h_line f_line_width f_line_above f_line_place f_line_black)) (w1 := (wd_FaxLine_black cI cZ cJ tq h_line f_line_width f_line_above f_line_place f_line_black)) (ws' := (wd_Reader_turnNear cI cZ cJ tq h0 h_line h_skips h_ways h_inflow h_samples f_width f_height f_bitsRead f_rowsRead f_copyBefore f_ended f_refusal f_current f_currentIsCopy f_line_width f_line_above f_line_place f_line_black)) (va_runV (As := []) (rest := [.int x1, .int r31, .ref h0]) ⟨hx, hb, hml, hown, htw⟩ (c_FaxLine_black l D cI cZ cJ tq h_line _ f_line_width f_line_above f_line_place f_line_black r39 e39) (cwV 0 htw (gd_V in136 in137 in138 in10 in135) rfl rfl rfl (by decide +kernel) ⟨Nat.le_of_ble_eq_true rfl, Nat.le_of_ble_eq_true rfl⟩) (preV_of (ci := 1) (q0 := 1) hG hS (va_free (wc := (wd_FaxLine_black cI cZ cJ tq h_line f_line_width f_line_above f_line_place f_line_black)) hD hS hA [1] rfl) hK hP rfl rfl (hP.sub (ws' := (wd_FaxLine_black cI cZ cJ tq h_line f_line_width f_line_above f_line_place f_line_black)) [1] rfl) (hD.sub (ws' := (wd_FaxLine_black cI cZ cJ tq h_line f_line_width f_line_above f_line_place f_line_black)) [1] (by decide) rfl)) rfl rfl hl.1 rfl (lv_room (Nat.le_of_ble_eq_true rfl)) d_Reader_turnNear_39 ⟨Nat.le_of_ble_eq_true rfl, Nat.le_of_ble_eq_true rfl⟩) hP hD hS hA [1] [0] [0, 1] rfl rfl (by decide) (by decide) (by decide) rfl (fun H locs hP hD hS => ?_)
      obtain ⟨w42_f_current, e42, hf⟩ := bd1_some hf
      refine g_callv (wc := (wd_Reader_paint cI cZ cJ tq h0 h_skips h_ways h_inflow h_samples h_line f_width f_height f_bitsRead f_rowsRead f_copyBefore f_ended f_refusal f_current f_currentIsCopy)) (w1 := (wd_Reader_paint cI cZ cJ tq h0 h_skips h_ways h_inflow h_samples h_line f_width f_height f_bitsRead f_rowsRead f_copyBefore f_ended f_refusal w42_f_current f_currentIsCopy)) (ws' := (wd_Reader_turnNear cI cZ cJ tq h0 h_line h_skips h_ways h_inflow h_samples f_width f_height f_bitsRead f_rowsRead f_copyBefore f_ended f_refusal w42_f_current f_currentIsCopy f_line_width f_line_above f_line_place f_line_black)) (va_runV (As := [.int r31, .int x1, .int r39]) (rest := []) ⟨hx, hb, hml, hown, htw⟩ (c_Reader_paint l D cI cZ cJ tq k h0 h_skips h_ways h_inflow h_samples h_line _ f_width f_height f_bitsRead f_rowsRead f_copyBefore f_ended f_refusal f_current f_currentIsCopy r31 x1 r39 w42_f_current e42) (cwV 3 htw (gd_V in140 in141 in142 in121 in139) rfl rfl rfl (by decide +kernel) ⟨Nat.le_of_ble_eq_true rfl, Nat.le_of_ble_eq_true rfl⟩) (preV_of (ci := 5) (q0 := 0) hG hS (va_free (wc := (wd_Reader_paint cI cZ cJ tq h0 h_skips h_ways h_inflow h_samples h_line f_width f_height f_bitsRead f_rowsRead f_copyBefore f_ended f_refusal f_current f_currentIsCopy)) hD hS hA [0] rfl) hK hP rfl rfl (hP.sub (ws' := (wd_Reader_paint cI cZ cJ tq h0 h_skips h_ways h_inflow h_samples h_line f_width f_height f_bitsRead f_rowsRead f_copyBefore f_ended f_refusal f_current f_currentIsCopy)) [0] rfl) (hD.sub (ws' := (wd_Reader_paint cI cZ cJ tq h0 h_skips h_ways h_inflow h_samples h_line f_width f_height f_bitsRead f_rowsRead f_copyBefore f_ended f_refusal f_current f_currentIsCopy)) [0] (by decide) rfl)) rfl rfl hl.1 rfl (lv_room (Nat.le_of_ble_eq_true rfl)) d_Reader_turnNear_42 ⟨Nat.le_of_ble_eq_true rfl, Nat.le_of_ble_eq_true rfl⟩) hP hD hS hA [0] [1] [1, 0] rfl rfl (by decide) (by decide) (by decide) rfl (fun H locs hP hD hS => ?_)
      refine lv_aload_n hx hb d_Reader_turnNear_45 rfl (lv_at hl 0 rfl) ?_
      refine va_get (D := D) (ci := 5) (v := .ref h_line) (C := R_Reader) (T := F_Reader) (N := 14) hx hb htw i_Reader hown hK hP 0 rfl rfl 6 (by decide) (htw _ in86) (fun _ h9 => h9) rfl d_Reader_turnNear_46 ?_
      refine lv_iload_n hx hb d_Reader_turnNear_49 rfl (lv_at hl 1 rfl) ?_
      obtain ⟨w50_f_place, w50_f_black, e50, hf⟩ := bd2_some hf
      refine g_callv (wc := (wd_FaxLine_turnAt cI cZ cJ tq h_line f_line_width f_line_above f_line_place f_line_black)) (w1 := (wd_FaxLine_turnAt cI cZ cJ tq h_line f_line_width f_line_above w50_f_place w50_f_black)) (ws' := (wd_Reader_turnNear cI cZ cJ tq h0 h_line h_skips h_ways h_inflow h_samples f_width f_height f_bitsRead f_rowsRead f_copyBefore f_ended f_refusal w42_f_current f_currentIsCopy f_line_width f_line_above w50_f_place w50_f_black)) (va_runV (As := [.int x1]) (rest := []) ⟨hx, hb, hml, hown, htw⟩ (c_FaxLine_turnAt l D cI cZ cJ tq h_line _ f_line_width f_line_above f_line_place f_line_black x1 w50_f_place w50_f_black e50) (cwV 1 htw (gd_V in148 in149 in150 in10 in147) rfl rfl rfl (by decide +kernel) ⟨Nat.le_of_ble_eq_true rfl, Nat.le_of_ble_eq_true rfl⟩) (preV_of (ci := 1) (q0 := 1) hG hS (va_free (wc := (wd_FaxLine_turnAt cI cZ cJ tq h_line f_line_width f_line_above f_line_place f_line_black)) hD hS hA [1] rfl) hK hP rfl rfl (hP.sub (ws' := (wd_FaxLine_turnAt cI cZ cJ tq h_line f_line_width f_line_above f_line_place f_line_black)) [1] rfl) (hD.sub (ws' := (wd_FaxLine_turnAt cI cZ cJ tq h_line f_line_width f_line_above f_line_place f_line_black)) [1] (by decide) rfl)) rfl rfl hl.1 rfl (lv_room (Nat.le_of_ble_eq_true rfl)) d_Reader_turnNear_50 ⟨Nat.le_of_ble_eq_true rfl, Nat.le_of_ble_eq_true rfl⟩) hP hD hS hA [1] [0] [0, 1] rfl rfl (by decide) (by decide) (by decide) rfl (fun H locs hP hD hS => ?_)
      refine lv_iconst (v := 1) hx hb d_Reader_turnNear_53 (by decide) ?_
      obtain ⟨e0, e1, e2, e3, e4⟩ := so5 hf
      subst e0; subst e1; subst e2; subst e3; subst e4
      exact W.zret (v := 1) hx hb hr rfl (fun t ht hW => ⟨⟨_, (), rfl, rfl, by rw [ht]; exact hP, va_K.moved hW.alike hK, hD⟩, hS.F ht⟩) hS.2.2 d_Reader_turnNear_54 hlocks
    · have hf := it_f hf c16
      refine lv_aload_n hx hb d_Reader_turnNear_19 rfl (lv_at hl 0 rfl) ?_
      refine lv_iconst (v := 1) hx hb d_Reader_turnNear_20 (by decide) ?_
      refine va_put (D := D) (ci := 5) (v := .int 1) (ty := .int) (C := R_Reader) (T := F_Reader) (N := 14) hx hb htw i_Reader t_Reader t_Reader_ok n_Reader hown hK hP hD hS 0 rfl rfl 11 (by decide) (htw _ in69) (fun _ h9 => h9) rfl (by decide +kernel) rfl rfl (Nat.le_of_ble_eq_true rfl) d_Reader_turnNear_21 (fun H locs hP hD hS => ?_)
      have hP : va_P D classes (wd_Reader_turnNear cI cZ cJ tq h0 h_line h_skips h_ways h_inflow h_samples f_width f_height f_bitsRead f_rowsRead f_copyBefore f_ended 1 f_current f_currentIsCopy f_line_width f_line_above f_line_place f_line_black) H := hP
      have hD : va_D A (wd_Reader_turnNear cI cZ cJ tq h0 h_line h_skips h_ways h_inflow h_samples f_width f_height f_bitsRead f_rowsRead f_copyBefore f_ended 1 f_current f_currentIsCopy f_line_width f_line_above f_line_place f_line_black) := hD
      refine lv_iconst (v := 0) hx hb d_Reader_turnNear_24 (by decide) ?_
      obtain ⟨e0, e1, e2, e3, e4⟩ := so5 hf
      subst e0; subst e1; subst e2; subst e3; subst e4
      exact W.zret (v := 0) hx hb hr rfl (fun t ht hW => ⟨⟨_, (), rfl, rfl, by rw [ht]; exact hP, va_K.moved hW.alike hK, hD⟩, hS.F ht⟩) hS.2.2 d_Reader_turnNear_25 hlocks
