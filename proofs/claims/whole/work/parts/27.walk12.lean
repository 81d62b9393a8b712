-- Md_thrown
abbrev RM_Md_thrown : Room := { frames := 0, cells := 0, slots := 0, locals := 0 }
def ws_Md_thrown : List Cond := .code y_Md_thrown b_Md_thrown 1 (some .int) :: W_all
def wd_Md_thrown (cI cZ cJ : ClassId) (tq : Nat → Nat) (h0 : Nat) (h_fine : Nat) (h_middle : Nat) (h_coarse : Nat) (h_flat : Nat) (h_looseOnes : Nat) (h_places : Nat) (h_black : Nat) (h_skipped : Nat) (h_known : Nat) (h_bits : Nat) (h_contexts : Nat) (h_rowsOf : Nat) (h_came : Nat) (h_found : Nat) (f_code : Int32) (f_width : Int32) (f_height : Int32) (f_template : Int32) (f_placeMany : Int32) (f_isTypical : Int32) (f_isFax : Int32) (f_isOpen : Int32) (f_toldMany : Int32) (f_passed : Int32) (f_copied : Int32) (f_cameMany : Int32) (f_readBits : Int32) (f_rowsRead : Int32) (f_isDone : Int32) (f_refused : Int32) (f_at : Int32) (f_lacks : Int32) (f_why : Int32) (f_wasCopy : Int32) (f_place : Int32) (f_colour : Int32) : va_W := [(h0, .inr (9, [.ref h_fine, .ref h_middle, .ref h_coarse, .ref h_flat, .ref h_looseOnes, .int f_code, .int f_width, .int f_height, .int f_template, .int f_placeMany, .ref h_places, .ref h_black, .ref h_skipped, .int f_isTypical, .int f_isFax, .int f_isOpen, .int f_toldMany, .int f_passed, .int f_copied, .ref h_known, .ref h_bits, .ref h_contexts, .ref h_rowsOf, .int f_cameMany, .ref h_came, .ref h_found, .int f_readBits, .int f_rowsRead, .int f_isDone, .int f_refused, .int f_at, .int f_lacks, .int f_why, .int f_wasCopy, .int f_place, .int f_colour]))]
def F_Md_thrown (f_code : Int32) : Option (Int32) :=
  (some f_code)
set_option maxHeartbeats 4000000 in
set_option maxRecDepth 100000 in
theorem c_Md_thrown (l : Launch) (D : va_G) (cI cZ cJ : ClassId) (tq : Nat → Nat) (h0 : Nat) (h_fine : Nat) (h_middle : Nat) (h_coarse : Nat) (h_flat : Nat) (h_looseOnes : Nat) (h_places : Nat) (h_black : Nat) (h_skipped : Nat) (h_known : Nat) (h_bits : Nat) (h_contexts : Nat) (h_rowsOf : Nat) (h_came : Nat) (h_found : Nat) (sz : Nat) (f_code : Int32) (f_width : Int32) (f_height : Int32) (f_template : Int32) (f_placeMany : Int32) (f_isTypical : Int32) (f_isFax : Int32) (f_isOpen : Int32) (f_toldMany : Int32) (f_passed : Int32) (f_copied : Int32) (f_cameMany : Int32) (f_readBits : Int32) (f_rowsRead : Int32) (f_isDone : Int32) (f_refused : Int32) (f_at : Int32) (f_lacks : Int32) (f_why : Int32) (f_wasCopy : Int32) (f_place : Int32) (f_colour : Int32) (o_r : Int32) (hf : F_Md_thrown f_code = some o_r) : Met l y_Md_thrown ws_Md_thrown RM_Md_thrown (va_Pc [.ref h0] (Pg D cI cZ cJ tq (wd_Md_thrown cI cZ cJ tq h0 h_fine h_middle h_coarse h_flat h_looseOnes h_places h_black h_skipped h_known h_bits h_contexts h_rowsOf h_came h_found f_code f_width f_height f_template f_placeMany f_isTypical f_isFax f_isOpen f_toldMany f_passed f_copied f_cameMany f_readBits f_rowsRead f_isDone f_refused f_at f_lacks f_why f_wasCopy f_place f_colour) sz)) (qI D cI cZ cJ (va_A (wd_Md_thrown cI cZ cJ tq h0 h_fine h_middle h_coarse h_flat h_looseOnes h_places h_black h_skipped h_known h_bits h_contexts h_rowsOf h_came h_found f_code f_width f_height f_template f_placeMany f_isTypical f_isFax f_isOpen f_toldMany f_passed f_copied f_cameMany f_readBits f_rowsRead f_isDone f_refused f_at f_lacks f_why f_wasCopy f_place f_colour) sz) o_r (wd_Md_thrown cI cZ cJ tq h0 h_fine h_middle h_coarse h_flat h_looseOnes h_places h_black h_skipped h_known h_bits h_contexts h_rowsOf h_came h_found f_code f_width f_height f_template f_placeMany f_isTypical f_isFax f_isOpen f_toldMany f_passed f_copied f_cameMany f_readBits f_rowsRead f_isDone f_refused f_at f_lacks f_why f_wasCopy f_place f_colour)) 0 0 (va_A (wd_Md_thrown cI cZ cJ tq h0 h_fine h_middle h_coarse h_flat h_looseOnes h_places h_black h_skipped h_known h_bits h_contexts h_rowsOf h_came h_found f_code f_width f_height f_template f_placeMany f_isTypical f_isFax f_isOpen f_toldMany f_passed f_copied f_cameMany f_readBits f_rowsRead f_isDone f_refused f_at f_lacks f_why f_wasCopy f_place f_colour) sz) := by
  refine Met.ofW (cc := b_Md_thrown) (maxL := 1) (ret := (some .int)) (by decide) rfl ?_
  intro p e s m args below meth c s₁ B hml hv
  obtain ⟨rfl, hsz, hP, hK, hD0, hG⟩ := hv
  have hx := B.exec
  have hb := B.bytes
  have hr := B.returns
  have htw : ∀ w ∈ W_all, w.before [.ref h0].toArray s = true := fun w h => atoms_spec (ws := ws_Md_thrown) B.pre w (List.mem_cons_of_mem _ h)
  have hown : s.vm.findClass R_Md = some m.cls := findClass_of_methodNamed B.named
  have hlocks := B.notSynchronized
  subst hsz
  have hD := hD0.self (sz := s.heap.size)
  generalize hAe : va_A (wd_Md_thrown cI cZ cJ tq h0 h_fine h_middle h_coarse h_flat h_looseOnes h_places h_black h_skipped h_known h_bits h_contexts h_rowsOf h_came h_found f_code f_width f_height f_template f_placeMany f_isTypical f_isFax f_isOpen f_toldMany f_passed f_copied f_cameMany f_readBits f_rowsRead f_isDone f_refused f_at f_lacks f_why f_wasCopy f_place f_colour) s.heap.size = A at hD hG ⊢
  have hA : ∀ q : Nat, s.heap.size ≤ q → A q := fun q h => by rw [← hAe]; exact Or.inr h
  have hS : va_S A s.heap s.heap [] := va_S.rf
  have C0 : cx p s m meth c [.ref h0].toArray b_Md_thrown (some .int) 1 R_Md D cI cZ cJ tq A := ⟨hx, hb, hr, hml, hown, htw, hlocks, hK, hG⟩
  have hl := lv_entry ([.ref h0]) (n := 1) (Nat.le_of_ble_eq_true rfl)
  rw [lg_entry_eq]
  generalize (lg_sl ([.ref h0]) ++ List.replicate (1 - (lg_sl ([.ref h0])).length) Slot.unset).toArray = ls at hl ⊢
  have hl : lv_has ls 1 [(0, .ref h0)] := hl
  have hP : va_P D classes (wd_Md_thrown cI cZ cJ tq h0 h_fine h_middle h_coarse h_flat h_looseOnes h_places h_black h_skipped h_known h_bits h_contexts h_rowsOf h_came h_found f_code f_width f_height f_template f_placeMany f_isTypical f_isFax f_isOpen f_toldMany f_passed f_copied f_cameMany f_readBits f_rowsRead f_isDone f_refused f_at f_lacks f_why f_wasCopy f_place f_colour) s.heap := hP
  clear hAe
  unfold F_Md_thrown at hf
  refine lv_aload_n hx hb d_Md_thrown_0 rfl (lv_at hl 0 rfl) ?_
  refine va_get (D := D) (ci := 9) (v := .int f_code) (C := R_Md) (T := F_Md) (N := 36) hx hb htw i_Md hown hK hP 0 rfl rfl 5 (by decide) (htw _ in448) (fun _ h9 => h9) rfl d_Md_thrown_1 ?_
  have e0 := Option.some.inj hf
  subst e0
  exact W.iret (v := f_code) hx hb hr (fun t ht hW => ⟨⟨_, (), rfl, rfl, by rw [ht]; exact hP, va_K.moved hW.alike hK, hD⟩, hS.F ht⟩) hS.2.2 d_Md_thrown_4 hlocks
-- Md_in
abbrev RM_Md_in : Room := { frames := 0, cells := 0, slots := 0, locals := 0 }
def ws_Md_in : List Cond := .code y_Md_in b_Md_in 3 (some .boolean) :: W_all
def wd_Md_in (cI cZ cJ : ClassId) (tq : Nat → Nat)  : va_W := []
def F_Md_in (x0 : Int32) (x1 : Int32) (x2 : Int32) : Option (Int32) :=
  (if x0 < x1 then (some 0) else (if x2 < x0 then (some 0) else (some 1)))
set_option maxHeartbeats 4000000 in
set_option maxRecDepth 100000 in
theorem c_Md_in (l : Launch) (D : va_G) (cI cZ cJ : ClassId) (tq : Nat → Nat) (sz : Nat) (x0 : Int32) (x1 : Int32) (x2 : Int32) (o_r : Int32) (hf : F_Md_in x0 x1 x2 = some o_r) : Met l y_Md_in ws_Md_in RM_Md_in (va_Pc [.int x0, .int x1, .int x2] (Pg D cI cZ cJ tq (wd_Md_in cI cZ cJ tq) sz)) (qI D cI cZ cJ (va_A (wd_Md_in cI cZ cJ tq) sz) o_r (wd_Md_in cI cZ cJ tq)) 0 0 (va_A (wd_Md_in cI cZ cJ tq) sz) := by
  refine Met.ofW (cc := b_Md_in) (maxL := 3) (ret := (some .boolean)) (by decide) rfl ?_
  intro p e s m args below meth c s₁ B hml hv
  obtain ⟨rfl, hsz, hP, hK, hD0, hG⟩ := hv
  have hx := B.exec
  have hb := B.bytes
  have hr := B.returns
  have htw : ∀ w ∈ W_all, w.before [.int x0, .int x1, .int x2].toArray s = true := fun w h => atoms_spec (ws := ws_Md_in) B.pre w (List.mem_cons_of_mem _ h)
  have hown : s.vm.findClass R_Md = some m.cls := findClass_of_methodNamed B.named
  have hlocks := B.notSynchronized
  subst hsz
  have hD := hD0.self (sz := s.heap.size)
  generalize hAe : va_A (wd_Md_in cI cZ cJ tq) s.heap.size = A at hD hG ⊢
  have hA : ∀ q : Nat, s.heap.size ≤ q → A q := fun q h => by rw [← hAe]; exact Or.inr h
  have hS : va_S A s.heap s.heap [] := va_S.rf
  have C0 : cx p s m meth c [.int x0, .int x1, .int x2].toArray b_Md_in (some .boolean) 3 R_Md D cI cZ cJ tq A := ⟨hx, hb, hr, hml, hown, htw, hlocks, hK, hG⟩
  have hl := lv_entry ([.int x0, .int x1, .int x2]) (n := 3) (Nat.le_of_ble_eq_true rfl)
  rw [lg_entry_eq]
  generalize (lg_sl ([.int x0, .int x1, .int x2]) ++ List.replicate (3 - (lg_sl ([.int x0, .int x1, .int x2])).length) Slot.unset).toArray = ls at hl ⊢
  have hl : lv_has ls 3 [(0, .int x0), (1, .int x1), (2, .int x2)] := hl
  have hP : va_P D classes (wd_Md_in cI cZ cJ tq) s.heap := hP
  clear hAe
  unfold F_Md_in at hf
  refine lv_iload_n hx hb d_Md_in_0 rfl (lv_at hl 0 rfl) ?_
  refine lv_iload_n hx hb d_Md_in_1 rfl (lv_at hl 1 rfl) ?_
  refine lv_icmp_lt (tgt := 14) hx hb d_Md_in_2 (by decide) (fun c2 => ?_) (fun c2 => ?_)
  · have hf := it_t hf c2
    refine lv_iconst (v := 0) hx hb d_Md_in_14 (by decide) ?_
    have e0 := Option.some.inj hf
    subst e0
    exact W.zret (v := 0) hx hb hr rfl (fun t ht hW => ⟨⟨_, (), rfl, rfl, by rw [ht]; exact hP, va_K.moved hW.alike hK, hD⟩, hS.F ht⟩) hS.2.2 d_Md_in_15 hlocks
  · have hf := it_f hf c2
    refine lv_iload_n hx hb d_Md_in_5 rfl (lv_at hl 0 rfl) ?_
    refine lv_iload_n hx hb d_Md_in_6 rfl (lv_at hl 2 rfl) ?_
    refine lv_icmp_gt (tgt := 14) hx hb d_Md_in_7 (by decide) (fun c7 => ?_) (fun c7 => ?_)
    · have hf := it_t hf c7
      refine lv_iconst (v := 0) hx hb d_Md_in_14 (by decide) ?_
      have e0 := Option.some.inj hf
      subst e0
      exact W.zret (v := 0) hx hb hr rfl (fun t ht hW => ⟨⟨_, (), rfl, rfl, by rw [ht]; exact hP, va_K.moved hW.alike hK, hD⟩, hS.F ht⟩) hS.2.2 d_Md_in_15 hlocks
    · have hf := it_f hf c7
      refine lv_iconst (v := 1) hx hb d_Md_in_10 (by decide) ?_
      refine lv_goto (tgt := 15) hx hb d_Md_in_11 (by decide) ?_
      have e0 := Option.some.inj hf
      subst e0
      exact W.zret (v := 1) hx hb hr rfl (fun t ht hW => ⟨⟨_, (), rfl, rfl, by rw [ht]; exact hP, va_K.moved hW.alike hK, hD⟩, hS.F ht⟩) hS.2.2 d_Md_in_15 hlocks
-- Md_isSample
abbrev RM_Md_isSample : Room := { frames := 1, cells := 0, slots := 0, locals := 22 }
def ws_Md_isSample : List Cond := .code y_Md_isSample b_Md_isSample 3 (some .boolean) :: W_all
def wd_Md_isSample (cI cZ cJ : ClassId) (tq : Nat → Nat) (h0 : Nat) (h_fine : Nat) (h_middle : Nat) (h_coarse : Nat) (h_flat : Nat) (h_looseOnes : Nat) (h_places : Nat) (h_black : Nat) (h_skipped : Nat) (h_known : Nat) (h_bits : Nat) (h_contexts : Nat) (h_rowsOf : Nat) (h_came : Nat) (h_found : Nat) (f_code : Int32) (f_width : Int32) (f_height : Int32) (f_template : Int32) (f_placeMany : Int32) (f_isTypical : Int32) (f_isFax : Int32) (f_isOpen : Int32) (f_toldMany : Int32) (f_passed : Int32) (f_copied : Int32) (f_cameMany : Int32) (f_readBits : Int32) (f_rowsRead : Int32) (f_isDone : Int32) (f_refused : Int32) (f_at : Int32) (f_lacks : Int32) (f_why : Int32) (f_wasCopy : Int32) (f_place : Int32) (f_colour : Int32) : va_W := [(h0, .inr (9, [.ref h_fine, .ref h_middle, .ref h_coarse, .ref h_flat, .ref h_looseOnes, .int f_code, .int f_width, .int f_height, .int f_template, .int f_placeMany, .ref h_places, .ref h_black, .ref h_skipped, .int f_isTypical, .int f_isFax, .int f_isOpen, .int f_toldMany, .int f_passed, .int f_copied, .ref h_known, .ref h_bits, .ref h_contexts, .ref h_rowsOf, .int f_cameMany, .ref h_came, .ref h_found, .int f_readBits, .int f_rowsRead, .int f_isDone, .int f_refused, .int f_at, .int f_lacks, .int f_why, .int f_wasCopy, .int f_place, .int f_colour]))]
def F_Md_isSample_34 (f_width : Int32) (f_height : Int32) (z0 : Int32) (f_code : Int32) : Option (Int32 × Int32) :=
  (if z0 = 0 then (some (1, z0)) else (some (0, z0)))
def F_Md_isSample_33 (f_width : Int32) (f_height : Int32) (f_code : Int32) : Option (Int32 × Int32) :=
  (F_Md_isSample_34 f_width f_height 1 f_code)
def F_Md_isSample (x1 : Int32) (x2 : Int32) (f_code : Int32) (f_width : Int32) (f_height : Int32) : Option (Int32 × Int32) :=
  (bd1 (F_Md_in x1 0 (f_width - (1 : Int32))) (fun r9 => (if r9 = 0 then (F_Md_isSample_33 f_width f_height f_code) else (bd1 (F_Md_in x2 0 (f_height - (1 : Int32))) (fun r23 => (if r23 = 0 then (F_Md_isSample_33 f_width f_height f_code) else (F_Md_isSample_34 f_width f_height 0 f_code)))))))
set_option maxHeartbeats 4000000 in
set_option maxRecDepth 100000 in
theorem w_Md_isSample_34 {p : Program} {l : Launch} {e : Env} {s : State} {m : MethodId} {args : Array Value} {below : List Frame} {meth : Method} {c : Code} {D : va_G} {cI cZ cJ : ClassId} {tq : Nat → Nat} {A : Nat → Prop} (h0 : Nat) (h_fine : Nat) (h_middle : Nat) (h_coarse : Nat) (h_flat : Nat) (h_looseOnes : Nat) (h_places : Nat) (h_black : Nat) (h_skipped : Nat) (h_known : Nat) (h_bits : Nat) (h_contexts : Nat) (h_rowsOf : Nat) (h_came : Nat) (h_found : Nat) (f_width : Int32) (f_height : Int32) (f_template : Int32) (f_placeMany : Int32) (f_isTypical : Int32) (f_isFax : Int32) (f_isOpen : Int32) (f_toldMany : Int32) (f_passed : Int32) (f_copied : Int32) (f_cameMany : Int32) (f_readBits : Int32) (f_rowsRead : Int32) (f_isDone : Int32) (f_refused : Int32) (f_at : Int32) (f_lacks : Int32) (f_why : Int32) (f_wasCopy : Int32) (f_place : Int32) (f_colour : Int32) (o_r : Int32) (o_f_code : Int32) (C0 : cx p s m meth c args b_Md_isSample (some .boolean) 3 R_Md D cI cZ cJ tq A) (hA : ∀ q : Nat, s.heap.size ≤ q → A q) : ∀ (z0 : Int32) (f_code : Int32) (H : Heap) (locs : List Loc) (ls : Array Slot), va_P D classes (wd_Md_isSample cI cZ cJ tq h0 h_fine h_middle h_coarse h_flat h_looseOnes h_places h_black h_skipped h_known h_bits h_contexts h_rowsOf h_came h_found f_code f_width f_height f_template f_placeMany f_isTypical f_isFax f_isOpen f_toldMany f_passed f_copied f_cameMany f_readBits f_rowsRead f_isDone f_refused f_at f_lacks f_why f_wasCopy f_place f_colour) H → va_D A (wd_Md_isSample cI cZ cJ tq h0 h_fine h_middle h_coarse h_flat h_looseOnes h_places h_black h_skipped h_known h_bits h_contexts h_rowsOf h_came h_found f_code f_width f_height f_template f_placeMany f_isTypical f_isFax f_isOpen f_toldMany f_passed f_copied f_cameMany f_readBits f_rowsRead f_isDone f_refused f_at f_lacks f_why f_wasCopy f_place f_colour) → va_S A s.heap H locs → lv_has ls 3 [(0, .ref h0)] → F_Md_isSample_34 f_width f_height z0 f_code = some (o_r, o_f_code) → W p l e RM_Md_isSample s m args below meth c H locs 0 0 (MQ below (qI D cI cZ cJ A o_r (wd_Md_isSample cI cZ cJ tq h0 h_fine h_middle h_coarse h_flat h_looseOnes h_places h_black h_skipped h_known h_bits h_contexts h_rowsOf h_came h_found o_f_code f_width f_height f_template f_placeMany f_isTypical f_isFax f_isOpen f_toldMany f_passed f_copied f_cameMany f_readBits f_rowsRead f_isDone f_refused f_at f_lacks f_why f_wasCopy f_place f_colour)) args s 0 0 A) (F0 m 34 ls [.int z0, .ref h0]) := by
  obtain ⟨hx, hb, hr, hml, hown, htw, hlocks, hK, hG⟩ := id C0
  intro z0 f_code H locs ls hP hD hS hl hf
  unfold F_Md_isSample_34 at hf
  refine va_put (D := D) (ci := 9) (v := .int z0) (ty := .int) (C := R_Md) (T := F_Md) (N := 36) hx hb htw i_Md t_Md t_Md_ok n_Md hown hK hP hD hS 0 rfl rfl 5 (by decide) (htw _ in448) (fun _ h9 => h9) rfl (by decide +kernel) rfl rfl (Nat.le_of_ble_eq_true rfl) d_Md_isSample_34 (fun H locs hP hD hS => ?_)
  have hP : va_P D classes (wd_Md_isSample cI cZ cJ tq h0 h_fine h_middle h_coarse h_flat h_looseOnes h_places h_black h_skipped h_known h_bits h_contexts h_rowsOf h_came h_found z0 f_width f_height f_template f_placeMany f_isTypical f_isFax f_isOpen f_toldMany f_passed f_copied f_cameMany f_readBits f_rowsRead f_isDone f_refused f_at f_lacks f_why f_wasCopy f_place f_colour) H := hP
  have hD : va_D A (wd_Md_isSample cI cZ cJ tq h0 h_fine h_middle h_coarse h_flat h_looseOnes h_places h_black h_skipped h_known h_bits h_contexts h_rowsOf h_came h_found z0 f_width f_height f_template f_placeMany f_isTypical f_isFax f_isOpen f_toldMany f_passed f_copied f_cameMany f_readBits f_rowsRead f_isDone f_refused f_at f_lacks f_why f_wasCopy f_place f_colour) := hD
  refine lv_aload_n hx hb d_Md_isSample_37 rfl (lv_at hl 0 rfl) ?_
  refine va_get (D := D) (ci := 9) (v := .int z0) (C := R_Md) (T := F_Md) (N := 36) hx hb htw i_Md hown hK hP 0 rfl rfl 5 (by decide) (htw _ in448) (fun _ h9 => h9) rfl d_Md_isSample_38 ?_
  refine lv_if_ne (tgt := 48) hx hb d_Md_isSample_41 (by decide) (fun c41 => ?_) (fun c41 => ?_)
  · have hf := it_f hf c41
    refine lv_iconst (v := 0) hx hb d_Md_isSample_48 (by decide) ?_
    obtain ⟨e0, e1⟩ := so2 hf
    subst e0; subst e1
    exact W.zret (v := 0) hx hb hr rfl (fun t ht hW => ⟨⟨_, (), rfl, rfl, by rw [ht]; exact hP, va_K.moved hW.alike hK, hD⟩, hS.F ht⟩) hS.2.2 d_Md_isSample_49 hlocks
  · have hf := it_t hf c41
    refine lv_iconst (v := 1) hx hb d_Md_isSample_44 (by decide) ?_
    refine lv_goto (tgt := 49) hx hb d_Md_isSample_45 (by decide) ?_
    obtain ⟨e0, e1⟩ := so2 hf
    subst e0; subst e1
    exact W.zret (v := 1) hx hb hr rfl (fun t ht hW => ⟨⟨_, (), rfl, rfl, by rw [ht]; exact hP, va_K.moved hW.alike hK, hD⟩, hS.F ht⟩) hS.2.2 d_Md_isSample_49 hlocks
set_option maxHeartbeats 4000000 in
set_option maxRecDepth 100000 in
theorem w_Md_isSample_33 {p : Program} {l : Launch} {e : Env} {s : State} {m : MethodId} {args : Array Value} {below : List Frame} {meth : Method} {c : Code} {D : va_G} {cI cZ cJ : ClassId} {tq : Nat → Nat} {A : Nat → Prop} (h0 : Nat) (h_fine : Nat) (h_middle : Nat) (h_coarse : Nat) (h_flat : Nat) (h_looseOnes : Nat) (h_places : Nat) (h_black : Nat) (h_skipped : Nat) (h_known : Nat) (h_bits : Nat) (h_contexts : Nat) (h_rowsOf : Nat) (h_came : Nat) (h_found : Nat) (f_width : Int32) (f_height : Int32) (f_template : Int32) (f_placeMany : Int32) (f_isTypical : Int32) (f_isFax : Int32) (f_isOpen : Int32) (f_toldMany : Int32) (f_passed : Int32) (f_copied : Int32) (f_cameMany : Int32) (f_readBits : Int32) (f_rowsRead : Int32) (f_isDone : Int32) (f_refused : Int32) (f_at : Int32) (f_lacks : Int32) (f_why : Int32) (f_wasCopy : Int32) (f_place : Int32) (f_colour : Int32) (o_r : Int32) (o_f_code : Int32) (C0 : cx p s m meth c args b_Md_isSample (some .boolean) 3 R_Md D cI cZ cJ tq A) (hA : ∀ q : Nat, s.heap.size ≤ q → A q) : ∀ (f_code : Int32) (H : Heap) (locs : List Loc) (ls : Array Slot), va_P D classes (wd_Md_isSample cI cZ cJ tq h0 h_fine h_middle h_coarse h_flat h_looseOnes h_places h_black h_skipped h_known h_bits h_contexts h_rowsOf h_came h_found f_code f_width f_height f_template f_placeMany f_isTypical f_isFax f_isOpen f_toldMany f_passed f_copied f_cameMany f_readBits f_rowsRead f_isDone f_refused f_at f_lacks f_why f_wasCopy f_place f_colour) H → va_D A (wd_Md_isSample cI cZ cJ tq h0 h_fine h_middle h_coarse h_flat h_looseOnes h_places h_black h_skipped h_known h_bits h_contexts h_rowsOf h_came h_found f_code f_width f_height f_template f_placeMany f_isTypical f_isFax f_isOpen f_toldMany f_passed f_copied f_cameMany f_readBits f_rowsRead f_isDone f_refused f_at f_lacks f_why f_wasCopy f_place f_colour) → va_S A s.heap H locs → lv_has ls 3 [(0, .ref h0)] → F_Md_isSample_33 f_width f_height f_code = some (o_r, o_f_code) → W p l e RM_Md_isSample s m args below meth c H locs 0 0 (MQ below (qI D cI cZ cJ A o_r (wd_Md_isSample cI cZ cJ tq h0 h_fine h_middle h_coarse h_flat h_looseOnes h_places h_black h_skipped h_known h_bits h_contexts h_rowsOf h_came h_found o_f_code f_width f_height f_template f_placeMany f_isTypical f_isFax f_isOpen f_toldMany f_passed f_copied f_cameMany f_readBits f_rowsRead f_isDone f_refused f_at f_lacks f_why f_wasCopy f_place f_colour)) args s 0 0 A) (F0 m 33 ls [.ref h0]) := by
  obtain ⟨hx, hb, hr, hml, hown, htw, hlocks, hK, hG⟩ := id C0
  intro f_code H locs ls hP hD hS hl hf
  unfold F_Md_isSample_33 at hf
  refine lv_iconst (v := 1) hx hb d_Md_isSample_33 (by decide) ?_
  exact w_Md_isSample_34 h0 h_fine h_middle h_coarse h_flat h_looseOnes h_places h_black h_skipped h_known h_bits h_contexts h_rowsOf h_came h_found f_width f_height f_template f_placeMany f_isTypical f_isFax f_isOpen f_toldMany f_passed f_copied f_cameMany f_readBits f_rowsRead f_isDone f_refused f_at f_lacks f_why f_wasCopy f_place f_colour o_r o_f_code C0 hA 1 f_code _ _ ls hP hD hS (lv_sub hl [0] rfl) hf
set_option maxHeartbeats 4000000 in
set_option maxRecDepth 100000 in
theorem c_Md_isSample (l : Launch) (D : va_G) (cI cZ cJ : ClassId) (tq : Nat → Nat) (h0 : Nat) (h_fine : Nat) (h_middle : Nat) (h_coarse : Nat) (h_flat : Nat) (h_looseOnes : Nat) (h_places : Nat) (h_black : Nat) (h_skipped : Nat) (h_known : Nat) (h_bits : Nat) (h_contexts : Nat) (h_rowsOf : Nat) (h_came : Nat) (h_found : Nat) (sz : Nat) (f_code : Int32) (f_width : Int32) (f_height : Int32) (f_template : Int32) (f_placeMany : Int32) (f_isTypical : Int32) (f_isFax : Int32) (f_isOpen : Int32) (f_toldMany : Int32) (f_passed : Int32) (f_copied : Int32) (f_cameMany : Int32) (f_readBits : Int32) (f_rowsRead : Int32) (f_isDone : Int32) (f_refused : Int32) (f_at : Int32) (f_lacks : Int32) (f_why : Int32) (f_wasCopy : Int32) (f_place : Int32) (f_colour : Int32) (x1 : Int32) (x2 : Int32) (o_r : Int32) (o_f_code : Int32) (hf : F_Md_isSample x1 x2 f_code f_width f_height = some (o_r, o_f_code)) : Met l y_Md_isSample ws_Md_isSample RM_Md_isSample (va_Pc [.ref h0, .int x1, .int x2] (Pg D cI cZ cJ tq (wd_Md_isSample cI cZ cJ tq h0 h_fine h_middle h_coarse h_flat h_looseOnes h_places h_black h_skipped h_known h_bits h_contexts h_rowsOf h_came h_found f_code f_width f_height f_template f_placeMany f_isTypical f_isFax f_isOpen f_toldMany f_passed f_copied f_cameMany f_readBits f_rowsRead f_isDone f_refused f_at f_lacks f_why f_wasCopy f_place f_colour) sz)) (qI D cI cZ cJ (va_A (wd_Md_isSample cI cZ cJ tq h0 h_fine h_middle h_coarse h_flat h_looseOnes h_places h_black h_skipped h_known h_bits h_contexts h_rowsOf h_came h_found f_code f_width f_height f_template f_placeMany f_isTypical f_isFax f_isOpen f_toldMany f_passed f_copied f_cameMany f_readBits f_rowsRead f_isDone f_refused f_at f_lacks f_why f_wasCopy f_place f_colour) sz) o_r (wd_Md_isSample cI cZ cJ tq h0 h_fine h_middle h_coarse h_flat h_looseOnes h_places h_black h_skipped h_known h_bits h_contexts h_rowsOf h_came h_found o_f_code f_width f_height f_template f_placeMany f_isTypical f_isFax f_isOpen f_toldMany f_passed f_copied f_cameMany f_readBits f_rowsRead f_isDone f_refused f_at f_lacks f_why f_wasCopy f_place f_colour)) 0 0 (va_A (wd_Md_isSample cI cZ cJ tq h0 h_fine h_middle h_coarse h_flat h_looseOnes h_places h_black h_skipped h_known h_bits h_contexts h_rowsOf h_came h_found f_code f_width f_height f_template f_placeMany f_isTypical f_isFax f_isOpen f_toldMany f_passed f_copied f_cameMany f_readBits f_rowsRead f_isDone f_refused f_at f_lacks f_why f_wasCopy f_place f_colour) sz) := by
  refine Met.ofW (cc := b_Md_isSample) (maxL := 3) (ret := (some .boolean)) (by decide) rfl ?_
  intro p e s m args below meth c s₁ B hml hv
  obtain ⟨rfl, hsz, hP, hK, hD0, hG⟩ := hv
  have hx := B.exec
  have hb := B.bytes
  have hr := B.returns
  have htw : ∀ w ∈ W_all, w.before [.ref h0, .int x1, .int x2].toArray s = true := fun w h => atoms_spec (ws := ws_Md_isSample) B.pre w (List.mem_cons_of_mem _ h)
  have hown : s.vm.findClass R_Md = some m.cls := findClass_of_methodNamed B.named
  have hlocks := B.notSynchronized
  subst hsz
  have hD := hD0.self (sz := s.heap.size)
  generalize hAe : va_A (wd_Md_isSample cI cZ cJ tq h0 h_fine h_middle h_coarse h_flat h_looseOnes h_places h_black h_skipped h_known h_bits h_contexts h_rowsOf h_came h_found f_code f_width f_height f_template f_placeMany f_isTypical f_isFax f_isOpen f_toldMany f_passed f_copied f_cameMany f_readBits f_rowsRead f_isDone f_refused f_at f_lacks f_why f_wasCopy f_place f_colour) s.heap.size = A at hD hG ⊢
  have hA : ∀ q : Nat, s.heap.size ≤ q → A q := fun q h => by rw [← hAe]; exact Or.inr h
  have hS : va_S A s.heap s.heap [] := va_S.rf
  have C0 : cx p s m meth c [.ref h0, .int x1, .int x2].toArray b_Md_isSample (some .boolean) 3 R_Md D cI cZ cJ tq A := ⟨hx, hb, hr, hml, hown, htw, hlocks, hK, hG⟩
  have hl := lv_entry ([.ref h0, .int x1, .int x2]) (n := 3) (Nat.le_of_ble_eq_true rfl)
  rw [lg_entry_eq]
  generalize (lg_sl ([.ref h0, .int x1, .int x2]) ++ List.replicate (3 - (lg_sl ([.ref h0, .int x1, .int x2])).length) Slot.unset).toArray = ls at hl ⊢
  have hl : lv_has ls 3 [(0, .ref h0), (1, .int x1), (2, .int x2)] := hl
  have hP : va_P D classes (wd_Md_isSample cI cZ cJ tq h0 h_fine h_middle h_coarse h_flat h_looseOnes h_places h_black h_skipped h_known h_bits h_contexts h_rowsOf h_came h_found f_code f_width f_height f_template f_placeMany f_isTypical f_isFax f_isOpen f_toldMany f_passed f_copied f_cameMany f_readBits f_rowsRead f_isDone f_refused f_at f_lacks f_why f_wasCopy f_place f_colour) s.heap := hP
  clear hAe
  unfold F_Md_isSample at hf
  refine lv_aload_n hx hb d_Md_isSample_0 rfl (lv_at hl 0 rfl) ?_
  refine lv_iload_n hx hb d_Md_isSample_1 rfl (lv_at hl 1 rfl) ?_
  refine lv_iconst (v := 0) hx hb d_Md_isSample_2 (by decide) ?_
  refine lv_aload_n hx hb d_Md_isSample_3 rfl (lv_at hl 0 rfl) ?_
  refine va_get (D := D) (ci := 9) (v := .int f_width) (C := R_Md) (T := F_Md) (N := 36) hx hb htw i_Md hown hK hP 0 rfl rfl 6 (by decide) (htw _ in487) (fun _ h9 => h9) rfl d_Md_isSample_4 ?_
  refine lv_iconst (v := 1) hx hb d_Md_isSample_7 (by decide) ?_
  refine lv_isub hx hb d_Md_isSample_8 ?_
  obtain ⟨r9, e9, hf⟩ := bd1_some hf
  refine g_calli (wc := (wd_Md_in cI cZ cJ tq )) (w1 := (wd_Md_in cI cZ cJ tq)) (ws' := (wd_Md_isSample cI cZ cJ tq h0 h_fine h_middle h_coarse h_flat h_looseOnes h_places h_black h_skipped h_known h_bits h_contexts h_rowsOf h_came h_found f_code f_width f_height f_template f_placeMany f_isTypical f_isFax f_isOpen f_toldMany f_passed f_copied f_cameMany f_readBits f_rowsRead f_isDone f_refused f_at f_lacks f_why f_wasCopy f_place f_colour)) (va_runS (As := [.int x1, .int 0, .int (f_width - (1 : Int32))]) (rest := [.ref h0]) ⟨hx, hb, hml, hown, htw⟩ (c_Md_in l D cI cZ cJ tq _  x1 0 (f_width - (1 : Int32)) r9 e9) (va_cwS 3 htw (gd_S in494 in495 in455 in493) rfl rfl rfl (by decide +kernel) ⟨Nat.le_of_ble_eq_true rfl, Nat.le_of_ble_eq_true rfl⟩) (preS_of hG hS (va_free (wc := (wd_Md_in cI cZ cJ tq )) hD hS hA [] rfl) hK (hP.sub (ws' := (wd_Md_in cI cZ cJ tq )) [] rfl) (hD.sub (ws' := (wd_Md_in cI cZ cJ tq )) [] (by decide) rfl)) rfl rfl hl.1 rfl (lv_room (Nat.le_of_ble_eq_true rfl)) d_Md_isSample_9 ⟨Nat.le_of_ble_eq_true rfl, Nat.le_of_ble_eq_true rfl⟩) hP hD hS hA [] [0] [0] rfl rfl (by decide) (by decide) (by decide) rfl (fun H locs hP hD hS => ?_)
  refine lv_if_eq (tgt := 33) hx hb d_Md_isSample_12 (by decide) (fun c12 => ?_) (fun c12 => ?_)
  · have hf := it_t hf c12
    exact w_Md_isSample_33 h0 h_fine h_middle h_coarse h_flat h_looseOnes h_places h_black h_skipped h_known h_bits h_contexts h_rowsOf h_came h_found f_width f_height f_template f_placeMany f_isTypical f_isFax f_isOpen f_toldMany f_passed f_copied f_cameMany f_readBits f_rowsRead f_isDone f_refused f_at f_lacks f_why f_wasCopy f_place f_colour o_r o_f_code C0 hA f_code _ _ ls hP hD hS (lv_sub hl [0] rfl) hf
  · have hf := it_f hf c12
    refine lv_iload_n hx hb d_Md_isSample_15 rfl (lv_at hl 2 rfl) ?_
    refine lv_iconst (v := 0) hx hb d_Md_isSample_16 (by decide) ?_
    refine lv_aload_n hx hb d_Md_isSample_17 rfl (lv_at hl 0 rfl) ?_
    refine va_get (D := D) (ci := 9) (v := .int f_height) (C := R_Md) (T := F_Md) (N := 36) hx hb htw i_Md hown hK hP 0 rfl rfl 7 (by decide) (htw _ in488) (fun _ h9 => h9) rfl d_Md_isSample_18 ?_
    refine lv_iconst (v := 1) hx hb d_Md_isSample_21 (by decide) ?_
    refine lv_isub hx hb d_Md_isSample_22 ?_
    obtain ⟨r23, e23, hf⟩ := bd1_some hf
    refine g_calli (wc := (wd_Md_in cI cZ cJ tq )) (w1 := (wd_Md_in cI cZ cJ tq)) (ws' := (wd_Md_isSample cI cZ cJ tq h0 h_fine h_middle h_coarse h_flat h_looseOnes h_places h_black h_skipped h_known h_bits h_contexts h_rowsOf h_came h_found f_code f_width f_height f_template f_placeMany f_isTypical f_isFax f_isOpen f_toldMany f_passed f_copied f_cameMany f_readBits f_rowsRead f_isDone f_refused f_at f_lacks f_why f_wasCopy f_place f_colour)) (va_runS (As := [.int x2, .int 0, .int (f_height - (1 : Int32))]) (rest := [.ref h0]) ⟨hx, hb, hml, hown, htw⟩ (c_Md_in l D cI cZ cJ tq _  x2 0 (f_height - (1 : Int32)) r23 e23) (va_cwS 3 htw (gd_S in494 in495 in455 in493) rfl rfl rfl (by decide +kernel) ⟨Nat.le_of_ble_eq_true rfl, Nat.le_of_ble_eq_true rfl⟩) (preS_of hG hS (va_free (wc := (wd_Md_in cI cZ cJ tq )) hD hS hA [] rfl) hK (hP.sub (ws' := (wd_Md_in cI cZ cJ tq )) [] rfl) (hD.sub (ws' := (wd_Md_in cI cZ cJ tq )) [] (by decide) rfl)) rfl rfl hl.1 rfl (lv_room (Nat.le_of_ble_eq_true rfl)) d_Md_isSample_23 ⟨Nat.le_of_ble_eq_true rfl, Nat.le_of_ble_eq_true rfl⟩) hP hD hS hA [] [0] [0] rfl rfl (by decide) (by decide) (by decide) rfl (fun H locs hP hD hS => ?_)
    refine lv_if_eq (tgt := 33) hx hb d_Md_isSample_26 (by decide) (fun c26 => ?_) (fun c26 => ?_)
    · have hf := it_t hf c26
      exact w_Md_isSample_33 h0 h_fine h_middle h_coarse h_flat h_looseOnes h_places h_black h_skipped h_known h_bits h_contexts h_rowsOf h_came h_found f_width f_height f_template f_placeMany f_isTypical f_isFax f_isOpen f_toldMany f_passed f_copied f_cameMany f_readBits f_rowsRead f_isDone f_refused f_at f_lacks f_why f_wasCopy f_place f_colour o_r o_f_code C0 hA f_code _ _ ls hP hD hS (lv_sub hl [0] rfl) hf
    · have hf := it_f hf c26
      refine lv_iconst (v := 0) hx hb d_Md_isSample_29 (by decide) ?_
      refine lv_goto (tgt := 34) hx hb d_Md_isSample_30 (by decide) ?_
      exact w_Md_isSample_34 h0 h_fine h_middle h_coarse h_flat h_looseOnes h_places h_black h_skipped h_known h_bits h_contexts h_rowsOf h_came h_found f_width f_height f_template f_placeMany f_isTypical f_isFax f_isOpen f_toldMany f_passed f_copied f_cameMany f_readBits f_rowsRead f_isDone f_refused f_at f_lacks f_why f_wasCopy f_place f_colour o_r o_f_code C0 hA 0 f_code _ _ ls hP hD hS (lv_sub hl [0] rfl) hf
-- Md_put
abbrev RM_Md_put : Room := { frames := 2, cells := 0, slots := 0, locals := 44 }
def ws_Md_put : List Cond := .code y_Md_put b_Md_put 5 (some .boolean) :: W_all
def wd_Md_put (cI cZ cJ : ClassId) (tq : Nat → Nat) (h0 : Nat) (h_black : Nat) (h_fine : Nat) (h_middle : Nat) (h_coarse : Nat) (h_flat : Nat) (h_looseOnes : Nat) (h_places : Nat) (h_skipped : Nat) (h_known : Nat) (h_bits : Nat) (h_contexts : Nat) (h_rowsOf : Nat) (h_came : Nat) (h_found : Nat) (f_code : Int32) (f_width : Int32) (f_height : Int32) (f_template : Int32) (f_placeMany : Int32) (f_isTypical : Int32) (f_isFax : Int32) (f_isOpen : Int32) (f_toldMany : Int32) (f_passed : Int32) (f_copied : Int32) (f_cameMany : Int32) (f_readBits : Int32) (f_rowsRead : Int32) (f_isDone : Int32) (f_refused : Int32) (f_at : Int32) (f_lacks : Int32) (f_why : Int32) (f_wasCopy : Int32) (f_place : Int32) (f_colour : Int32) (n_black : Nat) (g_black : Nat → Int32) : va_W := [(h0, .inr (9, [.ref h_fine, .ref h_middle, .ref h_coarse, .ref h_flat, .ref h_looseOnes, .int f_code, .int f_width, .int f_height, .int f_template, .int f_placeMany, .ref h_places, .ref h_black, .ref h_skipped, .int f_isTypical, .int f_isFax, .int f_isOpen, .int f_toldMany, .int f_passed, .int f_copied, .ref h_known, .ref h_bits, .ref h_contexts, .ref h_rowsOf, .int f_cameMany, .ref h_came, .ref h_found, .int f_readBits, .int f_rowsRead, .int f_isDone, .int f_refused, .int f_at, .int f_lacks, .int f_why, .int f_wasCopy, .int f_place, .int f_colour])), (h_black, .inl (cZ, n_black, .inl g_black))]
def F_Md_put_31 (f_width : Int32) (f_height : Int32) (n_black : Nat) (x1 : Int32) (x2 : Int32) (x3 : Int32) (z0 : Int32) (f_code : Int32) (g_black : Nat → Int32) : Option (Int32 × Int32 × (Nat → Int32)) :=
  (if (((24 : Int32) * x2) + x1) < 0 ∨ n_black ≤ (((24 : Int32) * x2) + x1).toNatClampNeg then none else (if ¬ (z0 = 0 ∨ z0 = 1) then none else (some (z0, f_code, (upd g_black (((24 : Int32) * x2) + x1).toNatClampNeg (vp_nar .boolean x3))))))
def F_Md_put (x1 : Int32) (x2 : Int32) (x3 : Int32) (f_code : Int32) (f_width : Int32) (f_height : Int32) (n_black : Nat) (g_black : Nat → Int32) : Option (Int32 × Int32 × (Nat → Int32)) :=
  (bd2 (F_Md_isSample x1 x2 f_code f_width f_height) (fun r3 w3_f_code => (if r3 = 0 then (some (0, w3_f_code, g_black)) else (if (((24 : Int32) * x2) + x1) < 0 ∨ n_black ≤ (((24 : Int32) * x2) + x1).toNatClampNeg then none else (if (g_black (((24 : Int32) * x2) + x1).toNatClampNeg) = x3 then (F_Md_put_31 f_width f_height n_black x1 x2 x3 0 w3_f_code g_black) else (F_Md_put_31 f_width f_height n_black x1 x2 x3 1 w3_f_code g_black))))))
set_option maxHeartbeats 4000000 in
set_option maxRecDepth 100000 in
theorem w_Md_put_31 {p : Program} {l : Launch} {e : Env} {s : State} {m : MethodId} {args : Array Value} {below : List Frame} {meth : Method} {c : Code} {D : va_G} {cI cZ cJ : ClassId} {tq : Nat → Nat} {A : Nat → Prop} (h0 : Nat) (h_black : Nat) (h_fine : Nat) (h_middle : Nat) (h_coarse : Nat) (h_flat : Nat) (h_looseOnes : Nat) (h_places : Nat) (h_skipped : Nat) (h_known : Nat) (h_bits : Nat) (h_contexts : Nat) (h_rowsOf : Nat) (h_came : Nat) (h_found : Nat) (f_width : Int32) (f_height : Int32) (f_template : Int32) (f_placeMany : Int32) (f_isTypical : Int32) (f_isFax : Int32) (f_isOpen : Int32) (f_toldMany : Int32) (f_passed : Int32) (f_copied : Int32) (f_cameMany : Int32) (f_readBits : Int32) (f_rowsRead : Int32) (f_isDone : Int32) (f_refused : Int32) (f_at : Int32) (f_lacks : Int32) (f_why : Int32) (f_wasCopy : Int32) (f_place : Int32) (f_colour : Int32) (n_black : Nat) (o_r : Int32) (o_f_code : Int32) (o_g_black : Nat → Int32) (C0 : cx p s m meth c args b_Md_put (some .boolean) 5 R_Md D cI cZ cJ tq A) (hA : ∀ q : Nat, s.heap.size ≤ q → A q) : ∀ (x1 : Int32) (x2 : Int32) (x3 : Int32) (z0 : Int32) (f_code : Int32) (g_black : Nat → Int32) (H : Heap) (locs : List Loc) (ls : Array Slot), va_P D classes (wd_Md_put cI cZ cJ tq h0 h_black h_fine h_middle h_coarse h_flat h_looseOnes h_places h_skipped h_known h_bits h_contexts h_rowsOf h_came h_found f_code f_width f_height f_template f_placeMany f_isTypical f_isFax f_isOpen f_toldMany f_passed f_copied f_cameMany f_readBits f_rowsRead f_isDone f_refused f_at f_lacks f_why f_wasCopy f_place f_colour n_black g_black) H → va_D A (wd_Md_put cI cZ cJ tq h0 h_black h_fine h_middle h_coarse h_flat h_looseOnes h_places h_skipped h_known h_bits h_contexts h_rowsOf h_came h_found f_code f_width f_height f_template f_placeMany f_isTypical f_isFax f_isOpen f_toldMany f_passed f_copied f_cameMany f_readBits f_rowsRead f_isDone f_refused f_at f_lacks f_why f_wasCopy f_place f_colour n_black g_black) → va_S A s.heap H locs → lv_has ls 5 [(0, .ref h0), (1, .int x1), (2, .int x2), (3, .int x3)] → F_Md_put_31 f_width f_height n_black x1 x2 x3 z0 f_code g_black = some (o_r, o_f_code, o_g_black) → W p l e RM_Md_put s m args below meth c H locs 0 0 (MQ below (qI D cI cZ cJ A o_r (wd_Md_put cI cZ cJ tq h0 h_black h_fine h_middle h_coarse h_flat h_looseOnes h_places h_skipped h_known h_bits h_contexts h_rowsOf h_came h_found o_f_code f_width f_height f_template f_placeMany f_isTypical f_isFax f_isOpen f_toldMany f_passed f_copied f_cameMany f_readBits f_rowsRead f_isDone f_refused f_at f_lacks f_why f_wasCopy f_place f_colour n_black o_g_black)) args s 0 0 A) (F0 m 31 ls [.int z0]) := by
  obtain ⟨hx, hb, hr, hml, hown, htw, hlocks, hK, hG⟩ := id C0
  intro x1 x2 x3 z0 f_code g_black H locs ls hP hD hS hl hf
  unfold F_Md_put_31 at hf
  refine lv_istore (lv' := [(4, .int z0), (0, .ref h0), (1, .int x1), (2, .int x2), (3, .int x3)]) hx hb d_Md_put_31 hl (by decide) rfl (fun ls hl => ?_)
  refine lv_aload_n hx hb d_Md_put_33 rfl (lv_at hl 1 rfl) ?_
  refine va_get (D := D) (ci := 9) (v := .ref h_black) (C := R_Md) (T := F_Md) (N := 36) hx hb htw i_Md hown hK hP 0 rfl rfl 11 (by decide) (htw _ in465) (fun _ h9 => h9) rfl d_Md_put_34 ?_
  refine lv_bipush (v := 24) hx hb d_Md_put_37 (by decide) ?_
  refine lv_iload_n hx hb d_Md_put_39 rfl (lv_at hl 3 rfl) ?_
  refine lv_imul hx hb d_Md_put_40 ?_
  refine lv_iload_n hx hb d_Md_put_41 rfl (lv_at hl 2 rfl) ?_
  refine lv_iadd hx hb d_Md_put_42 ?_
  refine lv_iload_n hx hb d_Md_put_43 rfl (lv_at hl 4 rfl) ?_
  by_cases g44 : (((24 : Int32) * x2) + x1) < 0 ∨ n_black ≤ (((24 : Int32) * x2) + x1).toNatClampNeg
  · exact no_some (it_t hf g44)
  have hf := it_f hf g44
  refine va_zast hx hb hK hP hD hS 1 1 rfl rfl g44 d_Md_put_44 (fun H locs hP hD hS => ?_)
  have hP : va_P D classes (wd_Md_put cI cZ cJ tq h0 h_black h_fine h_middle h_coarse h_flat h_looseOnes h_places h_skipped h_known h_bits h_contexts h_rowsOf h_came h_found f_code f_width f_height f_template f_placeMany f_isTypical f_isFax f_isOpen f_toldMany f_passed f_copied f_cameMany f_readBits f_rowsRead f_isDone f_refused f_at f_lacks f_why f_wasCopy f_place f_colour n_black (upd g_black (((24 : Int32) * x2) + x1).toNatClampNeg (vp_nar .boolean x3))) H := hP
  have hD : va_D A (wd_Md_put cI cZ cJ tq h0 h_black h_fine h_middle h_coarse h_flat h_looseOnes h_places h_skipped h_known h_bits h_contexts h_rowsOf h_came h_found f_code f_width f_height f_template f_placeMany f_isTypical f_isFax f_isOpen f_toldMany f_passed f_copied f_cameMany f_readBits f_rowsRead f_isDone f_refused f_at f_lacks f_why f_wasCopy f_place f_colour n_black (upd g_black (((24 : Int32) * x2) + x1).toNatClampNeg (vp_nar .boolean x3))) := hD
  refine lv_iload hx hb d_Md_put_45 (lv_at hl 0 rfl) ?_
  by_cases g47 : ¬ (z0 = 0 ∨ z0 = 1)
  · exact no_some (it_t hf g47)
  have hf := it_f hf g47
  obtain ⟨e0, e1, e2⟩ := so3 hf
  subst e0; subst e1; subst e2
  exact W.zret (v := z0) hx hb hr (bz_nar g47) (fun t ht hW => ⟨⟨_, (), rfl, rfl, by rw [ht]; exact hP, va_K.moved hW.alike hK, hD⟩, hS.F ht⟩) hS.2.2 d_Md_put_47 hlocks
set_option maxHeartbeats 4000000 in
set_option maxRecDepth 100000 in
theorem c_Md_put (l : Launch) (D : va_G) (cI cZ cJ : ClassId) (tq : Nat → Nat) (h0 : Nat) (h_black : Nat) (h_fine : Nat) (h_middle : Nat) (h_coarse : Nat) (h_flat : Nat) (h_looseOnes : Nat) (h_places : Nat) (h_skipped : Nat) (h_known : Nat) (h_bits : Nat) (h_contexts : Nat) (h_rowsOf : Nat) (h_came : Nat) (h_found : Nat) (sz : Nat) (f_code : Int32) (f_width : Int32) (f_height : Int32) (f_template : Int32) (f_placeMany : Int32) (f_isTypical : Int32) (f_isFax : Int32) (f_isOpen : Int32) (f_toldMany : Int32) (f_passed : Int32) (f_copied : Int32) (f_cameMany : Int32) (f_readBits : Int32) (f_rowsRead : Int32) (f_isDone : Int32) (f_refused : Int32) (f_at : Int32) (f_lacks : Int32) (f_why : Int32) (f_wasCopy : Int32) (f_place : Int32) (f_colour : Int32) (n_black : Nat) (g_black : Nat → Int32) (x1 : Int32) (x2 : Int32) (x3 : Int32) (o_r : Int32) (o_f_code : Int32) (o_g_black : Nat → Int32) (hf : F_Md_put x1 x2 x3 f_code f_width f_height n_black g_black = some (o_r, o_f_code, o_g_black)) : Met l y_Md_put ws_Md_put RM_Md_put (va_Pc [.ref h0, .int x1, .int x2, .int x3] (Pg D cI cZ cJ tq (wd_Md_put cI cZ cJ tq h0 h_black h_fine h_middle h_coarse h_flat h_looseOnes h_places h_skipped h_known h_bits h_contexts h_rowsOf h_came h_found f_code f_width f_height f_template f_placeMany f_isTypical f_isFax f_isOpen f_toldMany f_passed f_copied f_cameMany f_readBits f_rowsRead f_isDone f_refused f_at f_lacks f_why f_wasCopy f_place f_colour n_black g_black) sz)) (qI D cI cZ cJ (va_A (wd_Md_put cI cZ cJ tq h0 h_black h_fine h_middle h_coarse h_flat h_looseOnes h_places h_skipped h_known h_bits h_contexts h_rowsOf h_came h_found f_code f_width f_height f_template f_placeMany f_isTypical f_isFax f_isOpen f_toldMany f_passed f_copied f_cameMany f_readBits f_rowsRead f_isDone f_refused f_at f_lacks f_why f_wasCopy f_place f_colour n_black g_black) sz) o_r (wd_Md_put cI cZ cJ tq h0 h_black h_fine h_middle h_coarse h_flat h_looseOnes h_places h_skipped h_known h_bits h_contexts h_rowsOf h_came h_found o_f_code f_width f_height f_template f_placeMany f_isTypical f_isFax f_isOpen f_toldMany f_passed f_copied f_cameMany f_readBits f_rowsRead f_isDone f_refused f_at f_lacks f_why f_wasCopy f_place f_colour n_black o_g_black)) 0 0 (va_A (wd_Md_put cI cZ cJ tq h0 h_black h_fine h_middle h_coarse h_flat h_looseOnes h_places h_skipped h_known h_bits h_contexts h_rowsOf h_came h_found f_code f_width f_height f_template f_placeMany f_isTypical f_isFax f_isOpen f_toldMany f_passed f_copied f_cameMany f_readBits f_rowsRead f_isDone f_refused f_at f_lacks f_why f_wasCopy f_place f_colour n_black g_black) sz) := by
  refine Met.ofW (cc := b_Md_put) (maxL := 5) (ret := (some .boolean)) (by decide) rfl ?_
  intro p e s m args below meth c s₁ B hml hv
  obtain ⟨rfl, hsz, hP, hK, hD0, hG⟩ := hv
  have hx := B.exec
  have hb := B.bytes
  have hr := B.returns
  have htw : ∀ w ∈ W_all, w.before [.ref h0, .int x1, .int x2, .int x3].toArray s = true := fun w h => atoms_spec (ws := ws_Md_put) B.pre w (List.mem_cons_of_mem _ h)
  have hown : s.vm.findClass R_Md = some m.cls := findClass_of_methodNamed B.named
  have hlocks := B.notSynchronized
  subst hsz
  have hD := hD0.self (sz := s.heap.size)
  generalize hAe : va_A (wd_Md_put cI cZ cJ tq h0 h_black h_fine h_middle h_coarse h_flat h_looseOnes h_places h_skipped h_known h_bits h_contexts h_rowsOf h_came h_found f_code f_width f_height f_template f_placeMany f_isTypical f_isFax f_isOpen f_toldMany f_passed f_copied f_cameMany f_readBits f_rowsRead f_isDone f_refused f_at f_lacks f_why f_wasCopy f_place f_colour n_black g_black) s.heap.size = A at hD hG ⊢
  have hA : ∀ q : Nat, s.heap.size ≤ q → A q := fun q h => by rw [← hAe]; exact Or.inr h
  have hS : va_S A s.heap s.heap [] := va_S.rf
  have C0 : cx p s m meth c [.ref h0, .int x1, .int x2, .int x3].toArray b_Md_put (some .boolean) 5 R_Md D cI cZ cJ tq A := ⟨hx, hb, hr, hml, hown, htw, hlocks, hK, hG⟩
  have hl := lv_entry ([.ref h0, .int x1, .int x2, .int x3]) (n := 5) (Nat.le_of_ble_eq_true rfl)
  rw [lg_entry_eq]
  generalize (lg_sl ([.ref h0, .int x1, .int x2, .int x3]) ++ List.replicate (5 - (lg_sl ([.ref h0, .int x1, .int x2, .int x3])).length) Slot.unset).toArray = ls at hl ⊢
  have hl : lv_has ls 5 [(0, .ref h0), (1, .int x1), (2, .int x2), (3, .int x3)] := hl
  have hP : va_P D classes (wd_Md_put cI cZ cJ tq h0 h_black h_fine h_middle h_coarse h_flat h_looseOnes h_places h_skipped h_known h_bits h_contexts h_rowsOf h_came h_found f_code f_width f_height f_template f_placeMany f_isTypical f_isFax f_isOpen f_toldMany f_passed f_copied f_cameMany f_readBits f_rowsRead f_isDone f_refused f_at f_lacks f_why f_wasCopy f_place f_colour n_black g_black) s.heap := hP
  clear hAe
  unfold F_Md_put at hf
  refine lv_aload_n hx hb d_Md_put_0 rfl (lv_at hl 0 rfl) ?_
  refine lv_iload_n hx hb d_Md_put_1 rfl (lv_at hl 1 rfl) ?_
  refine lv_iload_n hx hb d_Md_put_2 rfl (lv_at hl 2 rfl) ?_
  obtain ⟨r3, w3_f_code, e3, hf⟩ := bd2_some hf
  refine g_calli (wc := (wd_Md_isSample cI cZ cJ tq h0 h_fine h_middle h_coarse h_flat h_looseOnes h_places h_black h_skipped h_known h_bits h_contexts h_rowsOf h_came h_found f_code f_width f_height f_template f_placeMany f_isTypical f_isFax f_isOpen f_toldMany f_passed f_copied f_cameMany f_readBits f_rowsRead f_isDone f_refused f_at f_lacks f_why f_wasCopy f_place f_colour)) (w1 := (wd_Md_isSample cI cZ cJ tq h0 h_fine h_middle h_coarse h_flat h_looseOnes h_places h_black h_skipped h_known h_bits h_contexts h_rowsOf h_came h_found w3_f_code f_width f_height f_template f_placeMany f_isTypical f_isFax f_isOpen f_toldMany f_passed f_copied f_cameMany f_readBits f_rowsRead f_isDone f_refused f_at f_lacks f_why f_wasCopy f_place f_colour)) (ws' := (wd_Md_put cI cZ cJ tq h0 h_black h_fine h_middle h_coarse h_flat h_looseOnes h_places h_skipped h_known h_bits h_contexts h_rowsOf h_came h_found w3_f_code f_width f_height f_template f_placeMany f_isTypical f_isFax f_isOpen f_toldMany f_passed f_copied f_cameMany f_readBits f_rowsRead f_isDone f_refused f_at f_lacks f_why f_wasCopy f_place f_colour n_black g_black)) (va_runV (As := [.int x1, .int x2]) (rest := []) ⟨hx, hb, hml, hown, htw⟩ (c_Md_isSample l D cI cZ cJ tq h0 h_fine h_middle h_coarse h_flat h_looseOnes h_places h_black h_skipped h_known h_bits h_contexts h_rowsOf h_came h_found _ f_code f_width f_height f_template f_placeMany f_isTypical f_isFax f_isOpen f_toldMany f_passed f_copied f_cameMany f_readBits f_rowsRead f_isDone f_refused f_at f_lacks f_why f_wasCopy f_place f_colour x1 x2 r3 w3_f_code e3) (cwV 2 htw (gd_V in497 in498 in499 in455 in496) rfl rfl rfl (by decide +kernel) ⟨Nat.le_of_ble_eq_true rfl, Nat.le_of_ble_eq_true rfl⟩) (preV_of (ci := 9) (q0 := 0) hG hS (va_free (wc := (wd_Md_isSample cI cZ cJ tq h0 h_fine h_middle h_coarse h_flat h_looseOnes h_places h_black h_skipped h_known h_bits h_contexts h_rowsOf h_came h_found f_code f_width f_height f_template f_placeMany f_isTypical f_isFax f_isOpen f_toldMany f_passed f_copied f_cameMany f_readBits f_rowsRead f_isDone f_refused f_at f_lacks f_why f_wasCopy f_place f_colour)) hD hS hA [0] rfl) hK hP rfl rfl (hP.sub (ws' := (wd_Md_isSample cI cZ cJ tq h0 h_fine h_middle h_coarse h_flat h_looseOnes h_places h_black h_skipped h_known h_bits h_contexts h_rowsOf h_came h_found f_code f_width f_height f_template f_placeMany f_isTypical f_isFax f_isOpen f_toldMany f_passed f_copied f_cameMany f_readBits f_rowsRead f_isDone f_refused f_at f_lacks f_why f_wasCopy f_place f_colour)) [0] rfl) (hD.sub (ws' := (wd_Md_isSample cI cZ cJ tq h0 h_fine h_middle h_coarse h_flat h_looseOnes h_places h_black h_skipped h_known h_bits h_contexts h_rowsOf h_came h_found f_code f_width f_height f_template f_placeMany f_isTypical f_isFax f_isOpen f_toldMany f_passed f_copied f_cameMany f_readBits f_rowsRead f_isDone f_refused f_at f_lacks f_why f_wasCopy f_place f_colour)) [0] (by decide) rfl)) rfl rfl hl.1 rfl (lv_room (Nat.le_of_ble_eq_true rfl)) d_Md_put_3 ⟨Nat.le_of_ble_eq_true rfl, Nat.le_of_ble_eq_true rfl⟩) hP hD hS hA [0] [1] [1, 0] rfl rfl (by decide) (by decide) (by decide) rfl (fun H locs hP hD hS => ?_)
  refine lv_if_ne (tgt := 11) hx hb d_Md_put_6 (by decide) (fun c6 => ?_) (fun c6 => ?_)
  · have hf := it_f hf c6
    refine lv_aload_n hx hb d_Md_put_11 rfl (lv_at hl 0 rfl) ?_
    refine va_get (D := D) (ci := 9) (v := .ref h_black) (C := R_Md) (T := F_Md) (N := 36) hx hb htw i_Md hown hK hP 0 rfl rfl 11 (by decide) (htw _ in465) (fun _ h9 => h9) rfl d_Md_put_12 ?_
    refine lv_bipush (v := 24) hx hb d_Md_put_15 (by decide) ?_
    refine lv_iload_n hx hb d_Md_put_17 rfl (lv_at hl 2 rfl) ?_
    refine lv_imul hx hb d_Md_put_18 ?_
    refine lv_iload_n hx hb d_Md_put_19 rfl (lv_at hl 1 rfl) ?_
    refine lv_iadd hx hb d_Md_put_20 ?_
    by_cases g21 : (((24 : Int32) * x2) + x1) < 0 ∨ n_black ≤ (((24 : Int32) * x2) + x1).toNatClampNeg
    · exact no_some (it_t hf g21)
    have hf := it_f hf g21
    refine va_zald hx hb hK hP 1 1 rfl rfl g21 d_Md_put_21 ?_
    refine lv_iload_n hx hb d_Md_put_22 rfl (lv_at hl 3 rfl) ?_
    refine lv_icmp_eq (tgt := 30) hx hb d_Md_put_23 (by decide) (fun c23 => ?_) (fun c23 => ?_)
    · have hf := it_t hf c23
      refine lv_iconst (v := 0) hx hb d_Md_put_30 (by decide) ?_
      exact w_Md_put_31 h0 h_black h_fine h_middle h_coarse h_flat h_looseOnes h_places h_skipped h_known h_bits h_contexts h_rowsOf h_came h_found f_width f_height f_template f_placeMany f_isTypical f_isFax f_isOpen f_toldMany f_passed f_copied f_cameMany f_readBits f_rowsRead f_isDone f_refused f_at f_lacks f_why f_wasCopy f_place f_colour n_black o_r o_f_code o_g_black C0 hA x1 x2 x3 0 w3_f_code g_black _ _ ls hP hD hS (lv_sub hl [0, 1, 2, 3] rfl) hf
    · have hf := it_f hf c23
      refine lv_iconst (v := 1) hx hb d_Md_put_26 (by decide) ?_
      refine lv_goto (tgt := 31) hx hb d_Md_put_27 (by decide) ?_
      exact w_Md_put_31 h0 h_black h_fine h_middle h_coarse h_flat h_looseOnes h_places h_skipped h_known h_bits h_contexts h_rowsOf h_came h_found f_width f_height f_template f_placeMany f_isTypical f_isFax f_isOpen f_toldMany f_passed f_copied f_cameMany f_readBits f_rowsRead f_isDone f_refused f_at f_lacks f_why f_wasCopy f_place f_colour n_black o_r o_f_code o_g_black C0 hA x1 x2 x3 1 w3_f_code g_black _ _ ls hP hD hS (lv_sub hl [0, 1, 2, 3] rfl) hf
  · have hf := it_t hf c6
    refine lv_iconst (v := 0) hx hb d_Md_put_9 (by decide) ?_
    obtain ⟨e0, e1, e2⟩ := so3 hf
    subst e0; subst e1; subst e2
    exact W.zret (v := 0) hx hb hr rfl (fun t ht hW => ⟨⟨_, (), rfl, rfl, by rw [ht]; exact hP, va_K.moved hW.alike hK, hD⟩, hS.F ht⟩) hS.2.2 d_Md_put_10 hlocks
-- Md_row
abbrev RM_Md_row : Room := { frames := 1, cells := 0, slots := 0, locals := 22 }
def ws_Md_row : List Cond := .code y_Md_row b_Md_row 5 (some .int) :: W_all
def wd_Md_row (cI cZ cJ : ClassId) (tq : Nat → Nat) (h0 : Nat) (h_black : Nat) (h_fine : Nat) (h_middle : Nat) (h_coarse : Nat) (h_flat : Nat) (h_looseOnes : Nat) (h_places : Nat) (h_skipped : Nat) (h_known : Nat) (h_bits : Nat) (h_contexts : Nat) (h_rowsOf : Nat) (h_came : Nat) (h_found : Nat) (f_code : Int32) (f_width : Int32) (f_height : Int32) (f_template : Int32) (f_placeMany : Int32) (f_isTypical : Int32) (f_isFax : Int32) (f_isOpen : Int32) (f_toldMany : Int32) (f_passed : Int32) (f_copied : Int32) (f_cameMany : Int32) (f_readBits : Int32) (f_rowsRead : Int32) (f_isDone : Int32) (f_refused : Int32) (f_at : Int32) (f_lacks : Int32) (f_why : Int32) (f_wasCopy : Int32) (f_place : Int32) (f_colour : Int32) (n_black : Nat) (g_black : Nat → Int32) : va_W := [(h0, .inr (9, [.ref h_fine, .ref h_middle, .ref h_coarse, .ref h_flat, .ref h_looseOnes, .int f_code, .int f_width, .int f_height, .int f_template, .int f_placeMany, .ref h_places, .ref h_black, .ref h_skipped, .int f_isTypical, .int f_isFax, .int f_isOpen, .int f_toldMany, .int f_passed, .int f_copied, .ref h_known, .ref h_bits, .ref h_contexts, .ref h_rowsOf, .int f_cameMany, .ref h_came, .ref h_found, .int f_readBits, .int f_rowsRead, .int f_isDone, .int f_refused, .int f_at, .int f_lacks, .int f_why, .int f_wasCopy, .int f_place, .int f_colour])), (h_black, .inl (cZ, n_black, .inl g_black))]
def F_Md_row_70 (k : Nat) (K28 : Int32 → Int32 → Int32 → Int32 → Int32 → (Nat → Int32) → Option (Int32 × Int32 × (Nat → Int32))) (f_width : Int32) (f_height : Int32) (n_black : Nat) (x1 : Int32) (x2 : Int32) (x3 : Int32) (x4 : Int32) (z0 : Int32) (z1 : Int32) (f_code : Int32) (g_black : Nat → Int32) : Option (Int32 × Int32 × (Nat → Int32)) :=
  (if z1 < 0 ∨ n_black ≤ z1.toNatClampNeg then none else (K28 x1 x2 (x3 + ((x2 >>> (x4 &&& 31)) &&& (1 : Int32))) (x4 + 1) f_code (upd g_black z1.toNatClampNeg (vp_nar .boolean z0))))
def F_Md_row_28 (k : Nat) (f_width : Int32) (f_height : Int32) (n_black : Nat) : Nat → Int32 → Int32 → Int32 → Int32 → Int32 → (Nat → Int32) → Option (Int32 × Int32 × (Nat → Int32))
  | 0, _, _, _, _, _, _ => none
  | n + 1, x1, x2, x3, x4, f_code, g_black =>
    (if f_width ≤ x4 then (some (x3, f_code, g_black)) else (if f_code = 0 then (if ((x2 >>> (x4 &&& 31)) &&& (1 : Int32)) = (1 : Int32) then (F_Md_row_70 k (F_Md_row_28 k f_width f_height n_black n) f_width f_height n_black x1 x2 x3 x4 1 (((24 : Int32) * x1) + x4) f_code g_black) else (F_Md_row_70 k (F_Md_row_28 k f_width f_height n_black n) f_width f_height n_black x1 x2 x3 x4 0 (((24 : Int32) * x1) + x4) f_code g_black)) else (some (x3, f_code, g_black))))
def F_Md_row_20 (k : Nat) (f_width : Int32) (f_height : Int32) (n_black : Nat) (x1 : Int32) (x2 : Int32) (z0 : Int32) (f_code : Int32) (g_black : Nat → Int32) : Option (Int32 × Int32 × (Nat → Int32)) :=
  (F_Md_row_28 k f_width f_height n_black k x1 x2 0 0 z0 g_black)
def F_Md_row (k : Nat) (x1 : Int32) (x2 : Int32) (f_code : Int32) (f_width : Int32) (f_height : Int32) (n_black : Nat) (g_black : Nat → Int32) : Option (Int32 × Int32 × (Nat → Int32)) :=
  (bd1 (F_Md_in x1 0 (f_height - (1 : Int32))) (fun r9 => (if r9 = 0 then (F_Md_row_20 k f_width f_height n_black x1 x2 1 f_code g_black) else (F_Md_row_20 k f_width f_height n_black x1 x2 0 f_code g_black))))
set_option maxHeartbeats 4000000 in
set_option maxRecDepth 100000 in
theorem w_Md_row_70 {p : Program} {l : Launch} {e : Env} {s : State} {m : MethodId} {args : Array Value} {below : List Frame} {meth : Method} {c : Code} {D : va_G} {cI cZ cJ : ClassId} {tq : Nat → Nat} {A : Nat → Prop} (k : Nat) (h0 : Nat) (h_black : Nat) (h_fine : Nat) (h_middle : Nat) (h_coarse : Nat) (h_flat : Nat) (h_looseOnes : Nat) (h_places : Nat) (h_skipped : Nat) (h_known : Nat) (h_bits : Nat) (h_contexts : Nat) (h_rowsOf : Nat) (h_came : Nat) (h_found : Nat) (f_width : Int32) (f_height : Int32) (f_template : Int32) (f_placeMany : Int32) (f_isTypical : Int32) (f_isFax : Int32) (f_isOpen : Int32) (f_toldMany : Int32) (f_passed : Int32) (f_copied : Int32) (f_cameMany : Int32) (f_readBits : Int32) (f_rowsRead : Int32) (f_isDone : Int32) (f_refused : Int32) (f_at : Int32) (f_lacks : Int32) (f_why : Int32) (f_wasCopy : Int32) (f_place : Int32) (f_colour : Int32) (n_black : Nat) (o_r : Int32) (o_f_code : Int32) (o_g_black : Nat → Int32) (C0 : cx p s m meth c args b_Md_row (some .int) 5 R_Md D cI cZ cJ tq A) (hA : ∀ q : Nat, s.heap.size ≤ q → A q) (K28 : Int32 → Int32 → Int32 → Int32 → Int32 → (Nat → Int32) → Option (Int32 × Int32 × (Nat → Int32))) (hK28 : ∀ (x1 : Int32) (x2 : Int32) (x3 : Int32) (x4 : Int32) (f_code : Int32) (g_black : Nat → Int32) (H : Heap) (locs : List Loc) (ls : Array Slot), va_P D classes (wd_Md_row cI cZ cJ tq h0 h_black h_fine h_middle h_coarse h_flat h_looseOnes h_places h_skipped h_known h_bits h_contexts h_rowsOf h_came h_found f_code f_width f_height f_template f_placeMany f_isTypical f_isFax f_isOpen f_toldMany f_passed f_copied f_cameMany f_readBits f_rowsRead f_isDone f_refused f_at f_lacks f_why f_wasCopy f_place f_colour n_black g_black) H → va_D A (wd_Md_row cI cZ cJ tq h0 h_black h_fine h_middle h_coarse h_flat h_looseOnes h_places h_skipped h_known h_bits h_contexts h_rowsOf h_came h_found f_code f_width f_height f_template f_placeMany f_isTypical f_isFax f_isOpen f_toldMany f_passed f_copied f_cameMany f_readBits f_rowsRead f_isDone f_refused f_at f_lacks f_why f_wasCopy f_place f_colour n_black g_black) → va_S A s.heap H locs → lv_has ls 5 [(0, .ref h0), (1, .int x1), (2, .int x2), (3, .int x3), (4, .int x4)] → K28 x1 x2 x3 x4 f_code g_black = some (o_r, o_f_code, o_g_black) → W p l e RM_Md_row s m args below meth c H locs 0 0 (MQ below (qI D cI cZ cJ A o_r (wd_Md_row cI cZ cJ tq h0 h_black h_fine h_middle h_coarse h_flat h_looseOnes h_places h_skipped h_known h_bits h_contexts h_rowsOf h_came h_found o_f_code f_width f_height f_template f_placeMany f_isTypical f_isFax f_isOpen f_toldMany f_passed f_copied f_cameMany f_readBits f_rowsRead f_isDone f_refused f_at f_lacks f_why f_wasCopy f_place f_colour n_black o_g_black)) args s 0 0 A) (F0 m 28 ls [])) : ∀ (x1 : Int32) (x2 : Int32) (x3 : Int32) (x4 : Int32) (z0 : Int32) (z1 : Int32) (f_code : Int32) (g_black : Nat → Int32) (H : Heap) (locs : List Loc) (ls : Array Slot), va_P D classes (wd_Md_row cI cZ cJ tq h0 h_black h_fine h_middle h_coarse h_flat h_looseOnes h_places h_skipped h_known h_bits h_contexts h_rowsOf h_came h_found f_code f_width f_height f_template f_placeMany f_isTypical f_isFax f_isOpen f_toldMany f_passed f_copied f_cameMany f_readBits f_rowsRead f_isDone f_refused f_at f_lacks f_why f_wasCopy f_place f_colour n_black g_black) H → va_D A (wd_Md_row cI cZ cJ tq h0 h_black h_fine h_middle h_coarse h_flat h_looseOnes h_places h_skipped h_known h_bits h_contexts h_rowsOf h_came h_found f_code f_width f_height f_template f_placeMany f_isTypical f_isFax f_isOpen f_toldMany f_passed f_copied f_cameMany f_readBits f_rowsRead f_isDone f_refused f_at f_lacks f_why f_wasCopy f_place f_colour n_black g_black) → va_S A s.heap H locs → lv_has ls 5 [(0, .ref h0), (1, .int x1), (2, .int x2), (3, .int x3), (4, .int x4)] → F_Md_row_70 k K28 f_width f_height n_black x1 x2 x3 x4 z0 z1 f_code g_black = some (o_r, o_f_code, o_g_black) → W p l e RM_Md_row s m args below meth c H locs 0 0 (MQ below (qI D cI cZ cJ A o_r (wd_Md_row cI cZ cJ tq h0 h_black h_fine h_middle h_coarse h_flat h_looseOnes h_places h_skipped h_known h_bits h_contexts h_rowsOf h_came h_found o_f_code f_width f_height f_template f_placeMany f_isTypical f_isFax f_isOpen f_toldMany f_passed f_copied f_cameMany f_readBits f_rowsRead f_isDone f_refused f_at f_lacks f_why f_wasCopy f_place f_colour n_black o_g_black)) args s 0 0 A) (F0 m 70 ls [.int z0, .int z1, .ref h_black]) := by
  obtain ⟨hx, hb, hr, hml, hown, htw, hlocks, hK, hG⟩ := id C0
  intro x1 x2 x3 x4 z0 z1 f_code g_black H locs ls hP hD hS hl hf
  unfold F_Md_row_70 at hf
  by_cases g70 : z1 < 0 ∨ n_black ≤ z1.toNatClampNeg
  · exact no_some (it_t hf g70)
  have hf := it_f hf g70
  refine va_zast hx hb hK hP hD hS 1 1 rfl rfl g70 d_Md_row_70 (fun H locs hP hD hS => ?_)
  have hP : va_P D classes (wd_Md_row cI cZ cJ tq h0 h_black h_fine h_middle h_coarse h_flat h_looseOnes h_places h_skipped h_known h_bits h_contexts h_rowsOf h_came h_found f_code f_width f_height f_template f_placeMany f_isTypical f_isFax f_isOpen f_toldMany f_passed f_copied f_cameMany f_readBits f_rowsRead f_isDone f_refused f_at f_lacks f_why f_wasCopy f_place f_colour n_black (upd g_black z1.toNatClampNeg (vp_nar .boolean z0))) H := hP
  have hD : va_D A (wd_Md_row cI cZ cJ tq h0 h_black h_fine h_middle h_coarse h_flat h_looseOnes h_places h_skipped h_known h_bits h_contexts h_rowsOf h_came h_found f_code f_width f_height f_template f_placeMany f_isTypical f_isFax f_isOpen f_toldMany f_passed f_copied f_cameMany f_readBits f_rowsRead f_isDone f_refused f_at f_lacks f_why f_wasCopy f_place f_colour n_black (upd g_black z1.toNatClampNeg (vp_nar .boolean z0))) := hD
  refine lv_iload_n hx hb d_Md_row_71 rfl (lv_at hl 3 rfl) ?_
  refine lv_iload_n hx hb d_Md_row_72 rfl (lv_at hl 2 rfl) ?_
  refine lv_iload hx hb d_Md_row_73 (lv_at hl 4 rfl) ?_
  refine lv_ishr hx hb d_Md_row_75 ?_
  refine lv_iconst (v := 1) hx hb d_Md_row_76 (by decide) ?_
  refine lv_iand hx hb d_Md_row_77 ?_
  refine lv_iadd hx hb d_Md_row_78 ?_
  refine lv_istore_n (lv' := [(3, .int (x3 + ((x2 >>> (x4 &&& 31)) &&& (1 : Int32)))), (0, .ref h0), (1, .int x1), (2, .int x2), (4, .int x4)]) hx hb d_Md_row_79 rfl hl (by decide) rfl (fun ls hl => ?_)
  refine lv_iinc (v := (x4 + 1)) (lv' := [(4, .int (x4 + 1)), (3, .int (x3 + ((x2 >>> (x4 &&& 31)) &&& (1 : Int32)))), (0, .ref h0), (1, .int x1), (2, .int x2)]) hx hb d_Md_row_80 hl (k := 4) rfl rfl (by decide) rfl (fun ls hl => ?_)
  refine lv_goto (tgt := 28) hx hb d_Md_row_83 (by decide) ?_
  exact hK28 x1 x2 (x3 + ((x2 >>> (x4 &&& 31)) &&& (1 : Int32))) (x4 + 1) f_code (upd g_black z1.toNatClampNeg (vp_nar .boolean z0)) _ _ ls hP hD hS (lv_sub hl [2, 3, 4, 1, 0] rfl) hf
set_option maxHeartbeats 4000000 in
set_option maxRecDepth 100000 in
theorem w_Md_row_28 {p : Program} {l : Launch} {e : Env} {s : State} {m : MethodId} {args : Array Value} {below : List Frame} {meth : Method} {c : Code} {D : va_G} {cI cZ cJ : ClassId} {tq : Nat → Nat} {A : Nat → Prop} (k : Nat) (h0 : Nat) (h_black : Nat) (h_fine : Nat) (h_middle : Nat) (h_coarse : Nat) (h_flat : Nat) (h_looseOnes : Nat) (h_places : Nat) (h_skipped : Nat) (h_known : Nat) (h_bits : Nat) (h_contexts : Nat) (h_rowsOf : Nat) (h_came : Nat) (h_found : Nat) (f_width : Int32) (f_height : Int32) (f_template : Int32) (f_placeMany : Int32) (f_isTypical : Int32) (f_isFax : Int32) (f_isOpen : Int32) (f_toldMany : Int32) (f_passed : Int32) (f_copied : Int32) (f_cameMany : Int32) (f_readBits : Int32) (f_rowsRead : Int32) (f_isDone : Int32) (f_refused : Int32) (f_at : Int32) (f_lacks : Int32) (f_why : Int32) (f_wasCopy : Int32) (f_place : Int32) (f_colour : Int32) (n_black : Nat) (o_r : Int32) (o_f_code : Int32) (o_g_black : Nat → Int32) (C0 : cx p s m meth c args b_Md_row (some .int) 5 R_Md D cI cZ cJ tq A) (hA : ∀ q : Nat, s.heap.size ≤ q → A q) : ∀ n : Nat, ∀ (x1 : Int32) (x2 : Int32) (x3 : Int32) (x4 : Int32) (f_code : Int32) (g_black : Nat → Int32) (H : Heap) (locs : List Loc) (ls : Array Slot), va_P D classes (wd_Md_row cI cZ cJ tq h0 h_black h_fine h_middle h_coarse h_flat h_looseOnes h_places h_skipped h_known h_bits h_contexts h_rowsOf h_came h_found f_code f_width f_height f_template f_placeMany f_isTypical f_isFax f_isOpen f_toldMany f_passed f_copied f_cameMany f_readBits f_rowsRead f_isDone f_refused f_at f_lacks f_why f_wasCopy f_place f_colour n_black g_black) H → va_D A (wd_Md_row cI cZ cJ tq h0 h_black h_fine h_middle h_coarse h_flat h_looseOnes h_places h_skipped h_known h_bits h_contexts h_rowsOf h_came h_found f_code f_width f_height f_template f_placeMany f_isTypical f_isFax f_isOpen f_toldMany f_passed f_copied f_cameMany f_readBits f_rowsRead f_isDone f_refused f_at f_lacks f_why f_wasCopy f_place f_colour n_black g_black) → va_S A s.heap H locs → lv_has ls 5 [(0, .ref h0), (1, .int x1), (2, .int x2), (3, .int x3), (4, .int x4)] → F_Md_row_28 k f_width f_height n_black n x1 x2 x3 x4 f_code g_black = some (o_r, o_f_code, o_g_black) → W p l e RM_Md_row s m args below meth c H locs 0 0 (MQ below (qI D cI cZ cJ A o_r (wd_Md_row cI cZ cJ tq h0 h_black h_fine h_middle h_coarse h_flat h_looseOnes h_places h_skipped h_known h_bits h_contexts h_rowsOf h_came h_found o_f_code f_width f_height f_template f_placeMany f_isTypical f_isFax f_isOpen f_toldMany f_passed f_copied f_cameMany f_readBits f_rowsRead f_isDone f_refused f_at f_lacks f_why f_wasCopy f_place f_colour n_black o_g_black)) args s 0 0 A) (F0 m 28 ls []) := by
  obtain ⟨hx, hb, hr, hml, hown, htw, hlocks, hK, hG⟩ := id C0
  intro n
  induction n with
  | zero =>
    intro x1 x2 x3 x4 f_code g_black H locs ls hP hD hS hl hf
    exact no_some hf
  | succ n ih =>
    intro x1 x2 x3 x4 f_code g_black H locs ls hP hD hS hl hf
    rw [F_Md_row_28] at hf
    refine lv_iload hx hb d_Md_row_28 (lv_at hl 4 rfl) ?_
    refine lv_aload_n hx hb d_Md_row_30 rfl (lv_at hl 0 rfl) ?_
    refine va_get (D := D) (ci := 9) (v := .int f_width) (C := R_Md) (T := F_Md) (N := 36) hx hb htw i_Md hown hK hP 0 rfl rfl 6 (by decide) (htw _ in487) (fun _ h9 => h9) rfl d_Md_row_31 ?_
    refine lv_icmp_ge (tgt := 86) hx hb d_Md_row_34 (by decide) (fun c34 => ?_) (fun c34 => ?_)
    · have hf := it_t hf c34
      refine lv_iload_n hx hb d_Md_row_86 rfl (lv_at hl 3 rfl) ?_
      obtain ⟨e0, e1, e2⟩ := so3 hf
      subst e0; subst e1; subst e2
      exact W.iret (v := x3) hx hb hr (fun t ht hW => ⟨⟨_, (), rfl, rfl, by rw [ht]; exact hP, va_K.moved hW.alike hK, hD⟩, hS.F ht⟩) hS.2.2 d_Md_row_87 hlocks
    · have hf := it_f hf c34
      refine lv_aload_n hx hb d_Md_row_37 rfl (lv_at hl 0 rfl) ?_
      refine va_get (D := D) (ci := 9) (v := .int f_code) (C := R_Md) (T := F_Md) (N := 36) hx hb htw i_Md hown hK hP 0 rfl rfl 5 (by decide) (htw _ in448) (fun _ h9 => h9) rfl d_Md_row_38 ?_
      refine lv_if_ne (tgt := 86) hx hb d_Md_row_41 (by decide) (fun c41 => ?_) (fun c41 => ?_)
      · have hf := it_f hf c41
        refine lv_iload_n hx hb d_Md_row_86 rfl (lv_at hl 3 rfl) ?_
        obtain ⟨e0, e1, e2⟩ := so3 hf
        subst e0; subst e1; subst e2
        exact W.iret (v := x3) hx hb hr (fun t ht hW => ⟨⟨_, (), rfl, rfl, by rw [ht]; exact hP, va_K.moved hW.alike hK, hD⟩, hS.F ht⟩) hS.2.2 d_Md_row_87 hlocks
      · have hf := it_t hf c41
        refine lv_aload_n hx hb d_Md_row_44 rfl (lv_at hl 0 rfl) ?_
        refine va_get (D := D) (ci := 9) (v := .ref h_black) (C := R_Md) (T := F_Md) (N := 36) hx hb htw i_Md hown hK hP 0 rfl rfl 11 (by decide) (htw _ in465) (fun _ h9 => h9) rfl d_Md_row_45 ?_
        refine lv_bipush (v := 24) hx hb d_Md_row_48 (by decide) ?_
        refine lv_iload_n hx hb d_Md_row_50 rfl (lv_at hl 1 rfl) ?_
        refine lv_imul hx hb d_Md_row_51 ?_
        refine lv_iload hx hb d_Md_row_52 (lv_at hl 4 rfl) ?_
        refine lv_iadd hx hb d_Md_row_54 ?_
        refine lv_iload_n hx hb d_Md_row_55 rfl (lv_at hl 2 rfl) ?_
        refine lv_iload hx hb d_Md_row_56 (lv_at hl 4 rfl) ?_
        refine lv_ishr hx hb d_Md_row_58 ?_
        refine lv_iconst (v := 1) hx hb d_Md_row_59 (by decide) ?_
        refine lv_iand hx hb d_Md_row_60 ?_
        refine lv_iconst (v := 1) hx hb d_Md_row_61 (by decide) ?_
        refine lv_icmp_ne (tgt := 69) hx hb d_Md_row_62 (by decide) (fun c62 => ?_) (fun c62 => ?_)
        · have hf := it_f hf c62
          refine lv_iconst (v := 0) hx hb d_Md_row_69 (by decide) ?_
          exact w_Md_row_70 k h0 h_black h_fine h_middle h_coarse h_flat h_looseOnes h_places h_skipped h_known h_bits h_contexts h_rowsOf h_came h_found f_width f_height f_template f_placeMany f_isTypical f_isFax f_isOpen f_toldMany f_passed f_copied f_cameMany f_readBits f_rowsRead f_isDone f_refused f_at f_lacks f_why f_wasCopy f_place f_colour n_black o_r o_f_code o_g_black C0 hA (F_Md_row_28 k f_width f_height n_black n) ih x1 x2 x3 x4 0 (((24 : Int32) * x1) + x4) f_code g_black _ _ ls hP hD hS (lv_sub hl [0, 1, 2, 3, 4] rfl) hf
        · have hf := it_t hf c62
          refine lv_iconst (v := 1) hx hb d_Md_row_65 (by decide) ?_
          refine lv_goto (tgt := 70) hx hb d_Md_row_66 (by decide) ?_
          exact w_Md_row_70 k h0 h_black h_fine h_middle h_coarse h_flat h_looseOnes h_places h_skipped h_known h_bits h_contexts h_rowsOf h_came h_found f_width f_height f_template f_placeMany f_isTypical f_isFax f_isOpen f_toldMany f_passed f_copied f_cameMany f_readBits f_rowsRead f_isDone f_refused f_at f_lacks f_why f_wasCopy f_place f_colour n_black o_r o_f_code o_g_black C0 hA (F_Md_row_28 k f_width f_height n_black n) ih x1 x2 x3 x4 1 (((24 : Int32) * x1) + x4) f_code g_black _ _ ls hP hD hS (lv_sub hl [0, 1, 2, 3, 4] rfl) hf
set_option maxHeartbeats 4000000 in
set_option maxRecDepth 100000 in
theorem w_Md_row_20 {p : Program} {l : Launch} {e : Env} {s : State} {m : MethodId} {args : Array Value} {below : List Frame} {meth : Method} {c : Code} {D : va_G} {cI cZ cJ : ClassId} {tq : Nat → Nat} {A : Nat → Prop} (k : Nat) (h0 : Nat) (h_black : Nat) (h_fine : Nat) (h_middle : Nat) (h_coarse : Nat) (h_flat : Nat) (h_looseOnes : Nat) (h_places : Nat) (h_skipped : Nat) (h_known : Nat) (h_bits : Nat) (h_contexts : Nat) (h_rowsOf : Nat) (h_came : Nat) (h_found : Nat) (f_width : Int32) (f_height : Int32) (f_template : Int32) (f_placeMany : Int32) (f_isTypical : Int32) (f_isFax : Int32) (f_isOpen : Int32) (f_toldMany : Int32) (f_passed : Int32) (f_copied : Int32) (f_cameMany : Int32) (f_readBits : Int32) (f_rowsRead : Int32) (f_isDone : Int32) (f_refused : Int32) (f_at : Int32) (f_lacks : Int32) (f_why : Int32) (f_wasCopy : Int32) (f_place : Int32) (f_colour : Int32) (n_black : Nat) (o_r : Int32) (o_f_code : Int32) (o_g_black : Nat → Int32) (C0 : cx p s m meth c args b_Md_row (some .int) 5 R_Md D cI cZ cJ tq A) (hA : ∀ q : Nat, s.heap.size ≤ q → A q) : ∀ (x1 : Int32) (x2 : Int32) (z0 : Int32) (f_code : Int32) (g_black : Nat → Int32) (H : Heap) (locs : List Loc) (ls : Array Slot), va_P D classes (wd_Md_row cI cZ cJ tq h0 h_black h_fine h_middle h_coarse h_flat h_looseOnes h_places h_skipped h_known h_bits h_contexts h_rowsOf h_came h_found f_code f_width f_height f_template f_placeMany f_isTypical f_isFax f_isOpen f_toldMany f_passed f_copied f_cameMany f_readBits f_rowsRead f_isDone f_refused f_at f_lacks f_why f_wasCopy f_place f_colour n_black g_black) H → va_D A (wd_Md_row cI cZ cJ tq h0 h_black h_fine h_middle h_coarse h_flat h_looseOnes h_places h_skipped h_known h_bits h_contexts h_rowsOf h_came h_found f_code f_width f_height f_template f_placeMany f_isTypical f_isFax f_isOpen f_toldMany f_passed f_copied f_cameMany f_readBits f_rowsRead f_isDone f_refused f_at f_lacks f_why f_wasCopy f_place f_colour n_black g_black) → va_S A s.heap H locs → lv_has ls 5 [(0, .ref h0), (1, .int x1), (2, .int x2)] → F_Md_row_20 k f_width f_height n_black x1 x2 z0 f_code g_black = some (o_r, o_f_code, o_g_black) → W p l e RM_Md_row s m args below meth c H locs 0 0 (MQ below (qI D cI cZ cJ A o_r (wd_Md_row cI cZ cJ tq h0 h_black h_fine h_middle h_coarse h_flat h_looseOnes h_places h_skipped h_known h_bits h_contexts h_rowsOf h_came h_found o_f_code f_width f_height f_template f_placeMany f_isTypical f_isFax f_isOpen f_toldMany f_passed f_copied f_cameMany f_readBits f_rowsRead f_isDone f_refused f_at f_lacks f_why f_wasCopy f_place f_colour n_black o_g_black)) args s 0 0 A) (F0 m 20 ls [.int z0, .ref h0]) := by
  obtain ⟨hx, hb, hr, hml, hown, htw, hlocks, hK, hG⟩ := id C0
  intro x1 x2 z0 f_code g_black H locs ls hP hD hS hl hf
  unfold F_Md_row_20 at hf
  refine va_put (D := D) (ci := 9) (v := .int z0) (ty := .int) (C := R_Md) (T := F_Md) (N := 36) hx hb htw i_Md t_Md t_Md_ok n_Md hown hK hP hD hS 0 rfl rfl 5 (by decide) (htw _ in448) (fun _ h9 => h9) rfl (by decide +kernel) rfl rfl (Nat.le_of_ble_eq_true rfl) d_Md_row_20 (fun H locs hP hD hS => ?_)
  have hP : va_P D classes (wd_Md_row cI cZ cJ tq h0 h_black h_fine h_middle h_coarse h_flat h_looseOnes h_places h_skipped h_known h_bits h_contexts h_rowsOf h_came h_found z0 f_width f_height f_template f_placeMany f_isTypical f_isFax f_isOpen f_toldMany f_passed f_copied f_cameMany f_readBits f_rowsRead f_isDone f_refused f_at f_lacks f_why f_wasCopy f_place f_colour n_black g_black) H := hP
  have hD : va_D A (wd_Md_row cI cZ cJ tq h0 h_black h_fine h_middle h_coarse h_flat h_looseOnes h_places h_skipped h_known h_bits h_contexts h_rowsOf h_came h_found z0 f_width f_height f_template f_placeMany f_isTypical f_isFax f_isOpen f_toldMany f_passed f_copied f_cameMany f_readBits f_rowsRead f_isDone f_refused f_at f_lacks f_why f_wasCopy f_place f_colour n_black g_black) := hD
  refine lv_iconst (v := 0) hx hb d_Md_row_23 (by decide) ?_
  refine lv_istore_n (lv' := [(3, .int 0), (0, .ref h0), (1, .int x1), (2, .int x2)]) hx hb d_Md_row_24 rfl hl (by decide) rfl (fun ls hl => ?_)
  refine lv_iconst (v := 0) hx hb d_Md_row_25 (by decide) ?_
  refine lv_istore (lv' := [(4, .int 0), (3, .int 0), (0, .ref h0), (1, .int x1), (2, .int x2)]) hx hb d_Md_row_26 hl (by decide) rfl (fun ls hl => ?_)
  exact w_Md_row_28 k h0 h_black h_fine h_middle h_coarse h_flat h_looseOnes h_places h_skipped h_known h_bits h_contexts h_rowsOf h_came h_found f_width f_height f_template f_placeMany f_isTypical f_isFax f_isOpen f_toldMany f_passed f_copied f_cameMany f_readBits f_rowsRead f_isDone f_refused f_at f_lacks f_why f_wasCopy f_place f_colour n_black o_r o_f_code o_g_black C0 hA k x1 x2 0 0 z0 g_black _ _ ls hP hD hS (lv_sub hl [2, 3, 4, 1, 0] rfl) hf
set_option maxHeartbeats 4000000 in
set_option maxRecDepth 100000 in
theorem c_Md_row (l : Launch) (D : va_G) (cI cZ cJ : ClassId) (tq : Nat → Nat) (k : Nat) (h0 : Nat) (h_black : Nat) (h_fine : Nat) (h_middle : Nat) (h_coarse : Nat) (h_flat : Nat) (h_looseOnes : Nat) (h_places : Nat) (h_skipped : Nat) (h_known : Nat) (h_bits : Nat) (h_contexts : Nat) (h_rowsOf : Nat) (h_came : Nat) (h_found : Nat) (sz : Nat) (f_code : Int32) (f_width : Int32) (f_height : Int32) (f_template : Int32) (f_placeMany : Int32) (f_isTypical : Int32) (f_isFax : Int32) (f_isOpen : Int32) (f_toldMany : Int32) (f_passed : Int32) (f_copied : Int32) (f_cameMany : Int32) (f_readBits : Int32) (f_rowsRead : Int32) (f_isDone : Int32) (f_refused : Int32) (f_at : Int32) (f_lacks : Int32) (f_why : Int32) (f_wasCopy : Int32) (f_place : Int32) (f_colour : Int32) (n_black : Nat) (g_black : Nat → Int32) (x1 : Int32) (x2 : Int32) (o_r : Int32) (o_f_code : Int32) (o_g_black : Nat → Int32) (hf : F_Md_row k x1 x2 f_code f_width f_height n_black g_black = some (o_r, o_f_code, o_g_black)) : Met l y_Md_row ws_Md_row RM_Md_row (va_Pc [.ref h0, .int x1, .int x2] (Pg D cI cZ cJ tq (wd_Md_row cI cZ cJ tq h0 h_black h_fine h_middle h_coarse h_flat h_looseOnes h_places h_skipped h_known h_bits h_contexts h_rowsOf h_came h_found f_code f_width f_height f_template f_placeMany f_isTypical f_isFax f_isOpen f_toldMany f_passed f_copied f_cameMany f_readBits f_rowsRead f_isDone f_refused f_at f_lacks f_why f_wasCopy f_place f_colour n_black g_black) sz)) (qI D cI cZ cJ (va_A (wd_Md_row cI cZ cJ tq h0 h_black h_fine h_middle h_coarse h_flat h_looseOnes h_places h_skipped h_known h_bits h_contexts h_rowsOf h_came h_found f_code f_width f_height f_template f_placeMany f_isTypical f_isFax f_isOpen f_toldMany f_passed f_copied f_cameMany f_readBits f_rowsRead f_isDone f_refused f_at f_lacks f_why f_wasCopy f_place f_colour n_black g_black) sz) o_r (wd_Md_row cI cZ cJ tq h0 h_black h_fine h_middle h_coarse h_flat h_looseOnes h_places h_skipped h_known h_bits h_contexts h_rowsOf h_came h_found o_f_code f_width f_height f_template f_placeMany f_isTypical f_isFax f_isOpen f_toldMany f_passed f_copied f_cameMany f_readBits f_rowsRead f_isDone f_refused f_at f_lacks f_why f_wasCopy f_place f_colour n_black o_g_black)) 0 0 (va_A (wd_Md_row cI cZ cJ tq h0 h_black h_fine h_middle h_coarse h_flat h_looseOnes h_places h_skipped h_known h_bits h_contexts h_rowsOf h_came h_found f_code f_width f_height f_template f_placeMany f_isTypical f_isFax f_isOpen f_toldMany f_passed f_copied f_cameMany f_readBits f_rowsRead f_isDone f_refused f_at f_lacks f_why f_wasCopy f_place f_colour n_black g_black) sz) := by
  refine Met.ofW (cc := b_Md_row) (maxL := 5) (ret := (some .int)) (by decide) rfl ?_
  intro p e s m args below meth c s₁ B hml hv
  obtain ⟨rfl, hsz, hP, hK, hD0, hG⟩ := hv
  have hx := B.exec
  have hb := B.bytes
  have hr := B.returns
  have htw : ∀ w ∈ W_all, w.before [.ref h0, .int x1, .int x2].toArray s = true := fun w h => atoms_spec (ws := ws_Md_row) B.pre w (List.mem_cons_of_mem _ h)
  have hown : s.vm.findClass R_Md = some m.cls := findClass_of_methodNamed B.named
  have hlocks := B.notSynchronized
  subst hsz
  have hD := hD0.self (sz := s.heap.size)
  generalize hAe : va_A (wd_Md_row cI cZ cJ tq h0 h_black h_fine h_middle h_coarse h_flat h_looseOnes h_places h_skipped h_known h_bits h_contexts h_rowsOf h_came h_found f_code f_width f_height f_template f_placeMany f_isTypical f_isFax f_isOpen f_toldMany f_passed f_copied f_cameMany f_readBits f_rowsRead f_isDone f_refused f_at f_lacks f_why f_wasCopy f_place f_colour n_black g_black) s.heap.size = A at hD hG ⊢
  have hA : ∀ q : Nat, s.heap.size ≤ q → A q := fun q h => by rw [← hAe]; exact Or.inr h
  have hS : va_S A s.heap s.heap [] := va_S.rf
  have C0 : cx p s m meth c [.ref h0, .int x1, .int x2].toArray b_Md_row (some .int) 5 R_Md D cI cZ cJ tq A := ⟨hx, hb, hr, hml, hown, htw, hlocks, hK, hG⟩
  have hl := lv_entry ([.ref h0, .int x1, .int x2]) (n := 5) (Nat.le_of_ble_eq_true rfl)
  rw [lg_entry_eq]
  generalize (lg_sl ([.ref h0, .int x1, .int x2]) ++ List.replicate (5 - (lg_sl ([.ref h0, .int x1, .int x2])).length) Slot.unset).toArray = ls at hl ⊢
  have hl : lv_has ls 5 [(0, .ref h0), (1, .int x1), (2, .int x2)] := hl
  have hP : va_P D classes (wd_Md_row cI cZ cJ tq h0 h_black h_fine h_middle h_coarse h_flat h_looseOnes h_places h_skipped h_known h_bits h_contexts h_rowsOf h_came h_found f_code f_width f_height f_template f_placeMany f_isTypical f_isFax f_isOpen f_toldMany f_passed f_copied f_cameMany f_readBits f_rowsRead f_isDone f_refused f_at f_lacks f_why f_wasCopy f_place f_colour n_black g_black) s.heap := hP
  clear hAe
  unfold F_Md_row at hf
  refine lv_aload_n hx hb d_Md_row_0 rfl (lv_at hl 0 rfl) ?_
  refine lv_iload_n hx hb d_Md_row_1 rfl (lv_at hl 1 rfl) ?_
  refine lv_iconst (v := 0) hx hb d_Md_row_2 (by decide) ?_
  refine lv_aload_n hx hb d_Md_row_3 rfl (lv_at hl 0 rfl) ?_
  refine va_get (D := D) (ci := 9) (v := .int f_height) (C := R_Md) (T := F_Md) (N := 36) hx hb htw i_Md hown hK hP 0 rfl rfl 7 (by decide) (htw _ in488) (fun _ h9 => h9) rfl d_Md_row_4 ?_
  refine lv_iconst (v := 1) hx hb d_Md_row_7 (by decide) ?_
  refine lv_isub hx hb d_Md_row_8 ?_
  obtain ⟨r9, e9, hf⟩ := bd1_some hf
  refine g_calli (wc := (wd_Md_in cI cZ cJ tq )) (w1 := (wd_Md_in cI cZ cJ tq)) (ws' := (wd_Md_row cI cZ cJ tq h0 h_black h_fine h_middle h_coarse h_flat h_looseOnes h_places h_skipped h_known h_bits h_contexts h_rowsOf h_came h_found f_code f_width f_height f_template f_placeMany f_isTypical f_isFax f_isOpen f_toldMany f_passed f_copied f_cameMany f_readBits f_rowsRead f_isDone f_refused f_at f_lacks f_why f_wasCopy f_place f_colour n_black g_black)) (va_runS (As := [.int x1, .int 0, .int (f_height - (1 : Int32))]) (rest := [.ref h0]) ⟨hx, hb, hml, hown, htw⟩ (c_Md_in l D cI cZ cJ tq _  x1 0 (f_height - (1 : Int32)) r9 e9) (va_cwS 3 htw (gd_S in494 in495 in455 in493) rfl rfl rfl (by decide +kernel) ⟨Nat.le_of_ble_eq_true rfl, Nat.le_of_ble_eq_true rfl⟩) (preS_of hG hS (va_free (wc := (wd_Md_in cI cZ cJ tq )) hD hS hA [] rfl) hK (hP.sub (ws' := (wd_Md_in cI cZ cJ tq )) [] rfl) (hD.sub (ws' := (wd_Md_in cI cZ cJ tq )) [] (by decide) rfl)) rfl rfl hl.1 rfl (lv_room (Nat.le_of_ble_eq_true rfl)) d_Md_row_9 ⟨Nat.le_of_ble_eq_true rfl, Nat.le_of_ble_eq_true rfl⟩) hP hD hS hA [] [0, 1] [0, 1] rfl rfl (by decide) (by decide) (by decide) rfl (fun H locs hP hD hS => ?_)
  refine lv_if_eq (tgt := 19) hx hb d_Md_row_12 (by decide) (fun c12 => ?_) (fun c12 => ?_)
  · have hf := it_t hf c12
    refine lv_iconst (v := 1) hx hb d_Md_row_19 (by decide) ?_
    exact w_Md_row_20 k h0 h_black h_fine h_middle h_coarse h_flat h_looseOnes h_places h_skipped h_known h_bits h_contexts h_rowsOf h_came h_found f_width f_height f_template f_placeMany f_isTypical f_isFax f_isOpen f_toldMany f_passed f_copied f_cameMany f_readBits f_rowsRead f_isDone f_refused f_at f_lacks f_why f_wasCopy f_place f_colour n_black o_r o_f_code o_g_black C0 hA x1 x2 1 f_code g_black _ _ ls hP hD hS (lv_sub hl [0, 1, 2] rfl) hf
  · have hf := it_f hf c12
    refine lv_iconst (v := 0) hx hb d_Md_row_15 (by decide) ?_
    refine lv_goto (tgt := 20) hx hb d_Md_row_16 (by decide) ?_
    exact w_Md_row_20 k h0 h_black h_fine h_middle h_coarse h_flat h_looseOnes h_places h_skipped h_known h_bits h_contexts h_rowsOf h_came h_found f_width f_height f_template f_placeMany f_isTypical f_isFax f_isOpen f_toldMany f_passed f_copied f_cameMany f_readBits f_rowsRead f_isDone f_refused f_at f_lacks f_why f_wasCopy f_place f_colour n_black o_r o_f_code o_g_black C0 hA x1 x2 0 f_code g_black _ _ ls hP hD hS (lv_sub hl [0, 1, 2] rfl) hf
-- Md_at
abbrev RM_Md_at : Room := { frames := 2, cells := 0, slots := 0, locals := 44 }
def ws_Md_at : List Cond := .code y_Md_at b_Md_at 3 (some .boolean) :: W_all
def wd_Md_at (cI cZ cJ : ClassId) (tq : Nat → Nat) (h0 : Nat) (h_black : Nat) (h_fine : Nat) (h_middle : Nat) (h_coarse : Nat) (h_flat : Nat) (h_looseOnes : Nat) (h_places : Nat) (h_skipped : Nat) (h_known : Nat) (h_bits : Nat) (h_contexts : Nat) (h_rowsOf : Nat) (h_came : Nat) (h_found : Nat) (f_code : Int32) (f_width : Int32) (f_height : Int32) (f_template : Int32) (f_placeMany : Int32) (f_isTypical : Int32) (f_isFax : Int32) (f_isOpen : Int32) (f_toldMany : Int32) (f_passed : Int32) (f_copied : Int32) (f_cameMany : Int32) (f_readBits : Int32) (f_rowsRead : Int32) (f_isDone : Int32) (f_refused : Int32) (f_at : Int32) (f_lacks : Int32) (f_why : Int32) (f_wasCopy : Int32) (f_place : Int32) (f_colour : Int32) (n_black : Nat) (g_black : Nat → Int32) : va_W := [(h0, .inr (9, [.ref h_fine, .ref h_middle, .ref h_coarse, .ref h_flat, .ref h_looseOnes, .int f_code, .int f_width, .int f_height, .int f_template, .int f_placeMany, .ref h_places, .ref h_black, .ref h_skipped, .int f_isTypical, .int f_isFax, .int f_isOpen, .int f_toldMany, .int f_passed, .int f_copied, .ref h_known, .ref h_bits, .ref h_contexts, .ref h_rowsOf, .int f_cameMany, .ref h_came, .ref h_found, .int f_readBits, .int f_rowsRead, .int f_isDone, .int f_refused, .int f_at, .int f_lacks, .int f_why, .int f_wasCopy, .int f_place, .int f_colour])), (h_black, .inl (cZ, n_black, .inl g_black))]
def F_Md_at (x1 : Int32) (x2 : Int32) (f_code : Int32) (f_width : Int32) (f_height : Int32) (n_black : Nat) (g_black : Nat → Int32) : Option (Int32 × Int32) :=
  (bd2 (F_Md_isSample x1 x2 f_code f_width f_height) (fun r3 w3_f_code => (if r3 = 0 then (some (0, w3_f_code)) else (if (((24 : Int32) * x2) + x1) < 0 ∨ n_black ≤ (((24 : Int32) * x2) + x1).toNatClampNeg then none else (if (g_black (((24 : Int32) * x2) + x1).toNatClampNeg) = 0 then (some (0, w3_f_code)) else (some (1, w3_f_code)))))))
set_option maxHeartbeats 4000000 in
set_option maxRecDepth 100000 in
theorem c_Md_at (l : Launch) (D : va_G) (cI cZ cJ : ClassId) (tq : Nat → Nat) (h0 : Nat) (h_black : Nat) (h_fine : Nat) (h_middle : Nat) (h_coarse : Nat) (h_flat : Nat) (h_looseOnes : Nat) (h_places : Nat) (h_skipped : Nat) (h_known : Nat) (h_bits : Nat) (h_contexts : Nat) (h_rowsOf : Nat) (h_came : Nat) (h_found : Nat) (sz : Nat) (f_code : Int32) (f_width : Int32) (f_height : Int32) (f_template : Int32) (f_placeMany : Int32) (f_isTypical : Int32) (f_isFax : Int32) (f_isOpen : Int32) (f_toldMany : Int32) (f_passed : Int32) (f_copied : Int32) (f_cameMany : Int32) (f_readBits : Int32) (f_rowsRead : Int32) (f_isDone : Int32) (f_refused : Int32) (f_at : Int32) (f_lacks : Int32) (f_why : Int32) (f_wasCopy : Int32) (f_place : Int32) (f_colour : Int32) (n_black : Nat) (g_black : Nat → Int32) (x1 : Int32) (x2 : Int32) (o_r : Int32) (o_f_code : Int32) (hf : F_Md_at x1 x2 f_code f_width f_height n_black g_black = some (o_r, o_f_code)) : Met l y_Md_at ws_Md_at RM_Md_at (va_Pc [.ref h0, .int x1, .int x2] (Pg D cI cZ cJ tq (wd_Md_at cI cZ cJ tq h0 h_black h_fine h_middle h_coarse h_flat h_looseOnes h_places h_skipped h_known h_bits h_contexts h_rowsOf h_came h_found f_code f_width f_height f_template f_placeMany f_isTypical f_isFax f_isOpen f_toldMany f_passed f_copied f_cameMany f_readBits f_rowsRead f_isDone f_refused f_at f_lacks f_why f_wasCopy f_place f_colour n_black g_black) sz)) (qI D cI cZ cJ (va_A (wd_Md_at cI cZ cJ tq h0 h_black h_fine h_middle h_coarse h_flat h_looseOnes h_places h_skipped h_known h_bits h_contexts h_rowsOf h_came h_found f_code f_width f_height f_template f_placeMany f_isTypical f_isFax f_isOpen f_toldMany f_passed f_copied f_cameMany f_readBits f_rowsRead f_isDone f_refused f_at f_lacks f_why f_wasCopy f_place f_colour n_black g_black) sz) o_r (wd_Md_at cI cZ cJ tq h0 h_black h_fine h_middle h_coarse h_flat h_looseOnes h_places h_skipped h_known h_bits h_contexts h_rowsOf h_came h_found o_f_code f_width f_height f_template f_placeMany f_isTypical f_isFax f_isOpen f_toldMany f_passed f_copied f_cameMany f_readBits f_rowsRead f_isDone f_refused f_at f_lacks f_why f_wasCopy f_place f_colour n_black g_black)) 0 0 (va_A (wd_Md_at cI cZ cJ tq h0 h_black h_fine h_middle h_coarse h_flat h_looseOnes h_places h_skipped h_known h_bits h_contexts h_rowsOf h_came h_found f_code f_width f_height f_template f_placeMany f_isTypical f_isFax f_isOpen f_toldMany f_passed f_copied f_cameMany f_readBits f_rowsRead f_isDone f_refused f_at f_lacks f_why f_wasCopy f_place f_colour n_black g_black) sz) := by
  refine Met.ofW (cc := b_Md_at) (maxL := 3) (ret := (some .boolean)) (by decide) rfl ?_
  intro p e s m args below meth c s₁ B hml hv
  obtain ⟨rfl, hsz, hP, hK, hD0, hG⟩ := hv
  have hx := B.exec
  have hb := B.bytes
  have hr := B.returns
  have htw : ∀ w ∈ W_all, w.before [.ref h0, .int x1, .int x2].toArray s = true := fun w h => atoms_spec (ws := ws_Md_at) B.pre w (List.mem_cons_of_mem _ h)
  have hown : s.vm.findClass R_Md = some m.cls := findClass_of_methodNamed B.named
  have hlocks := B.notSynchronized
  subst hsz
  have hD := hD0.self (sz := s.heap.size)
  generalize hAe : va_A (wd_Md_at cI cZ cJ tq h0 h_black h_fine h_middle h_coarse h_flat h_looseOnes h_places h_skipped h_known h_bits h_contexts h_rowsOf h_came h_found f_code f_width f_height f_template f_placeMany f_isTypical f_isFax f_isOpen f_toldMany f_passed f_copied f_cameMany f_readBits f_rowsRead f_isDone f_refused f_at f_lacks f_why f_wasCopy f_place f_colour n_black g_black) s.heap.size = A at hD hG ⊢
  have hA : ∀ q : Nat, s.heap.size ≤ q → A q := fun q h => by rw [← hAe]; exact Or.inr h
  have hS : va_S A s.heap s.heap [] := va_S.rf
  have C0 : cx p s m meth c [.ref h0, .int x1, .int x2].toArray b_Md_at (some .boolean) 3 R_Md D cI cZ cJ tq A := ⟨hx, hb, hr, hml, hown, htw, hlocks, hK, hG⟩
  have hl := lv_entry ([.ref h0, .int x1, .int x2]) (n := 3) (Nat.le_of_ble_eq_true rfl)
  rw [lg_entry_eq]
  generalize (lg_sl ([.ref h0, .int x1, .int x2]) ++ List.replicate (3 - (lg_sl ([.ref h0, .int x1, .int x2])).length) Slot.unset).toArray = ls at hl ⊢
  have hl : lv_has ls 3 [(0, .ref h0), (1, .int x1), (2, .int x2)] := hl
  have hP : va_P D classes (wd_Md_at cI cZ cJ tq h0 h_black h_fine h_middle h_coarse h_flat h_looseOnes h_places h_skipped h_known h_bits h_contexts h_rowsOf h_came h_found f_code f_width f_height f_template f_placeMany f_isTypical f_isFax f_isOpen f_toldMany f_passed f_copied f_cameMany f_readBits f_rowsRead f_isDone f_refused f_at f_lacks f_why f_wasCopy f_place f_colour n_black g_black) s.heap := hP
  clear hAe
  unfold F_Md_at at hf
  refine lv_aload_n hx hb d_Md_at_0 rfl (lv_at hl 0 rfl) ?_
  refine lv_iload_n hx hb d_Md_at_1 rfl (lv_at hl 1 rfl) ?_
  refine lv_iload_n hx hb d_Md_at_2 rfl (lv_at hl 2 rfl) ?_
  obtain ⟨r3, w3_f_code, e3, hf⟩ := bd2_some hf
  refine g_calli (wc := (wd_Md_isSample cI cZ cJ tq h0 h_fine h_middle h_coarse h_flat h_looseOnes h_places h_black h_skipped h_known h_bits h_contexts h_rowsOf h_came h_found f_code f_width f_height f_template f_placeMany f_isTypical f_isFax f_isOpen f_toldMany f_passed f_copied f_cameMany f_readBits f_rowsRead f_isDone f_refused f_at f_lacks f_why f_wasCopy f_place f_colour)) (w1 := (wd_Md_isSample cI cZ cJ tq h0 h_fine h_middle h_coarse h_flat h_looseOnes h_places h_black h_skipped h_known h_bits h_contexts h_rowsOf h_came h_found w3_f_code f_width f_height f_template f_placeMany f_isTypical f_isFax f_isOpen f_toldMany f_passed f_copied f_cameMany f_readBits f_rowsRead f_isDone f_refused f_at f_lacks f_why f_wasCopy f_place f_colour)) (ws' := (wd_Md_at cI cZ cJ tq h0 h_black h_fine h_middle h_coarse h_flat h_looseOnes h_places h_skipped h_known h_bits h_contexts h_rowsOf h_came h_found w3_f_code f_width f_height f_template f_placeMany f_isTypical f_isFax f_isOpen f_toldMany f_passed f_copied f_cameMany f_readBits f_rowsRead f_isDone f_refused f_at f_lacks f_why f_wasCopy f_place f_colour n_black g_black)) (va_runV (As := [.int x1, .int x2]) (rest := []) ⟨hx, hb, hml, hown, htw⟩ (c_Md_isSample l D cI cZ cJ tq h0 h_fine h_middle h_coarse h_flat h_looseOnes h_places h_black h_skipped h_known h_bits h_contexts h_rowsOf h_came h_found _ f_code f_width f_height f_template f_placeMany f_isTypical f_isFax f_isOpen f_toldMany f_passed f_copied f_cameMany f_readBits f_rowsRead f_isDone f_refused f_at f_lacks f_why f_wasCopy f_place f_colour x1 x2 r3 w3_f_code e3) (cwV 2 htw (gd_V in497 in498 in499 in455 in496) rfl rfl rfl (by decide +kernel) ⟨Nat.le_of_ble_eq_true rfl, Nat.le_of_ble_eq_true rfl⟩) (preV_of (ci := 9) (q0 := 0) hG hS (va_free (wc := (wd_Md_isSample cI cZ cJ tq h0 h_fine h_middle h_coarse h_flat h_looseOnes h_places h_black h_skipped h_known h_bits h_contexts h_rowsOf h_came h_found f_code f_width f_height f_template f_placeMany f_isTypical f_isFax f_isOpen f_toldMany f_passed f_copied f_cameMany f_readBits f_rowsRead f_isDone f_refused f_at f_lacks f_why f_wasCopy f_place f_colour)) hD hS hA [0] rfl) hK hP rfl rfl (hP.sub (ws' := (wd_Md_isSample cI cZ cJ tq h0 h_fine h_middle h_coarse h_flat h_looseOnes h_places h_black h_skipped h_known h_bits h_contexts h_rowsOf h_came h_found f_code f_width f_height f_template f_placeMany f_isTypical f_isFax f_isOpen f_toldMany f_passed f_copied f_cameMany f_readBits f_rowsRead f_isDone f_refused f_at f_lacks f_why f_wasCopy f_place f_colour)) [0] rfl) (hD.sub (ws' := (wd_Md_isSample cI cZ cJ tq h0 h_fine h_middle h_coarse h_flat h_looseOnes h_places h_black h_skipped h_known h_bits h_contexts h_rowsOf h_came h_found f_code f_width f_height f_template f_placeMany f_isTypical f_isFax f_isOpen f_toldMany f_passed f_copied f_cameMany f_readBits f_rowsRead f_isDone f_refused f_at f_lacks f_why f_wasCopy f_place f_colour)) [0] (by decide) rfl)) rfl rfl hl.1 rfl (lv_room (Nat.le_of_ble_eq_true rfl)) d_Md_at_3 ⟨Nat.le_of_ble_eq_true rfl, Nat.le_of_ble_eq_true rfl⟩) hP hD hS hA [0] [1] [1, 0] rfl rfl (by decide) (by decide) (by decide) rfl (fun H locs hP hD hS => ?_)
  refine lv_if_eq (tgt := 27) hx hb d_Md_at_6 (by decide) (fun c6 => ?_) (fun c6 => ?_)
  · have hf := it_t hf c6
    refine lv_iconst (v := 0) hx hb d_Md_at_27 (by decide) ?_
    obtain ⟨e0, e1⟩ := so2 hf
    subst e0; subst e1
    exact W.zret (v := 0) hx hb hr rfl (fun t ht hW => ⟨⟨_, (), rfl, rfl, by rw [ht]; exact hP, va_K.moved hW.alike hK, hD⟩, hS.F ht⟩) hS.2.2 d_Md_at_28 hlocks
  · have hf := it_f hf c6
    refine lv_aload_n hx hb d_Md_at_9 rfl (lv_at hl 0 rfl) ?_
    refine va_get (D := D) (ci := 9) (v := .ref h_black) (C := R_Md) (T := F_Md) (N := 36) hx hb htw i_Md hown hK hP 0 rfl rfl 11 (by decide) (htw _ in465) (fun _ h9 => h9) rfl d_Md_at_10 ?_
    refine lv_bipush (v := 24) hx hb d_Md_at_13 (by decide) ?_
    refine lv_iload_n hx hb d_Md_at_15 rfl (lv_at hl 2 rfl) ?_
    refine lv_imul hx hb d_Md_at_16 ?_
    refine lv_iload_n hx hb d_Md_at_17 rfl (lv_at hl 1 rfl) ?_
    refine lv_iadd hx hb d_Md_at_18 ?_
    by_cases g19 : (((24 : Int32) * x2) + x1) < 0 ∨ n_black ≤ (((24 : Int32) * x2) + x1).toNatClampNeg
    · exact no_some (it_t hf g19)
    have hf := it_f hf g19
    refine va_zald hx hb hK hP 1 1 rfl rfl g19 d_Md_at_19 ?_
    refine lv_if_eq (tgt := 27) hx hb d_Md_at_20 (by decide) (fun c20 => ?_) (fun c20 => ?_)
    · have hf := it_t hf c20
      refine lv_iconst (v := 0) hx hb d_Md_at_27 (by decide) ?_
      obtain ⟨e0, e1⟩ := so2 hf
      subst e0; subst e1
      exact W.zret (v := 0) hx hb hr rfl (fun t ht hW => ⟨⟨_, (), rfl, rfl, by rw [ht]; exact hP, va_K.moved hW.alike hK, hD⟩, hS.F ht⟩) hS.2.2 d_Md_at_28 hlocks
    · have hf := it_f hf c20
      refine lv_iconst (v := 1) hx hb d_Md_at_23 (by decide) ?_
      refine lv_goto (tgt := 28) hx hb d_Md_at_24 (by decide) ?_
      obtain ⟨e0, e1⟩ := so2 hf
      subst e0; subst e1
      exact W.zret (v := 1) hx hb hr rfl (fun t ht hW => ⟨⟨_, (), rfl, rfl, by rw [ht]; exact hP, va_K.moved hW.alike hK, hD⟩, hS.F ht⟩) hS.2.2 d_Md_at_28 hlocks
-- Md_skip
abbrev RM_Md_skip : Room := { frames := 2, cells := 0, slots := 0, locals := 44 }
def ws_Md_skip : List Cond := .code y_Md_skip b_Md_skip 5 (some .boolean) :: W_all
def wd_Md_skip (cI cZ cJ : ClassId) (tq : Nat → Nat) (h0 : Nat) (h_skipped : Nat) (h_found : Nat) (h_fine : Nat) (h_middle : Nat) (h_coarse : Nat) (h_flat : Nat) (h_looseOnes : Nat) (h_places : Nat) (h_black : Nat) (h_known : Nat) (h_bits : Nat) (h_contexts : Nat) (h_rowsOf : Nat) (h_came : Nat) (f_code : Int32) (f_width : Int32) (f_height : Int32) (f_template : Int32) (f_placeMany : Int32) (f_isTypical : Int32) (f_isFax : Int32) (f_isOpen : Int32) (f_toldMany : Int32) (f_passed : Int32) (f_copied : Int32) (f_cameMany : Int32) (f_readBits : Int32) (f_rowsRead : Int32) (f_isDone : Int32) (f_refused : Int32) (f_at : Int32) (f_lacks : Int32) (f_why : Int32) (f_wasCopy : Int32) (f_place : Int32) (f_colour : Int32) (n_skipped : Nat) (g_skipped : Nat → Int32) (n_found : Nat) (g_found : Nat → Int32) : va_W := [(h0, .inr (9, [.ref h_fine, .ref h_middle, .ref h_coarse, .ref h_flat, .ref h_looseOnes, .int f_code, .int f_width, .int f_height, .int f_template, .int f_placeMany, .ref h_places, .ref h_black, .ref h_skipped, .int f_isTypical, .int f_isFax, .int f_isOpen, .int f_toldMany, .int f_passed, .int f_copied, .ref h_known, .ref h_bits, .ref h_contexts, .ref h_rowsOf, .int f_cameMany, .ref h_came, .ref h_found, .int f_readBits, .int f_rowsRead, .int f_isDone, .int f_refused, .int f_at, .int f_lacks, .int f_why, .int f_wasCopy, .int f_place, .int f_colour])), (h_skipped, .inl (cZ, n_skipped, .inl g_skipped)), (h_found, .inl (cZ, n_found, .inl g_found))]
def F_Md_skip_31 (k : Nat) (f_width : Int32) (f_height : Int32) (n_skipped : Nat) (n_found : Nat) (x1 : Int32) (x2 : Int32) (x3 : Int32) (z0 : Int32) (f_code : Int32) (f_readBits : Int32) (f_rowsRead : Int32) (f_isDone : Int32) (f_refused : Int32) (g_skipped : Nat → Int32) (g_found : Nat → Int32) : Option (Int32 × Int32 × Int32 × Int32 × Int32 × Int32 × (Nat → Int32) × (Nat → Int32)) :=
  (if (((24 : Int32) * x2) + x1) < 0 ∨ n_skipped ≤ (((24 : Int32) * x2) + x1).toNatClampNeg then none else (bd5 (F_Md_again k f_readBits f_rowsRead f_isDone f_refused n_found g_found) (fun w46_f_readBits w46_f_rowsRead w46_f_isDone w46_f_refused w46_g_found => (if ¬ (z0 = 0 ∨ z0 = 1) then none else (some (z0, f_code, w46_f_readBits, w46_f_rowsRead, w46_f_isDone, w46_f_refused, (upd g_skipped (((24 : Int32) * x2) + x1).toNatClampNeg (vp_nar .boolean x3)), w46_g_found))))))
def F_Md_skip (k : Nat) (x1 : Int32) (x2 : Int32) (x3 : Int32) (f_code : Int32) (f_width : Int32) (f_height : Int32) (f_readBits : Int32) (f_rowsRead : Int32) (f_isDone : Int32) (f_refused : Int32) (n_skipped : Nat) (g_skipped : Nat → Int32) (n_found : Nat) (g_found : Nat → Int32) : Option (Int32 × Int32 × Int32 × Int32 × Int32 × Int32 × (Nat → Int32) × (Nat → Int32)) :=
  (bd2 (F_Md_isSample x1 x2 f_code f_width f_height) (fun r3 w3_f_code => (if r3 = 0 then (some (0, w3_f_code, f_readBits, f_rowsRead, f_isDone, f_refused, g_skipped, g_found)) else (if (((24 : Int32) * x2) + x1) < 0 ∨ n_skipped ≤ (((24 : Int32) * x2) + x1).toNatClampNeg then none else (if (g_skipped (((24 : Int32) * x2) + x1).toNatClampNeg) = x3 then (F_Md_skip_31 k f_width f_height n_skipped n_found x1 x2 x3 0 w3_f_code f_readBits f_rowsRead f_isDone f_refused g_skipped g_found) else (F_Md_skip_31 k f_width f_height n_skipped n_found x1 x2 x3 1 w3_f_code f_readBits f_rowsRead f_isDone f_refused g_skipped g_found))))))
set_option maxHeartbeats 4000000 in
set_option maxRecDepth 100000 in
theorem w_Md_skip_31 {p : Program} {l : Launch} {e : Env} {s : State} {m : MethodId} {args : Array Value} {below : List Frame} {meth : Method} {c : Code} {D : va_G} {cI cZ cJ : ClassId} {tq : Nat → Nat} {A : Nat → Prop} (k : Nat) (h0 : Nat) (h_skipped : Nat) (h_found : Nat) (h_fine : Nat) (h_middle : Nat) (h_coarse : Nat) (h_flat : Nat) (h_looseOnes : Nat) (h_places : Nat) (h_black : Nat) (h_known : Nat) (h_bits : Nat) (h_contexts : Nat) (h_rowsOf : Nat) (h_came : Nat) (f_width : Int32) (f_height : Int32) (f_template : Int32) (f_placeMany : Int32) (f_isTypical : Int32) (f_isFax : Int32) (f_isOpen : Int32) (f_toldMany : Int32) (f_passed : Int32) (f_copied : Int32) (f_cameMany : Int32) (f_at : Int32) (f_lacks : Int32) (f_why : Int32) (f_wasCopy : Int32) (f_place : Int32) (f_colour : Int32) (n_skipped : Nat) (n_found : Nat) (o_r : Int32) (o_f_code : Int32) (o_f_readBits : Int32) (o_f_rowsRead : Int32) (o_f_isDone : Int32) (o_f_refused : Int32) (o_g_skipped : Nat → Int32) (o_g_found : Nat → Int32) (C0 : cx p s m meth c args b_Md_skip (some .boolean) 5 R_Md D cI cZ cJ tq A) (hA : ∀ q : Nat, s.heap.size ≤ q → A q) : ∀ (x1 : Int32) (x2 : Int32) (x3 : Int32) (z0 : Int32) (f_code : Int32) (f_readBits : Int32) (f_rowsRead : Int32) (f_isDone : Int32) (f_refused : Int32) (g_skipped : Nat → Int32) (g_found : Nat → Int32) (H : Heap) (locs : List Loc) (ls : Array Slot), va_P D classes (wd_Md_skip cI cZ cJ tq h0 h_skipped h_found h_fine h_middle h_coarse h_flat h_looseOnes h_places h_black h_known h_bits h_contexts h_rowsOf h_came f_code f_width f_height f_template f_placeMany f_isTypical f_isFax f_isOpen f_toldMany f_passed f_copied f_cameMany f_readBits f_rowsRead f_isDone f_refused f_at f_lacks f_why f_wasCopy f_place f_colour n_skipped g_skipped n_found g_found) H → va_D A (wd_Md_skip cI cZ cJ tq h0 h_skipped h_found h_fine h_middle h_coarse h_flat h_looseOnes h_places h_black h_known h_bits h_contexts h_rowsOf h_came f_code f_width f_height f_template f_placeMany f_isTypical f_isFax f_isOpen f_toldMany f_passed f_copied f_cameMany f_readBits f_rowsRead f_isDone f_refused f_at f_lacks f_why f_wasCopy f_place f_colour n_skipped g_skipped n_found g_found) → va_S A s.heap H locs → lv_has ls 5 [(0, .ref h0), (1, .int x1), (2, .int x2), (3, .int x3)] → F_Md_skip_31 k f_width f_height n_skipped n_found x1 x2 x3 z0 f_code f_readBits f_rowsRead f_isDone f_refused g_skipped g_found = some (o_r, o_f_code, o_f_readBits, o_f_rowsRead, o_f_isDone, o_f_refused, o_g_skipped, o_g_found) → W p l e RM_Md_skip s m args below meth c H locs 0 0 (MQ below (qI D cI cZ cJ A o_r (wd_Md_skip cI cZ cJ tq h0 h_skipped h_found h_fine h_middle h_coarse h_flat h_looseOnes h_places h_black h_known h_bits h_contexts h_rowsOf h_came o_f_code f_width f_height f_template f_placeMany f_isTypical f_isFax f_isOpen f_toldMany f_passed f_copied f_cameMany o_f_readBits o_f_rowsRead o_f_isDone o_f_refused f_at f_lacks f_why f_wasCopy f_place f_colour n_skipped o_g_skipped n_found o_g_found)) args s 0 0 A) (F0 m 31 ls [.int z0]) := by
  obtain ⟨hx, hb, hr, hml, hown, htw, hlocks, hK, hG⟩ := id C0
  intro x1 x2 x3 z0 f_code f_readBits f_rowsRead f_isDone f_refused g_skipped g_found H locs ls hP hD hS hl hf
  unfold F_Md_skip_31 at hf
  refine lv_istore (lv' := [(4, .int z0), (0, .ref h0), (1, .int x1), (2, .int x2), (3, .int x3)]) hx hb d_Md_skip_31 hl (by decide) rfl (fun ls hl => ?_)
  refine lv_aload_n hx hb d_Md_skip_33 rfl (lv_at hl 1 rfl) ?_
  refine va_get (D := D) (ci := 9) (v := .ref h_skipped) (C := R_Md) (T := F_Md) (N := 36) hx hb htw i_Md hown hK hP 0 rfl rfl 12 (by decide) (htw _ in466) (fun _ h9 => h9) rfl d_Md_skip_34 ?_
  refine lv_bipush (v := 24) hx hb d_Md_skip_37 (by decide) ?_
  refine lv_iload_n hx hb d_Md_skip_39 rfl (lv_at hl 3 rfl) ?_
  refine lv_imul hx hb d_Md_skip_40 ?_
  refine lv_iload_n hx hb d_Md_skip_41 rfl (lv_at hl 2 rfl) ?_
  refine lv_iadd hx hb d_Md_skip_42 ?_
  refine lv_iload_n hx hb d_Md_skip_43 rfl (lv_at hl 4 rfl) ?_
  by_cases g44 : (((24 : Int32) * x2) + x1) < 0 ∨ n_skipped ≤ (((24 : Int32) * x2) + x1).toNatClampNeg
  · exact no_some (it_t hf g44)
  have hf := it_f hf g44
  refine va_zast hx hb hK hP hD hS 1 1 rfl rfl g44 d_Md_skip_44 (fun H locs hP hD hS => ?_)
  have hP : va_P D classes (wd_Md_skip cI cZ cJ tq h0 h_skipped h_found h_fine h_middle h_coarse h_flat h_looseOnes h_places h_black h_known h_bits h_contexts h_rowsOf h_came f_code f_width f_height f_template f_placeMany f_isTypical f_isFax f_isOpen f_toldMany f_passed f_copied f_cameMany f_readBits f_rowsRead f_isDone f_refused f_at f_lacks f_why f_wasCopy f_place f_colour n_skipped (upd g_skipped (((24 : Int32) * x2) + x1).toNatClampNeg (vp_nar .boolean x3)) n_found g_found) H := hP
  have hD : va_D A (wd_Md_skip cI cZ cJ tq h0 h_skipped h_found h_fine h_middle h_coarse h_flat h_looseOnes h_places h_black h_known h_bits h_contexts h_rowsOf h_came f_code f_width f_height f_template f_placeMany f_isTypical f_isFax f_isOpen f_toldMany f_passed f_copied f_cameMany f_readBits f_rowsRead f_isDone f_refused f_at f_lacks f_why f_wasCopy f_place f_colour n_skipped (upd g_skipped (((24 : Int32) * x2) + x1).toNatClampNeg (vp_nar .boolean x3)) n_found g_found) := hD
  refine lv_aload_n hx hb d_Md_skip_45 rfl (lv_at hl 1 rfl) ?_
  obtain ⟨w46_f_readBits, w46_f_rowsRead, w46_f_isDone, w46_f_refused, w46_g_found, e46, hf⟩ := bd5_some hf
  refine g_callv (wc := (wd_Md_again cI cZ cJ tq h0 h_found h_fine h_middle h_coarse h_flat h_looseOnes h_places h_black h_skipped h_known h_bits h_contexts h_rowsOf h_came f_code f_width f_height f_template f_placeMany f_isTypical f_isFax f_isOpen f_toldMany f_passed f_copied f_cameMany f_readBits f_rowsRead f_isDone f_refused f_at f_lacks f_why f_wasCopy f_place f_colour n_found g_found)) (w1 := (wd_Md_again cI cZ cJ tq h0 h_found h_fine h_middle h_coarse h_flat h_looseOnes h_places h_black h_skipped h_known h_bits h_contexts h_rowsOf h_came f_code f_width f_height f_template f_placeMany f_isTypical f_isFax f_isOpen f_toldMany f_passed f_copied f_cameMany w46_f_readBits w46_f_rowsRead w46_f_isDone w46_f_refused f_at f_lacks f_why f_wasCopy f_place f_colour n_found w46_g_found)) (ws' := (wd_Md_skip cI cZ cJ tq h0 h_skipped h_found h_fine h_middle h_coarse h_flat h_looseOnes h_places h_black h_known h_bits h_contexts h_rowsOf h_came f_code f_width f_height f_template f_placeMany f_isTypical f_isFax f_isOpen f_toldMany f_passed f_copied f_cameMany w46_f_readBits w46_f_rowsRead w46_f_isDone w46_f_refused f_at f_lacks f_why f_wasCopy f_place f_colour n_skipped (upd g_skipped (((24 : Int32) * x2) + x1).toNatClampNeg (vp_nar .boolean x3)) n_found w46_g_found)) (va_runV (As := []) (rest := []) ⟨hx, hb, hml, hown, htw⟩ (c_Md_again l D cI cZ cJ tq k h0 h_found h_fine h_middle h_coarse h_flat h_looseOnes h_places h_black h_skipped h_known h_bits h_contexts h_rowsOf h_came _ f_code f_width f_height f_template f_placeMany f_isTypical f_isFax f_isOpen f_toldMany f_passed f_copied f_cameMany f_readBits f_rowsRead f_isDone f_refused f_at f_lacks f_why f_wasCopy f_place f_colour n_found g_found w46_f_readBits w46_f_rowsRead w46_f_isDone w46_f_refused w46_g_found e46) (cwV 0 htw (gd_V in452 in453 in454 in455 in451) rfl rfl rfl (by decide +kernel) ⟨Nat.le_of_ble_eq_true rfl, Nat.le_of_ble_eq_true rfl⟩) (preV_of (ci := 9) (q0 := 0) hG hS (va_free (wc := (wd_Md_again cI cZ cJ tq h0 h_found h_fine h_middle h_coarse h_flat h_looseOnes h_places h_black h_skipped h_known h_bits h_contexts h_rowsOf h_came f_code f_width f_height f_template f_placeMany f_isTypical f_isFax f_isOpen f_toldMany f_passed f_copied f_cameMany f_readBits f_rowsRead f_isDone f_refused f_at f_lacks f_why f_wasCopy f_place f_colour n_found g_found)) hD hS hA [0, 2] rfl) hK hP rfl rfl (hP.sub (ws' := (wd_Md_again cI cZ cJ tq h0 h_found h_fine h_middle h_coarse h_flat h_looseOnes h_places h_black h_skipped h_known h_bits h_contexts h_rowsOf h_came f_code f_width f_height f_template f_placeMany f_isTypical f_isFax f_isOpen f_toldMany f_passed f_copied f_cameMany f_readBits f_rowsRead f_isDone f_refused f_at f_lacks f_why f_wasCopy f_place f_colour n_found g_found)) [0, 2] rfl) (hD.sub (ws' := (wd_Md_again cI cZ cJ tq h0 h_found h_fine h_middle h_coarse h_flat h_looseOnes h_places h_black h_skipped h_known h_bits h_contexts h_rowsOf h_came f_code f_width f_height f_template f_placeMany f_isTypical f_isFax f_isOpen f_toldMany f_passed f_copied f_cameMany f_readBits f_rowsRead f_isDone f_refused f_at f_lacks f_why f_wasCopy f_place f_colour n_found g_found)) [0, 2] (by decide) rfl)) rfl rfl hl.1 rfl (lv_room (Nat.le_of_ble_eq_true rfl)) d_Md_skip_46 ⟨Nat.le_of_ble_eq_true rfl, Nat.le_of_ble_eq_true rfl⟩) hP hD hS hA [0, 2] [1] [1, 0, 2] rfl rfl (by decide) (by decide) (by decide) rfl (fun H locs hP hD hS => ?_)
  refine lv_iload hx hb d_Md_skip_49 (lv_at hl 0 rfl) ?_
  by_cases g51 : ¬ (z0 = 0 ∨ z0 = 1)
  · exact no_some (it_t hf g51)
  have hf := it_f hf g51
  obtain ⟨e0, e1, e2, e3, e4, e5, e6, e7⟩ := so8 hf
  subst e0; subst e1; subst e2; subst e3; subst e4; subst e5; subst e6; subst e7
  exact W.zret (v := z0) hx hb hr (bz_nar g51) (fun t ht hW => ⟨⟨_, (), rfl, rfl, by rw [ht]; exact hP, va_K.moved hW.alike hK, hD⟩, hS.F ht⟩) hS.2.2 d_Md_skip_51 hlocks
set_option maxHeartbeats 4000000 in
set_option maxRecDepth 100000 in
theorem c_Md_skip (l : Launch) (D : va_G) (cI cZ cJ : ClassId) (tq : Nat → Nat) (k : Nat) (h0 : Nat) (h_skipped : Nat) (h_found : Nat) (h_fine : Nat) (h_middle : Nat) (h_coarse : Nat) (h_flat : Nat) (h_looseOnes : Nat) (h_places : Nat) (h_black : Nat) (h_known : Nat) (h_bits : Nat) (h_contexts : Nat) (h_rowsOf : Nat) (h_came : Nat) (sz : Nat) (f_code : Int32) (f_width : Int32) (f_height : Int32) (f_template : Int32) (f_placeMany : Int32) (f_isTypical : Int32) (f_isFax : Int32) (f_isOpen : Int32) (f_toldMany : Int32) (f_passed : Int32) (f_copied : Int32) (f_cameMany : Int32) (f_readBits : Int32) (f_rowsRead : Int32) (f_isDone : Int32) (f_refused : Int32) (f_at : Int32) (f_lacks : Int32) (f_why : Int32) (f_wasCopy : Int32) (f_place : Int32) (f_colour : Int32) (n_skipped : Nat) (g_skipped : Nat → Int32) (n_found : Nat) (g_found : Nat → Int32) (x1 : Int32) (x2 : Int32) (x3 : Int32) (o_r : Int32) (o_f_code : Int32) (o_f_readBits : Int32) (o_f_rowsRead : Int32) (o_f_isDone : Int32) (o_f_refused : Int32) (o_g_skipped : Nat → Int32) (o_g_found : Nat → Int32) (hf : F_Md_skip k x1 x2 x3 f_code f_width f_height f_readBits f_rowsRead f_isDone f_refused n_skipped g_skipped n_found g_found = some (o_r, o_f_code, o_f_readBits, o_f_rowsRead, o_f_isDone, o_f_refused, o_g_skipped, o_g_found)) : Met l y_Md_skip ws_Md_skip RM_Md_skip (va_Pc [.ref h0, .int x1, .int x2, .int x3] (Pg D cI cZ cJ tq (wd_Md_skip cI cZ cJ tq h0 h_skipped h_found h_fine h_middle h_coarse h_flat h_looseOnes h_places h_black h_known h_bits h_contexts h_rowsOf h_came f_code f_width f_height f_template f_placeMany f_isTypical f_isFax f_isOpen f_toldMany f_passed f_copied f_cameMany f_readBits f_rowsRead f_isDone f_refused f_at f_lacks f_why f_wasCopy f_place f_colour n_skipped g_skipped n_found g_found) sz)) (qI D cI cZ cJ (va_A (wd_Md_skip cI cZ cJ tq h0 h_skipped h_found h_fine h_middle h_coarse h_flat h_looseOnes h_places h_black h_known h_bits h_contexts h_rowsOf h_came f_code f_width f_height f_template f_placeMany f_isTypical f_isFax f_isOpen f_toldMany f_passed f_copied f_cameMany f_readBits f_rowsRead f_isDone f_refused f_at f_lacks f_why f_wasCopy f_place f_colour n_skipped g_skipped n_found g_found) sz) o_r (wd_Md_skip cI cZ cJ tq h0 h_skipped h_found h_fine h_middle h_coarse h_flat h_looseOnes h_places h_black h_known h_bits h_contexts h_rowsOf h_came o_f_code f_width f_height f_template f_placeMany f_isTypical f_isFax f_isOpen f_toldMany f_passed f_copied f_cameMany o_f_readBits o_f_rowsRead o_f_isDone o_f_refused f_at f_lacks f_why f_wasCopy f_place f_colour n_skipped o_g_skipped n_found o_g_found)) 0 0 (va_A (wd_Md_skip cI cZ cJ tq h0 h_skipped h_found h_fine h_middle h_coarse h_flat h_looseOnes h_places h_black h_known h_bits h_contexts h_rowsOf h_came f_code f_width f_height f_template f_placeMany f_isTypical f_isFax f_isOpen f_toldMany f_passed f_copied f_cameMany f_readBits f_rowsRead f_isDone f_refused f_at f_lacks f_why f_wasCopy f_place f_colour n_skipped g_skipped n_found g_found) sz) := by
  refine Met.ofW (cc := b_Md_skip) (maxL := 5) (ret := (some .boolean)) (by decide) rfl ?_
  intro p e s m args below meth c s₁ B hml hv
  obtain ⟨rfl, hsz, hP, hK, hD0, hG⟩ := hv
  have hx := B.exec
  have hb := B.bytes
  have hr := B.returns
  have htw : ∀ w ∈ W_all, w.before [.ref h0, .int x1, .int x2, .int x3].toArray s = true := fun w h => atoms_spec (ws := ws_Md_skip) B.pre w (List.mem_cons_of_mem _ h)
  have hown : s.vm.findClass R_Md = some m.cls := findClass_of_methodNamed B.named
  have hlocks := B.notSynchronized
  subst hsz
  have hD := hD0.self (sz := s.heap.size)
  generalize hAe : va_A (wd_Md_skip cI cZ cJ tq h0 h_skipped h_found h_fine h_middle h_coarse h_flat h_looseOnes h_places h_black h_known h_bits h_contexts h_rowsOf h_came f_code f_width f_height f_template f_placeMany f_isTypical f_isFax f_isOpen f_toldMany f_passed f_copied f_cameMany f_readBits f_rowsRead f_isDone f_refused f_at f_lacks f_why f_wasCopy f_place f_colour n_skipped g_skipped n_found g_found) s.heap.size = A at hD hG ⊢
  have hA : ∀ q : Nat, s.heap.size ≤ q → A q := fun q h => by rw [← hAe]; exact Or.inr h
  have hS : va_S A s.heap s.heap [] := va_S.rf
  have C0 : cx p s m meth c [.ref h0, .int x1, .int x2, .int x3].toArray b_Md_skip (some .boolean) 5 R_Md D cI cZ cJ tq A := ⟨hx, hb, hr, hml, hown, htw, hlocks, hK, hG⟩
  have hl := lv_entry ([.ref h0, .int x1, .int x2, .int x3]) (n := 5) (Nat.le_of_ble_eq_true rfl)
  rw [lg_entry_eq]
  generalize (lg_sl ([.ref h0, .int x1, .int x2, .int x3]) ++ List.replicate (5 - (lg_sl ([.ref h0, .int x1, .int x2, .int x3])).length) Slot.unset).toArray = ls at hl ⊢
  have hl : lv_has ls 5 [(0, .ref h0), (1, .int x1), (2, .int x2), (3, .int x3)] := hl
  have hP : va_P D classes (wd_Md_skip cI cZ cJ tq h0 h_skipped h_found h_fine h_middle h_coarse h_flat h_looseOnes h_places h_black h_known h_bits h_contexts h_rowsOf h_came f_code f_width f_height f_template f_placeMany f_isTypical f_isFax f_isOpen f_toldMany f_passed f_copied f_cameMany f_readBits f_rowsRead f_isDone f_refused f_at f_lacks f_why f_wasCopy f_place f_colour n_skipped g_skipped n_found g_found) s.heap := hP
  clear hAe
  unfold F_Md_skip at hf
  refine lv_aload_n hx hb d_Md_skip_0 rfl (lv_at hl 0 rfl) ?_
  refine lv_iload_n hx hb d_Md_skip_1 rfl (lv_at hl 1 rfl) ?_
  refine lv_iload_n hx hb d_Md_skip_2 rfl (lv_at hl 2 rfl) ?_
  obtain ⟨r3, w3_f_code, e3, hf⟩ := bd2_some hf
  refine g_calli (wc := (wd_Md_isSample cI cZ cJ tq h0 h_fine h_middle h_coarse h_flat h_looseOnes h_places h_black h_skipped h_known h_bits h_contexts h_rowsOf h_came h_found f_code f_width f_height f_template f_placeMany f_isTypical f_isFax f_isOpen f_toldMany f_passed f_copied f_cameMany f_readBits f_rowsRead f_isDone f_refused f_at f_lacks f_why f_wasCopy f_place f_colour)) (w1 := (wd_Md_isSample cI cZ cJ tq h0 h_fine h_middle h_coarse h_flat h_looseOnes h_places h_black h_skipped h_known h_bits h_contexts h_rowsOf h_came h_found w3_f_code f_width f_height f_template f_placeMany f_isTypical f_isFax f_isOpen f_toldMany f_passed f_copied f_cameMany f_readBits f_rowsRead f_isDone f_refused f_at f_lacks f_why f_wasCopy f_place f_colour)) (ws' := (wd_Md_skip cI cZ cJ tq h0 h_skipped h_found h_fine h_middle h_coarse h_flat h_looseOnes h_places h_black h_known h_bits h_contexts h_rowsOf h_came w3_f_code f_width f_height f_template f_placeMany f_isTypical f_isFax f_isOpen f_toldMany f_passed f_copied f_cameMany f_readBits f_rowsRead f_isDone f_refused f_at f_lacks f_why f_wasCopy f_place f_colour n_skipped g_skipped n_found g_found)) (va_runV (As := [.int x1, .int x2]) (rest := []) ⟨hx, hb, hml, hown, htw⟩ (c_Md_isSample l D cI cZ cJ tq h0 h_fine h_middle h_coarse h_flat h_looseOnes h_places h_black h_skipped h_known h_bits h_contexts h_rowsOf h_came h_found _ f_code f_width f_height f_template f_placeMany f_isTypical f_isFax f_isOpen f_toldMany f_passed f_copied f_cameMany f_readBits f_rowsRead f_isDone f_refused f_at f_lacks f_why f_wasCopy f_place f_colour x1 x2 r3 w3_f_code e3) (cwV 2 htw (gd_V in497 in498 in499 in455 in496) rfl rfl rfl (by decide +kernel) ⟨Nat.le_of_ble_eq_true rfl, Nat.le_of_ble_eq_true rfl⟩) (preV_of (ci := 9) (q0 := 0) hG hS (va_free (wc := (wd_Md_isSample cI cZ cJ tq h0 h_fine h_middle h_coarse h_flat h_looseOnes h_places h_black h_skipped h_known h_bits h_contexts h_rowsOf h_came h_found f_code f_width f_height f_template f_placeMany f_isTypical f_isFax f_isOpen f_toldMany f_passed f_copied f_cameMany f_readBits f_rowsRead f_isDone f_refused f_at f_lacks f_why f_wasCopy f_place f_colour)) hD hS hA [0] rfl) hK hP rfl rfl (hP.sub (ws' := (wd_Md_isSample cI cZ cJ tq h0 h_fine h_middle h_coarse h_flat h_looseOnes h_places h_black h_skipped h_known h_bits h_contexts h_rowsOf h_came h_found f_code f_width f_height f_template f_placeMany f_isTypical f_isFax f_isOpen f_toldMany f_passed f_copied f_cameMany f_readBits f_rowsRead f_isDone f_refused f_at f_lacks f_why f_wasCopy f_place f_colour)) [0] rfl) (hD.sub (ws' := (wd_Md_isSample cI cZ cJ tq h0 h_fine h_middle h_coarse h_flat h_looseOnes h_places h_black h_skipped h_known h_bits h_contexts h_rowsOf h_came h_found f_code f_width f_height f_template f_placeMany f_isTypical f_isFax f_isOpen f_toldMany f_passed f_copied f_cameMany f_readBits f_rowsRead f_isDone f_refused f_at f_lacks f_why f_wasCopy f_place f_colour)) [0] (by decide) rfl)) rfl rfl hl.1 rfl (lv_room (Nat.le_of_ble_eq_true rfl)) d_Md_skip_3 ⟨Nat.le_of_ble_eq_true rfl, Nat.le_of_ble_eq_true rfl⟩) hP hD hS hA [0] [1, 2] [2, 0, 1] rfl rfl (by decide) (by decide) (by decide) rfl (fun H locs hP hD hS => ?_)
  refine lv_if_ne (tgt := 11) hx hb d_Md_skip_6 (by decide) (fun c6 => ?_) (fun c6 => ?_)
  · have hf := it_f hf c6
    refine lv_aload_n hx hb d_Md_skip_11 rfl (lv_at hl 0 rfl) ?_
    refine va_get (D := D) (ci := 9) (v := .ref h_skipped) (C := R_Md) (T := F_Md) (N := 36) hx hb htw i_Md hown hK hP 0 rfl rfl 12 (by decide) (htw _ in466) (fun _ h9 => h9) rfl d_Md_skip_12 ?_
    refine lv_bipush (v := 24) hx hb d_Md_skip_15 (by decide) ?_
    refine lv_iload_n hx hb d_Md_skip_17 rfl (lv_at hl 2 rfl) ?_
    refine lv_imul hx hb d_Md_skip_18 ?_
    refine lv_iload_n hx hb d_Md_skip_19 rfl (lv_at hl 1 rfl) ?_
    refine lv_iadd hx hb d_Md_skip_20 ?_
    by_cases g21 : (((24 : Int32) * x2) + x1) < 0 ∨ n_skipped ≤ (((24 : Int32) * x2) + x1).toNatClampNeg
    · exact no_some (it_t hf g21)
    have hf := it_f hf g21
    refine va_zald hx hb hK hP 1 1 rfl rfl g21 d_Md_skip_21 ?_
    refine lv_iload_n hx hb d_Md_skip_22 rfl (lv_at hl 3 rfl) ?_
    refine lv_icmp_eq (tgt := 30) hx hb d_Md_skip_23 (by decide) (fun c23 => ?_) (fun c23 => ?_)
    · have hf := it_t hf c23
      refine lv_iconst (v := 0) hx hb d_Md_skip_30 (by decide) ?_
      exact w_Md_skip_31 k h0 h_skipped h_found h_fine h_middle h_coarse h_flat h_looseOnes h_places h_black h_known h_bits h_contexts h_rowsOf h_came f_width f_height f_template f_placeMany f_isTypical f_isFax f_isOpen f_toldMany f_passed f_copied f_cameMany f_at f_lacks f_why f_wasCopy f_place f_colour n_skipped n_found o_r o_f_code o_f_readBits o_f_rowsRead o_f_isDone o_f_refused o_g_skipped o_g_found C0 hA x1 x2 x3 0 w3_f_code f_readBits f_rowsRead f_isDone f_refused g_skipped g_found _ _ ls hP hD hS (lv_sub hl [0, 1, 2, 3] rfl) hf
    · have hf := it_f hf c23
      refine lv_iconst (v := 1) hx hb d_Md_skip_26 (by decide) ?_
      refine lv_goto (tgt := 31) hx hb d_Md_skip_27 (by decide) ?_
      exact w_Md_skip_31 k h0 h_skipped h_found h_fine h_middle h_coarse h_flat h_looseOnes h_places h_black h_known h_bits h_contexts h_rowsOf h_came f_width f_height f_template f_placeMany f_isTypical f_isFax f_isOpen f_toldMany f_passed f_copied f_cameMany f_at f_lacks f_why f_wasCopy f_place f_colour n_skipped n_found o_r o_f_code o_f_readBits o_f_rowsRead o_f_isDone o_f_refused o_g_skipped o_g_found C0 hA x1 x2 x3 1 w3_f_code f_readBits f_rowsRead f_isDone f_refused g_skipped g_found _ _ ls hP hD hS (lv_sub hl [0, 1, 2, 3] rfl) hf
  · have hf := it_t hf c6
    refine lv_iconst (v := 0) hx hb d_Md_skip_9 (by decide) ?_
    obtain ⟨e0, e1, e2, e3, e4, e5, e6, e7⟩ := so8 hf
    subst e0; subst e1; subst e2; subst e3; subst e4; subst e5; subst e6; subst e7
    exact W.zret (v := 0) hx hb hr rfl (fun t ht hW => ⟨⟨_, (), rfl, rfl, by rw [ht]; exact hP, va_K.moved hW.alike hK, hD⟩, hS.F ht⟩) hS.2.2 d_Md_skip_10 hlocks
-- Md_looseMany
abbrev RM_Md_looseMany : Room := { frames := 0, cells := 0, slots := 0, locals := 0 }
def ws_Md_looseMany : List Cond := .code y_Md_looseMany b_Md_looseMany 1 (some .int) :: W_all
def wd_Md_looseMany (cI cZ cJ : ClassId) (tq : Nat → Nat) (h0 : Nat) (h_fine : Nat) (h_middle : Nat) (h_coarse : Nat) (h_flat : Nat) (h_looseOnes : Nat) (h_places : Nat) (h_black : Nat) (h_skipped : Nat) (h_known : Nat) (h_bits : Nat) (h_contexts : Nat) (h_rowsOf : Nat) (h_came : Nat) (h_found : Nat) (f_code : Int32) (f_width : Int32) (f_height : Int32) (f_template : Int32) (f_placeMany : Int32) (f_isTypical : Int32) (f_isFax : Int32) (f_isOpen : Int32) (f_toldMany : Int32) (f_passed : Int32) (f_copied : Int32) (f_cameMany : Int32) (f_readBits : Int32) (f_rowsRead : Int32) (f_isDone : Int32) (f_refused : Int32) (f_at : Int32) (f_lacks : Int32) (f_why : Int32) (f_wasCopy : Int32) (f_place : Int32) (f_colour : Int32) : va_W := [(h0, .inr (9, [.ref h_fine, .ref h_middle, .ref h_coarse, .ref h_flat, .ref h_looseOnes, .int f_code, .int f_width, .int f_height, .int f_template, .int f_placeMany, .ref h_places, .ref h_black, .ref h_skipped, .int f_isTypical, .int f_isFax, .int f_isOpen, .int f_toldMany, .int f_passed, .int f_copied, .ref h_known, .ref h_bits, .ref h_contexts, .ref h_rowsOf, .int f_cameMany, .ref h_came, .ref h_found, .int f_readBits, .int f_rowsRead, .int f_isDone, .int f_refused, .int f_at, .int f_lacks, .int f_why, .int f_wasCopy, .int f_place, .int f_colour]))]
def F_Md_looseMany (f_template : Int32) : Option (Int32) :=
  (if f_template = 0 then (some 4) else (some 1))
set_option maxHeartbeats 4000000 in
set_option maxRecDepth 100000 in
theorem c_Md_looseMany (l : Launch) (D : va_G) (cI cZ cJ : ClassId) (tq : Nat → Nat) (h0 : Nat) (h_fine : Nat) (h_middle : Nat) (h_coarse : Nat) (h_flat : Nat) (h_looseOnes : Nat) (h_places : Nat) (h_black : Nat) (h_skipped : Nat) (h_known : Nat) (h_bits : Nat) (h_contexts : Nat) (h_rowsOf : Nat) (h_came : Nat) (h_found : Nat) (sz : Nat) (f_code : Int32) (f_width : Int32) (f_height : Int32) (f_template : Int32) (f_placeMany : Int32) (f_isTypical : Int32) (f_isFax : Int32) (f_isOpen : Int32) (f_toldMany : Int32) (f_passed : Int32) (f_copied : Int32) (f_cameMany : Int32) (f_readBits : Int32) (f_rowsRead : Int32) (f_isDone : Int32) (f_refused : Int32) (f_at : Int32) (f_lacks : Int32) (f_why : Int32) (f_wasCopy : Int32) (f_place : Int32) (f_colour : Int32) (o_r : Int32) (hf : F_Md_looseMany f_template = some o_r) : Met l y_Md_looseMany ws_Md_looseMany RM_Md_looseMany (va_Pc [.ref h0] (Pg D cI cZ cJ tq (wd_Md_looseMany cI cZ cJ tq h0 h_fine h_middle h_coarse h_flat h_looseOnes h_places h_black h_skipped h_known h_bits h_contexts h_rowsOf h_came h_found f_code f_width f_height f_template f_placeMany f_isTypical f_isFax f_isOpen f_toldMany f_passed f_copied f_cameMany f_readBits f_rowsRead f_isDone f_refused f_at f_lacks f_why f_wasCopy f_place f_colour) sz)) (qI D cI cZ cJ (va_A (wd_Md_looseMany cI cZ cJ tq h0 h_fine h_middle h_coarse h_flat h_looseOnes h_places h_black h_skipped h_known h_bits h_contexts h_rowsOf h_came h_found f_code f_width f_height f_template f_placeMany f_isTypical f_isFax f_isOpen f_toldMany f_passed f_copied f_cameMany f_readBits f_rowsRead f_isDone f_refused f_at f_lacks f_why f_wasCopy f_place f_colour) sz) o_r (wd_Md_looseMany cI cZ cJ tq h0 h_fine h_middle h_coarse h_flat h_looseOnes h_places h_black h_skipped h_known h_bits h_contexts h_rowsOf h_came h_found f_code f_width f_height f_template f_placeMany f_isTypical f_isFax f_isOpen f_toldMany f_passed f_copied f_cameMany f_readBits f_rowsRead f_isDone f_refused f_at f_lacks f_why f_wasCopy f_place f_colour)) 0 0 (va_A (wd_Md_looseMany cI cZ cJ tq h0 h_fine h_middle h_coarse h_flat h_looseOnes h_places h_black h_skipped h_known h_bits h_contexts h_rowsOf h_came h_found f_code f_width f_height f_template f_placeMany f_isTypical f_isFax f_isOpen f_toldMany f_passed f_copied f_cameMany f_readBits f_rowsRead f_isDone f_refused f_at f_lacks f_why f_wasCopy f_place f_colour) sz) := by
  refine Met.ofW (cc := b_Md_looseMany) (maxL := 1) (ret := (some .int)) (by decide) rfl ?_
  intro p e s m args below meth c s₁ B hml hv
  obtain ⟨rfl, hsz, hP, hK, hD0, hG⟩ := hv
  have hx := B.exec
  have hb := B.bytes
  have hr := B.returns
  have htw : ∀ w ∈ W_all, w.before [.ref h0].toArray s = true := fun w h => atoms_spec (ws := ws_Md_looseMany) B.pre w (List.mem_cons_of_mem _ h)
  have hown : s.vm.findClass R_Md = some m.cls := findClass_of_methodNamed B.named
  have hlocks := B.notSynchronized
  subst hsz
  have hD := hD0.self (sz := s.heap.size)
  generalize hAe : va_A (wd_Md_looseMany cI cZ cJ tq h0 h_fine h_middle h_coarse h_flat h_looseOnes h_places h_black h_skipped h_known h_bits h_contexts h_rowsOf h_came h_found f_code f_width f_height f_template f_placeMany f_isTypical f_isFax f_isOpen f_toldMany f_passed f_copied f_cameMany f_readBits f_rowsRead f_isDone f_refused f_at f_lacks f_why f_wasCopy f_place f_colour) s.heap.size = A at hD hG ⊢
  have hA : ∀ q : Nat, s.heap.size ≤ q → A q := fun q h => by rw [← hAe]; exact Or.inr h
  have hS : va_S A s.heap s.heap [] := va_S.rf
  have C0 : cx p s m meth c [.ref h0].toArray b_Md_looseMany (some .int) 1 R_Md D cI cZ cJ tq A := ⟨hx, hb, hr, hml, hown, htw, hlocks, hK, hG⟩
  have hl := lv_entry ([.ref h0]) (n := 1) (Nat.le_of_ble_eq_true rfl)
  rw [lg_entry_eq]
  generalize (lg_sl ([.ref h0]) ++ List.replicate (1 - (lg_sl ([.ref h0])).length) Slot.unset).toArray = ls at hl ⊢
  have hl : lv_has ls 1 [(0, .ref h0)] := hl
  have hP : va_P D classes (wd_Md_looseMany cI cZ cJ tq h0 h_fine h_middle h_coarse h_flat h_looseOnes h_places h_black h_skipped h_known h_bits h_contexts h_rowsOf h_came h_found f_code f_width f_height f_template f_placeMany f_isTypical f_isFax f_isOpen f_toldMany f_passed f_copied f_cameMany f_readBits f_rowsRead f_isDone f_refused f_at f_lacks f_why f_wasCopy f_place f_colour) s.heap := hP
  clear hAe
  unfold F_Md_looseMany at hf
  refine lv_aload_n hx hb d_Md_looseMany_0 rfl (lv_at hl 0 rfl) ?_
  refine va_get (D := D) (ci := 9) (v := .int f_template) (C := R_Md) (T := F_Md) (N := 36) hx hb htw i_Md hown hK hP 0 rfl rfl 8 (by decide) (htw _ in456) (fun _ h9 => h9) rfl d_Md_looseMany_1 ?_
  refine lv_if_ne (tgt := 11) hx hb d_Md_looseMany_4 (by decide) (fun c4 => ?_) (fun c4 => ?_)
  · have hf := it_f hf c4
    refine lv_iconst (v := 1) hx hb d_Md_looseMany_11 (by decide) ?_
    have e0 := Option.some.inj hf
    subst e0
    exact W.iret (v := 1) hx hb hr (fun t ht hW => ⟨⟨_, (), rfl, rfl, by rw [ht]; exact hP, va_K.moved hW.alike hK, hD⟩, hS.F ht⟩) hS.2.2 d_Md_looseMany_12 hlocks
  · have hf := it_t hf c4
    refine lv_iconst (v := 4) hx hb d_Md_looseMany_7 (by decide) ?_
    refine lv_goto (tgt := 12) hx hb d_Md_looseMany_8 (by decide) ?_
    have e0 := Option.some.inj hf
    subst e0
    exact W.iret (v := 4) hx hb hr (fun t ht hW => ⟨⟨_, (), rfl, rfl, by rw [ht]; exact hP, va_K.moved hW.alike hK, hD⟩, hS.F ht⟩) hS.2.2 d_Md_looseMany_12 hlocks
-- Md_looseAt
abbrev RM_Md_looseAt : Room := { frames := 0, cells := 0, slots := 0, locals := 0 }
def ws_Md_looseAt : List Cond := .code y_Md_looseAt b_Md_looseAt 2 (some .int) :: W_all
def wd_Md_looseAt (cI cZ cJ : ClassId) (tq : Nat → Nat) (h0 : Nat) (h_looseOnes : Nat) (h_fine : Nat) (h_middle : Nat) (h_coarse : Nat) (h_flat : Nat) (h_places : Nat) (h_black : Nat) (h_skipped : Nat) (h_known : Nat) (h_bits : Nat) (h_contexts : Nat) (h_rowsOf : Nat) (h_came : Nat) (h_found : Nat) (f_code : Int32) (f_width : Int32) (f_height : Int32) (f_template : Int32) (f_placeMany : Int32) (f_isTypical : Int32) (f_isFax : Int32) (f_isOpen : Int32) (f_toldMany : Int32) (f_passed : Int32) (f_copied : Int32) (f_cameMany : Int32) (f_readBits : Int32) (f_rowsRead : Int32) (f_isDone : Int32) (f_refused : Int32) (f_at : Int32) (f_lacks : Int32) (f_why : Int32) (f_wasCopy : Int32) (f_place : Int32) (f_colour : Int32) (n_looseOnes : Nat) (g_looseOnes : Nat → Int32) : va_W := [(h0, .inr (9, [.ref h_fine, .ref h_middle, .ref h_coarse, .ref h_flat, .ref h_looseOnes, .int f_code, .int f_width, .int f_height, .int f_template, .int f_placeMany, .ref h_places, .ref h_black, .ref h_skipped, .int f_isTypical, .int f_isFax, .int f_isOpen, .int f_toldMany, .int f_passed, .int f_copied, .ref h_known, .ref h_bits, .ref h_contexts, .ref h_rowsOf, .int f_cameMany, .ref h_came, .ref h_found, .int f_readBits, .int f_rowsRead, .int f_isDone, .int f_refused, .int f_at, .int f_lacks, .int f_why, .int f_wasCopy, .int f_place, .int f_colour])), (h_looseOnes, .inl (cI, n_looseOnes, .inl g_looseOnes))]
def F_Md_looseAt (x1 : Int32) (f_template : Int32) (n_looseOnes : Nat) (g_looseOnes : Nat → Int32) : Option (Int32) :=
  (if f_template = 0 then (if x1 < 0 ∨ n_looseOnes ≤ x1.toNatClampNeg then none else (some (g_looseOnes x1.toNatClampNeg))) else (if f_template = (1 : Int32) then (some 3) else (if f_template = (2 : Int32) then (some 2) else (some 4))))
set_option maxHeartbeats 4000000 in
set_option maxRecDepth 100000 in
theorem c_Md_looseAt (l : Launch) (D : va_G) (cI cZ cJ : ClassId) (tq : Nat → Nat) (h0 : Nat) (h_looseOnes : Nat) (h_fine : Nat) (h_middle : Nat) (h_coarse : Nat) (h_flat : Nat) (h_places : Nat) (h_black : Nat) (h_skipped : Nat) (h_known : Nat) (h_bits : Nat) (h_contexts : Nat) (h_rowsOf : Nat) (h_came : Nat) (h_found : Nat) (sz : Nat) (f_code : Int32) (f_width : Int32) (f_height : Int32) (f_template : Int32) (f_placeMany : Int32) (f_isTypical : Int32) (f_isFax : Int32) (f_isOpen : Int32) (f_toldMany : Int32) (f_passed : Int32) (f_copied : Int32) (f_cameMany : Int32) (f_readBits : Int32) (f_rowsRead : Int32) (f_isDone : Int32) (f_refused : Int32) (f_at : Int32) (f_lacks : Int32) (f_why : Int32) (f_wasCopy : Int32) (f_place : Int32) (f_colour : Int32) (n_looseOnes : Nat) (g_looseOnes : Nat → Int32) (x1 : Int32) (o_r : Int32) (hf : F_Md_looseAt x1 f_template n_looseOnes g_looseOnes = some o_r) : Met l y_Md_looseAt ws_Md_looseAt RM_Md_looseAt (va_Pc [.ref h0, .int x1] (Pg D cI cZ cJ tq (wd_Md_looseAt cI cZ cJ tq h0 h_looseOnes h_fine h_middle h_coarse h_flat h_places h_black h_skipped h_known h_bits h_contexts h_rowsOf h_came h_found f_code f_width f_height f_template f_placeMany f_isTypical f_isFax f_isOpen f_toldMany f_passed f_copied f_cameMany f_readBits f_rowsRead f_isDone f_refused f_at f_lacks f_why f_wasCopy f_place f_colour n_looseOnes g_looseOnes) sz)) (qI D cI cZ cJ (va_A (wd_Md_looseAt cI cZ cJ tq h0 h_looseOnes h_fine h_middle h_coarse h_flat h_places h_black h_skipped h_known h_bits h_contexts h_rowsOf h_came h_found f_code f_width f_height f_template f_placeMany f_isTypical f_isFax f_isOpen f_toldMany f_passed f_copied f_cameMany f_readBits f_rowsRead f_isDone f_refused f_at f_lacks f_why f_wasCopy f_place f_colour n_looseOnes g_looseOnes) sz) o_r (wd_Md_looseAt cI cZ cJ tq h0 h_looseOnes h_fine h_middle h_coarse h_flat h_places h_black h_skipped h_known h_bits h_contexts h_rowsOf h_came h_found f_code f_width f_height f_template f_placeMany f_isTypical f_isFax f_isOpen f_toldMany f_passed f_copied f_cameMany f_readBits f_rowsRead f_isDone f_refused f_at f_lacks f_why f_wasCopy f_place f_colour n_looseOnes g_looseOnes)) 0 0 (va_A (wd_Md_looseAt cI cZ cJ tq h0 h_looseOnes h_fine h_middle h_coarse h_flat h_places h_black h_skipped h_known h_bits h_contexts h_rowsOf h_came h_found f_code f_width f_height f_template f_placeMany f_isTypical f_isFax f_isOpen f_toldMany f_passed f_copied f_cameMany f_readBits f_rowsRead f_isDone f_refused f_at f_lacks f_why f_wasCopy f_place f_colour n_looseOnes g_looseOnes) sz) := by
  refine Met.ofW (cc := b_Md_looseAt) (maxL := 2) (ret := (some .int)) (by decide) rfl ?_
  intro p e s m args below meth c s₁ B hml hv
  obtain ⟨rfl, hsz, hP, hK, hD0, hG⟩ := hv
  have hx := B.exec
  have hb := B.bytes
  have hr := B.returns
  have htw : ∀ w ∈ W_all, w.before [.ref h0, .int x1].toArray s = true := fun w h => atoms_spec (ws := ws_Md_looseAt) B.pre w (List.mem_cons_of_mem _ h)
  have hown : s.vm.findClass R_Md = some m.cls := findClass_of_methodNamed B.named
  have hlocks := B.notSynchronized
  subst hsz
  have hD := hD0.self (sz := s.heap.size)
  generalize hAe : va_A (wd_Md_looseAt cI cZ cJ tq h0 h_looseOnes h_fine h_middle h_coarse h_flat h_places h_black h_skipped h_known h_bits h_contexts h_rowsOf h_came h_found f_code f_width f_height f_template f_placeMany f_isTypical f_isFax f_isOpen f_toldMany f_passed f_copied f_cameMany f_readBits f_rowsRead f_isDone f_refused f_at f_lacks f_why f_wasCopy f_place f_colour n_looseOnes g_looseOnes) s.heap.size = A at hD hG ⊢
  have hA : ∀ q : Nat, s.heap.size ≤ q → A q := fun q h => by rw [← hAe]; exact Or.inr h
  have hS : va_S A s.heap s.heap [] := va_S.rf
  have C0 : cx p s m meth c [.ref h0, .int x1].toArray b_Md_looseAt (some .int) 2 R_Md D cI cZ cJ tq A := ⟨hx, hb, hr, hml, hown, htw, hlocks, hK, hG⟩
  have hl := lv_entry ([.ref h0, .int x1]) (n := 2) (Nat.le_of_ble_eq_true rfl)
  rw [lg_entry_eq]
  generalize (lg_sl ([.ref h0, .int x1]) ++ List.replicate (2 - (lg_sl ([.ref h0, .int x1])).length) Slot.unset).toArray = ls at hl ⊢
  have hl : lv_has ls 2 [(0, .ref h0), (1, .int x1)] := hl
  have hP : va_P D classes (wd_Md_looseAt cI cZ cJ tq h0 h_looseOnes h_fine h_middle h_coarse h_flat h_places h_black h_skipped h_known h_bits h_contexts h_rowsOf h_came h_found f_code f_width f_height f_template f_placeMany f_isTypical f_isFax f_isOpen f_toldMany f_passed f_copied f_cameMany f_readBits f_rowsRead f_isDone f_refused f_at f_lacks f_why f_wasCopy f_place f_colour n_looseOnes g_looseOnes) s.heap := hP
  clear hAe
  unfold F_Md_looseAt at hf
  refine lv_aload_n hx hb d_Md_looseAt_0 rfl (lv_at hl 0 rfl) ?_
  refine va_get (D := D) (ci := 9) (v := .int f_template) (C := R_Md) (T := F_Md) (N := 36) hx hb htw i_Md hown hK hP 0 rfl rfl 8 (by decide) (htw _ in456) (fun _ h9 => h9) rfl d_Md_looseAt_1 ?_
  refine lv_if_ne (tgt := 16) hx hb d_Md_looseAt_4 (by decide) (fun c4 => ?_) (fun c4 => ?_)
  · have hf := it_f hf c4
    refine lv_aload_n hx hb d_Md_looseAt_16 rfl (lv_at hl 0 rfl) ?_
    refine va_get (D := D) (ci := 9) (v := .int f_template) (C := R_Md) (T := F_Md) (N := 36) hx hb htw i_Md hown hK hP 0 rfl rfl 8 (by decide) (htw _ in456) (fun _ h9 => h9) rfl d_Md_looseAt_17 ?_
    refine lv_iconst (v := 1) hx hb d_Md_looseAt_20 (by decide) ?_
    refine lv_icmp_ne (tgt := 28) hx hb d_Md_looseAt_21 (by decide) (fun c21 => ?_) (fun c21 => ?_)
    · have hf := it_f hf c21
      refine lv_aload_n hx hb d_Md_looseAt_28 rfl (lv_at hl 0 rfl) ?_
      refine va_get (D := D) (ci := 9) (v := .int f_template) (C := R_Md) (T := F_Md) (N := 36) hx hb htw i_Md hown hK hP 0 rfl rfl 8 (by decide) (htw _ in456) (fun _ h9 => h9) rfl d_Md_looseAt_29 ?_
      refine lv_iconst (v := 2) hx hb d_Md_looseAt_32 (by decide) ?_
      refine lv_icmp_ne (tgt := 40) hx hb d_Md_looseAt_33 (by decide) (fun c33 => ?_) (fun c33 => ?_)
      · have hf := it_f hf c33
        refine lv_iconst (v := 4) hx hb d_Md_looseAt_40 (by decide) ?_
        have e0 := Option.some.inj hf
        subst e0
        exact W.iret (v := 4) hx hb hr (fun t ht hW => ⟨⟨_, (), rfl, rfl, by rw [ht]; exact hP, va_K.moved hW.alike hK, hD⟩, hS.F ht⟩) hS.2.2 d_Md_looseAt_41 hlocks
      · have hf := it_t hf c33
        refine lv_iconst (v := 2) hx hb d_Md_looseAt_36 (by decide) ?_
        refine lv_goto (tgt := 41) hx hb d_Md_looseAt_37 (by decide) ?_
        have e0 := Option.some.inj hf
        subst e0
        exact W.iret (v := 2) hx hb hr (fun t ht hW => ⟨⟨_, (), rfl, rfl, by rw [ht]; exact hP, va_K.moved hW.alike hK, hD⟩, hS.F ht⟩) hS.2.2 d_Md_looseAt_41 hlocks
    · have hf := it_t hf c21
      refine lv_iconst (v := 3) hx hb d_Md_looseAt_24 (by decide) ?_
      refine lv_goto (tgt := 41) hx hb d_Md_looseAt_25 (by decide) ?_
      have e0 := Option.some.inj hf
      subst e0
      exact W.iret (v := 3) hx hb hr (fun t ht hW => ⟨⟨_, (), rfl, rfl, by rw [ht]; exact hP, va_K.moved hW.alike hK, hD⟩, hS.F ht⟩) hS.2.2 d_Md_looseAt_41 hlocks
  · have hf := it_t hf c4
    refine lv_aload_n hx hb d_Md_looseAt_7 rfl (lv_at hl 0 rfl) ?_
    refine va_get (D := D) (ci := 9) (v := .ref h_looseOnes) (C := R_Md) (T := F_Md) (N := 36) hx hb htw i_Md hown hK hP 0 rfl rfl 4 (by decide) (htw _ in477) (fun _ h9 => h9) rfl d_Md_looseAt_8 ?_
    refine lv_iload_n hx hb d_Md_looseAt_11 rfl (lv_at hl 1 rfl) ?_
    by_cases g12 : x1 < 0 ∨ n_looseOnes ≤ x1.toNatClampNeg
    · exact no_some (it_t hf g12)
    have hf := it_f hf g12
    refine va_iald hx hb hK hP 1 0 rfl rfl g12 d_Md_looseAt_12 ?_
    refine lv_goto (tgt := 41) hx hb d_Md_looseAt_13 (by decide) ?_
    have e0 := Option.some.inj hf
    subst e0
    exact W.iret (v := (g_looseOnes x1.toNatClampNeg)) hx hb hr (fun t ht hW => ⟨⟨_, (), rfl, rfl, by rw [ht]; exact hP, va_K.moved hW.alike hK, hD⟩, hS.F ht⟩) hS.2.2 d_Md_looseAt_41 hlocks
