-- Plane_mask
abbrev RM_Plane_mask : Room := { frames := 0, cells := 0, slots := 0, locals := 0 }
def ws_Plane_mask : List Cond := .code y_Plane_mask b_Plane_mask 2 (some .int) :: W_all
def wd_Plane_mask (cI cZ cJ : ClassId) (tq : Nat → Nat) (h0 : Nat) (h_rows : Nat) (f_width : Int32) (n_rows : Nat) (g_rows : Nat → Int32) : va_W := [(h0, .inr (4, [.int f_width, .ref h_rows])), (h_rows, .inl (cI, n_rows, .inl g_rows))]
def F_Plane_mask (x1 : Int32) (n_rows : Nat) (g_rows : Nat → Int32) : Option (Int32) :=
  (if x1 < 0 then (some 0) else (if (nI n_rows) ≤ x1 then (some 0) else (if x1 < 0 ∨ n_rows ≤ x1.toNatClampNeg then none else (some (g_rows x1.toNatClampNeg)))))
set_option maxHeartbeats 4000000 in
set_option maxRecDepth 100000 in
theorem c_Plane_mask (l : Launch) (D : va_G) (cI cZ cJ : ClassId) (tq : Nat → Nat) (h0 : Nat) (h_rows : Nat) (sz : Nat) (f_width : Int32) (n_rows : Nat) (g_rows : Nat → Int32) (x1 : Int32) (o_r : Int32) (hf : F_Plane_mask x1 n_rows g_rows = some o_r) : Met l y_Plane_mask ws_Plane_mask RM_Plane_mask (va_Pc [.ref h0, .int x1] (Pg D cI cZ cJ tq (wd_Plane_mask cI cZ cJ tq h0 h_rows f_width n_rows g_rows) sz)) (qI D cI cZ cJ (va_A (wd_Plane_mask cI cZ cJ tq h0 h_rows f_width n_rows g_rows) sz) o_r (wd_Plane_mask cI cZ cJ tq h0 h_rows f_width n_rows g_rows)) 0 0 (va_A (wd_Plane_mask cI cZ cJ tq h0 h_rows f_width n_rows g_rows) sz) := by
  refine Met.ofW (cc := b_Plane_mask) (maxL := 2) (ret := (some .int)) (by decide) rfl ?_
  intro p e s m args below meth c s₁ B hml hv
  obtain ⟨rfl, hsz, hP, hK, hD0, hG⟩ := hv
  have hx := B.exec
  have hb := B.bytes
  have hr := B.returns
  have htw : ∀ w ∈ W_all, w.before [.ref h0, .int x1].toArray s = true := fun w h => atoms_spec (ws := ws_Plane_mask) B.pre w (List.mem_cons_of_mem _ h)
  have hown : s.vm.findClass R_Plane = some m.cls := findClass_of_methodNamed B.named
  have hlocks := B.notSynchronized
  subst hsz
  have hD := hD0.self (sz := s.heap.size)
  generalize hAe : va_A (wd_Plane_mask cI cZ cJ tq h0 h_rows f_width n_rows g_rows) s.heap.size = A at hD hG ⊢
  have hA : ∀ q : Nat, s.heap.size ≤ q → A q := fun q h => by rw [← hAe]; exact Or.inr h
  have hS : va_S A s.heap s.heap [] := va_S.rf
  have C0 : cx p s m meth c [.ref h0, .int x1].toArray b_Plane_mask (some .int) 2 R_Plane D cI cZ cJ tq A := ⟨hx, hb, hr, hml, hown, htw, hlocks, hK, hG⟩
  have hl := lv_entry ([.ref h0, .int x1]) (n := 2) (Nat.le_of_ble_eq_true rfl)
  rw [lg_entry_eq]
  generalize (lg_sl ([.ref h0, .int x1]) ++ List.replicate (2 - (lg_sl ([.ref h0, .int x1])).length) Slot.unset).toArray = ls at hl ⊢
  have hl : lv_has ls 2 [(0, .ref h0), (1, .int x1)] := hl
  have hP : va_P D classes (wd_Plane_mask cI cZ cJ tq h0 h_rows f_width n_rows g_rows) s.heap := hP
  clear hAe
  unfold F_Plane_mask at hf
  refine lv_iload_n hx hb d_Plane_mask_0 rfl (lv_at hl 1 rfl) ?_
  refine lv_if_lt (tgt := 22) hx hb d_Plane_mask_1 (by decide) (fun c1 => ?_) (fun c1 => ?_)
  · have hf := it_t hf c1
    refine lv_iconst (v := 0) hx hb d_Plane_mask_22 (by decide) ?_
    have e0 := Option.some.inj hf
    subst e0
    exact W.iret (v := 0) hx hb hr (fun t ht hW => ⟨⟨_, (), rfl, rfl, by rw [ht]; exact hP, va_K.moved hW.alike hK, hD⟩, hS.F ht⟩) hS.2.2 d_Plane_mask_23 hlocks
  · have hf := it_f hf c1
    refine lv_iload_n hx hb d_Plane_mask_4 rfl (lv_at hl 1 rfl) ?_
    refine lv_aload_n hx hb d_Plane_mask_5 rfl (lv_at hl 0 rfl) ?_
    refine va_get (D := D) (ci := 4) (v := .ref h_rows) (C := R_Plane) (T := F_Plane) (N := 2) hx hb htw i_Plane hown hK hP 0 rfl rfl 1 (by decide) (htw _ in36) (fun _ h9 => h9) rfl d_Plane_mask_6 ?_
    refine va_alen (v := nI n_rows) hx hb hK hP 1 0 rfl rfl rfl d_Plane_mask_9 ?_
    refine lv_icmp_ge (tgt := 22) hx hb d_Plane_mask_10 (by decide) (fun c10 => ?_) (fun c10 => ?_)
    · have hf := it_t hf c10
      refine lv_iconst (v := 0) hx hb d_Plane_mask_22 (by decide) ?_
      have e0 := Option.some.inj hf
      subst e0
      exact W.iret (v := 0) hx hb hr (fun t ht hW => ⟨⟨_, (), rfl, rfl, by rw [ht]; exact hP, va_K.moved hW.alike hK, hD⟩, hS.F ht⟩) hS.2.2 d_Plane_mask_23 hlocks
    · have hf := it_f hf c10
      refine lv_aload_n hx hb d_Plane_mask_13 rfl (lv_at hl 0 rfl) ?_
      refine va_get (D := D) (ci := 4) (v := .ref h_rows) (C := R_Plane) (T := F_Plane) (N := 2) hx hb htw i_Plane hown hK hP 0 rfl rfl 1 (by decide) (htw _ in36) (fun _ h9 => h9) rfl d_Plane_mask_14 ?_
      refine lv_iload_n hx hb d_Plane_mask_17 rfl (lv_at hl 1 rfl) ?_
      by_cases g18 : x1 < 0 ∨ n_rows ≤ x1.toNatClampNeg
      · exact no_some (it_t hf g18)
      have hf := it_f hf g18
      refine va_iald hx hb hK hP 1 0 rfl rfl g18 d_Plane_mask_18 ?_
      refine lv_goto (tgt := 23) hx hb d_Plane_mask_19 (by decide) ?_
      have e0 := Option.some.inj hf
      subst e0
      exact W.iret (v := (g_rows x1.toNatClampNeg)) hx hb hr (fun t ht hW => ⟨⟨_, (), rfl, rfl, by rw [ht]; exact hP, va_K.moved hW.alike hK, hD⟩, hS.F ht⟩) hS.2.2 d_Plane_mask_23 hlocks
-- Plane_has
abbrev RM_Plane_has : Room := { frames := 1, cells := 0, slots := 0, locals := 21 }
def ws_Plane_has : List Cond := .code y_Plane_has b_Plane_has 3 (some .boolean) :: W_all
def wd_Plane_has (cI cZ cJ : ClassId) (tq : Nat → Nat) (h0 : Nat) (h_rows : Nat) (f_width : Int32) (n_rows : Nat) (g_rows : Nat → Int32) : va_W := [(h0, .inr (4, [.int f_width, .ref h_rows])), (h_rows, .inl (cI, n_rows, .inl g_rows))]
def F_Plane_has (x1 : Int32) (x2 : Int32) (f_width : Int32) (n_rows : Nat) (g_rows : Nat → Int32) : Option (Int32) :=
  (if x1 < 0 then (some 0) else (if f_width ≤ x1 then (some 0) else (bd1 (F_Plane_mask x2 n_rows g_rows) (fun r14 => (if ((ushr r14 x1) &&& 1) = 0 then (some 0) else (some 1))))))
set_option maxHeartbeats 4000000 in
set_option maxRecDepth 100000 in
theorem c_Plane_has (l : Launch) (D : va_G) (cI cZ cJ : ClassId) (tq : Nat → Nat) (h0 : Nat) (h_rows : Nat) (sz : Nat) (f_width : Int32) (n_rows : Nat) (g_rows : Nat → Int32) (x1 : Int32) (x2 : Int32) (o_r : Int32) (hf : F_Plane_has x1 x2 f_width n_rows g_rows = some o_r) : Met l y_Plane_has ws_Plane_has RM_Plane_has (va_Pc [.ref h0, .int x1, .int x2] (Pg D cI cZ cJ tq (wd_Plane_has cI cZ cJ tq h0 h_rows f_width n_rows g_rows) sz)) (qI D cI cZ cJ (va_A (wd_Plane_has cI cZ cJ tq h0 h_rows f_width n_rows g_rows) sz) o_r (wd_Plane_has cI cZ cJ tq h0 h_rows f_width n_rows g_rows)) 0 0 (va_A (wd_Plane_has cI cZ cJ tq h0 h_rows f_width n_rows g_rows) sz) := by
  refine Met.ofW (cc := b_Plane_has) (maxL := 3) (ret := (some .boolean)) (by decide) rfl ?_
  intro p e s m args below meth c s₁ B hml hv
  obtain ⟨rfl, hsz, hP, hK, hD0, hG⟩ := hv
  have hx := B.exec
  have hb := B.bytes
  have hr := B.returns
  have htw : ∀ w ∈ W_all, w.before [.ref h0, .int x1, .int x2].toArray s = true := fun w h => atoms_spec (ws := ws_Plane_has) B.pre w (List.mem_cons_of_mem _ h)
  have hown : s.vm.findClass R_Plane = some m.cls := findClass_of_methodNamed B.named
  have hlocks := B.notSynchronized
  subst hsz
  have hD := hD0.self (sz := s.heap.size)
  generalize hAe : va_A (wd_Plane_has cI cZ cJ tq h0 h_rows f_width n_rows g_rows) s.heap.size = A at hD hG ⊢
  have hA : ∀ q : Nat, s.heap.size ≤ q → A q := fun q h => by rw [← hAe]; exact Or.inr h
  have hS : va_S A s.heap s.heap [] := va_S.rf
  have C0 : cx p s m meth c [.ref h0, .int x1, .int x2].toArray b_Plane_has (some .boolean) 3 R_Plane D cI cZ cJ tq A := ⟨hx, hb, hr, hml, hown, htw, hlocks, hK, hG⟩
  have hl := lv_entry ([.ref h0, .int x1, .int x2]) (n := 3) (Nat.le_of_ble_eq_true rfl)
  rw [lg_entry_eq]
  generalize (lg_sl ([.ref h0, .int x1, .int x2]) ++ List.replicate (3 - (lg_sl ([.ref h0, .int x1, .int x2])).length) Slot.unset).toArray = ls at hl ⊢
  have hl : lv_has ls 3 [(0, .ref h0), (1, .int x1), (2, .int x2)] := hl
  have hP : va_P D classes (wd_Plane_has cI cZ cJ tq h0 h_rows f_width n_rows g_rows) s.heap := hP
  clear hAe
  unfold F_Plane_has at hf
  refine lv_iload_n hx hb d_Plane_has_0 rfl (lv_at hl 1 rfl) ?_
  refine lv_if_lt (tgt := 28) hx hb d_Plane_has_1 (by decide) (fun c1 => ?_) (fun c1 => ?_)
  · have hf := it_t hf c1
    refine lv_iconst (v := 0) hx hb d_Plane_has_28 (by decide) ?_
    have e0 := Option.some.inj hf
    subst e0
    exact W.zret (v := 0) hx hb hr rfl (fun t ht hW => ⟨⟨_, (), rfl, rfl, by rw [ht]; exact hP, va_K.moved hW.alike hK, hD⟩, hS.F ht⟩) hS.2.2 d_Plane_has_29 hlocks
  · have hf := it_f hf c1
    refine lv_iload_n hx hb d_Plane_has_4 rfl (lv_at hl 1 rfl) ?_
    refine lv_aload_n hx hb d_Plane_has_5 rfl (lv_at hl 0 rfl) ?_
    refine va_get (D := D) (ci := 4) (v := .int f_width) (C := R_Plane) (T := F_Plane) (N := 2) hx hb htw i_Plane hown hK hP 0 rfl rfl 0 (by decide) (htw _ in37) (fun _ h9 => h9) rfl d_Plane_has_6 ?_
    refine lv_icmp_ge (tgt := 28) hx hb d_Plane_has_9 (by decide) (fun c9 => ?_) (fun c9 => ?_)
    · have hf := it_t hf c9
      refine lv_iconst (v := 0) hx hb d_Plane_has_28 (by decide) ?_
      have e0 := Option.some.inj hf
      subst e0
      exact W.zret (v := 0) hx hb hr rfl (fun t ht hW => ⟨⟨_, (), rfl, rfl, by rw [ht]; exact hP, va_K.moved hW.alike hK, hD⟩, hS.F ht⟩) hS.2.2 d_Plane_has_29 hlocks
    · have hf := it_f hf c9
      refine lv_aload_n hx hb d_Plane_has_12 rfl (lv_at hl 0 rfl) ?_
      refine lv_iload_n hx hb d_Plane_has_13 rfl (lv_at hl 2 rfl) ?_
      obtain ⟨r14, e14, hf⟩ := bd1_some hf
      refine g_calli (wc := (wd_Plane_mask cI cZ cJ tq h0 h_rows f_width n_rows g_rows)) (w1 := (wd_Plane_mask cI cZ cJ tq h0 h_rows f_width n_rows g_rows)) (ws' := (wd_Plane_has cI cZ cJ tq h0 h_rows f_width n_rows g_rows)) (va_runV (As := [.int x2]) (rest := []) ⟨hx, hb, hml, hown, htw⟩ (c_Plane_mask l D cI cZ cJ tq h0 h_rows _ f_width n_rows g_rows x2 r14 e14) (cwV 1 htw (gd_V in39 in40 in41 in42 in38) rfl rfl rfl (by decide +kernel) ⟨Nat.le_of_ble_eq_true rfl, Nat.le_of_ble_eq_true rfl⟩) (preV_of (ci := 4) (q0 := 0) hG hS (va_free (wc := (wd_Plane_mask cI cZ cJ tq h0 h_rows f_width n_rows g_rows)) hD hS hA [0, 1] rfl) hK hP rfl rfl (hP.sub (ws' := (wd_Plane_mask cI cZ cJ tq h0 h_rows f_width n_rows g_rows)) [0, 1] rfl) (hD.sub (ws' := (wd_Plane_mask cI cZ cJ tq h0 h_rows f_width n_rows g_rows)) [0, 1] (by decide) rfl)) rfl rfl hl.1 rfl (lv_room (Nat.le_of_ble_eq_true rfl)) d_Plane_has_14 ⟨Nat.le_of_ble_eq_true rfl, Nat.le_of_ble_eq_true rfl⟩) hP hD hS hA [0, 1] [] [0, 1] rfl rfl (by decide) (by decide) (by decide) rfl (fun H locs hP hD hS => ?_)
      refine lv_iload_n hx hb d_Plane_has_17 rfl (lv_at hl 1 rfl) ?_
      refine lv_iushr (v := (ushr r14 x1)) hx hb d_Plane_has_18 rfl ?_
      refine lv_iconst (v := 1) hx hb d_Plane_has_19 (by decide) ?_
      refine lv_iand hx hb d_Plane_has_20 ?_
      refine lv_if_eq (tgt := 28) hx hb d_Plane_has_21 (by decide) (fun c21 => ?_) (fun c21 => ?_)
      · have hf := it_t hf c21
        refine lv_iconst (v := 0) hx hb d_Plane_has_28 (by decide) ?_
        have e0 := Option.some.inj hf
        subst e0
        exact W.zret (v := 0) hx hb hr rfl (fun t ht hW => ⟨⟨_, (), rfl, rfl, by rw [ht]; exact hP, va_K.moved hW.alike hK, hD⟩, hS.F ht⟩) hS.2.2 d_Plane_has_29 hlocks
      · have hf := it_f hf c21
        refine lv_iconst (v := 1) hx hb d_Plane_has_24 (by decide) ?_
        refine lv_goto (tgt := 29) hx hb d_Plane_has_25 (by decide) ?_
        have e0 := Option.some.inj hf
        subst e0
        exact W.zret (v := 1) hx hb hr rfl (fun t ht hW => ⟨⟨_, (), rfl, rfl, by rw [ht]; exact hP, va_K.moved hW.alike hK, hD⟩, hS.F ht⟩) hS.2.2 d_Plane_has_29 hlocks
-- Plane_width
abbrev RM_Plane_width : Room := { frames := 0, cells := 0, slots := 0, locals := 0 }
def ws_Plane_width : List Cond := .code y_Plane_width b_Plane_width 1 (some .int) :: W_all
def wd_Plane_width (cI cZ cJ : ClassId) (tq : Nat → Nat) (h0 : Nat) (h_rows : Nat) (f_width : Int32) : va_W := [(h0, .inr (4, [.int f_width, .ref h_rows]))]
def F_Plane_width (f_width : Int32) : Option (Int32) :=
  (some f_width)
set_option maxHeartbeats 4000000 in
set_option maxRecDepth 100000 in
theorem c_Plane_width (l : Launch) (D : va_G) (cI cZ cJ : ClassId) (tq : Nat → Nat) (h0 : Nat) (h_rows : Nat) (sz : Nat) (f_width : Int32) (o_r : Int32) (hf : F_Plane_width f_width = some o_r) : Met l y_Plane_width ws_Plane_width RM_Plane_width (va_Pc [.ref h0] (Pg D cI cZ cJ tq (wd_Plane_width cI cZ cJ tq h0 h_rows f_width) sz)) (qI D cI cZ cJ (va_A (wd_Plane_width cI cZ cJ tq h0 h_rows f_width) sz) o_r (wd_Plane_width cI cZ cJ tq h0 h_rows f_width)) 0 0 (va_A (wd_Plane_width cI cZ cJ tq h0 h_rows f_width) sz) := by
  refine Met.ofW (cc := b_Plane_width) (maxL := 1) (ret := (some .int)) (by decide) rfl ?_
  intro p e s m args below meth c s₁ B hml hv
  obtain ⟨rfl, hsz, hP, hK, hD0, hG⟩ := hv
  have hx := B.exec
  have hb := B.bytes
  have hr := B.returns
  have htw : ∀ w ∈ W_all, w.before [.ref h0].toArray s = true := fun w h => atoms_spec (ws := ws_Plane_width) B.pre w (List.mem_cons_of_mem _ h)
  have hown : s.vm.findClass R_Plane = some m.cls := findClass_of_methodNamed B.named
  have hlocks := B.notSynchronized
  subst hsz
  have hD := hD0.self (sz := s.heap.size)
  generalize hAe : va_A (wd_Plane_width cI cZ cJ tq h0 h_rows f_width) s.heap.size = A at hD hG ⊢
  have hA : ∀ q : Nat, s.heap.size ≤ q → A q := fun q h => by rw [← hAe]; exact Or.inr h
  have hS : va_S A s.heap s.heap [] := va_S.rf
  have C0 : cx p s m meth c [.ref h0].toArray b_Plane_width (some .int) 1 R_Plane D cI cZ cJ tq A := ⟨hx, hb, hr, hml, hown, htw, hlocks, hK, hG⟩
  have hl := lv_entry ([.ref h0]) (n := 1) (Nat.le_of_ble_eq_true rfl)
  rw [lg_entry_eq]
  generalize (lg_sl ([.ref h0]) ++ List.replicate (1 - (lg_sl ([.ref h0])).length) Slot.unset).toArray = ls at hl ⊢
  have hl : lv_has ls 1 [(0, .ref h0)] := hl
  have hP : va_P D classes (wd_Plane_width cI cZ cJ tq h0 h_rows f_width) s.heap := hP
  clear hAe
  unfold F_Plane_width at hf
  refine lv_aload_n hx hb d_Plane_width_0 rfl (lv_at hl 0 rfl) ?_
  refine va_get (D := D) (ci := 4) (v := .int f_width) (C := R_Plane) (T := F_Plane) (N := 2) hx hb htw i_Plane hown hK hP 0 rfl rfl 0 (by decide) (htw _ in37) (fun _ h9 => h9) rfl d_Plane_width_1 ?_
  have e0 := Option.some.inj hf
  subst e0
  exact W.iret (v := f_width) hx hb hr (fun t ht hW => ⟨⟨_, (), rfl, rfl, by rw [ht]; exact hP, va_K.moved hW.alike hK, hD⟩, hS.F ht⟩) hS.2.2 d_Plane_width_4 hlocks
-- Plane_height
abbrev RM_Plane_height : Room := { frames := 0, cells := 0, slots := 0, locals := 0 }
def ws_Plane_height : List Cond := .code y_Plane_height b_Plane_height 1 (some .int) :: W_all
def wd_Plane_height (cI cZ cJ : ClassId) (tq : Nat → Nat) (h0 : Nat) (h_rows : Nat) (f_width : Int32) (n_rows : Nat) (g_rows : Nat → Int32) : va_W := [(h0, .inr (4, [.int f_width, .ref h_rows])), (h_rows, .inl (cI, n_rows, .inl g_rows))]
def F_Plane_height (n_rows : Nat) : Option (Int32) :=
  (some (nI n_rows))
set_option maxHeartbeats 4000000 in
set_option maxRecDepth 100000 in
theorem c_Plane_height (l : Launch) (D : va_G) (cI cZ cJ : ClassId) (tq : Nat → Nat) (h0 : Nat) (h_rows : Nat) (sz : Nat) (f_width : Int32) (n_rows : Nat) (g_rows : Nat → Int32) (o_r : Int32) (hf : F_Plane_height n_rows = some o_r) : Met l y_Plane_height ws_Plane_height RM_Plane_height (va_Pc [.ref h0] (Pg D cI cZ cJ tq (wd_Plane_height cI cZ cJ tq h0 h_rows f_width n_rows g_rows) sz)) (qI D cI cZ cJ (va_A (wd_Plane_height cI cZ cJ tq h0 h_rows f_width n_rows g_rows) sz) o_r (wd_Plane_height cI cZ cJ tq h0 h_rows f_width n_rows g_rows)) 0 0 (va_A (wd_Plane_height cI cZ cJ tq h0 h_rows f_width n_rows g_rows) sz) := by
  refine Met.ofW (cc := b_Plane_height) (maxL := 1) (ret := (some .int)) (by decide) rfl ?_
  intro p e s m args below meth c s₁ B hml hv
  obtain ⟨rfl, hsz, hP, hK, hD0, hG⟩ := hv
  have hx := B.exec
  have hb := B.bytes
  have hr := B.returns
  have htw : ∀ w ∈ W_all, w.before [.ref h0].toArray s = true := fun w h => atoms_spec (ws := ws_Plane_height) B.pre w (List.mem_cons_of_mem _ h)
  have hown : s.vm.findClass R_Plane = some m.cls := findClass_of_methodNamed B.named
  have hlocks := B.notSynchronized
  subst hsz
  have hD := hD0.self (sz := s.heap.size)
  generalize hAe : va_A (wd_Plane_height cI cZ cJ tq h0 h_rows f_width n_rows g_rows) s.heap.size = A at hD hG ⊢
  have hA : ∀ q : Nat, s.heap.size ≤ q → A q := fun q h => by rw [← hAe]; exact Or.inr h
  have hS : va_S A s.heap s.heap [] := va_S.rf
  have C0 : cx p s m meth c [.ref h0].toArray b_Plane_height (some .int) 1 R_Plane D cI cZ cJ tq A := ⟨hx, hb, hr, hml, hown, htw, hlocks, hK, hG⟩
  have hl := lv_entry ([.ref h0]) (n := 1) (Nat.le_of_ble_eq_true rfl)
  rw [lg_entry_eq]
  generalize (lg_sl ([.ref h0]) ++ List.replicate (1 - (lg_sl ([.ref h0])).length) Slot.unset).toArray = ls at hl ⊢
  have hl : lv_has ls 1 [(0, .ref h0)] := hl
  have hP : va_P D classes (wd_Plane_height cI cZ cJ tq h0 h_rows f_width n_rows g_rows) s.heap := hP
  clear hAe
  unfold F_Plane_height at hf
  refine lv_aload_n hx hb d_Plane_height_0 rfl (lv_at hl 0 rfl) ?_
  refine va_get (D := D) (ci := 4) (v := .ref h_rows) (C := R_Plane) (T := F_Plane) (N := 2) hx hb htw i_Plane hown hK hP 0 rfl rfl 1 (by decide) (htw _ in36) (fun _ h9 => h9) rfl d_Plane_height_1 ?_
  refine va_alen (v := nI n_rows) hx hb hK hP 1 0 rfl rfl rfl d_Plane_height_4 ?_
  have e0 := Option.some.inj hf
  subst e0
  exact W.iret (v := (nI n_rows)) hx hb hr (fun t ht hW => ⟨⟨_, (), rfl, rfl, by rw [ht]; exact hP, va_K.moved hW.alike hK, hD⟩, hS.F ht⟩) hS.2.2 d_Plane_height_5 hlocks
-- Plane_setMask
abbrev RM_Plane_setMask : Room := { frames := 0, cells := 0, slots := 0, locals := 0 }
def ws_Plane_setMask : List Cond := .code y_Plane_setMask b_Plane_setMask 3 none :: W_all
def wd_Plane_setMask (cI cZ cJ : ClassId) (tq : Nat → Nat) (h0 : Nat) (h_rows : Nat) (f_width : Int32) (n_rows : Nat) (g_rows : Nat → Int32) : va_W := [(h0, .inr (4, [.int f_width, .ref h_rows])), (h_rows, .inl (cI, n_rows, .inl g_rows))]
def F_Plane_setMask (x1 : Int32) (x2 : Int32) (f_width : Int32) (n_rows : Nat) (g_rows : Nat → Int32) : Option ((Nat → Int32)) :=
  (if x1 < 0 then (some g_rows) else (if (nI n_rows) ≤ x1 then (some g_rows) else (if x1 < 0 ∨ n_rows ≤ x1.toNatClampNeg then none else (some (upd g_rows x1.toNatClampNeg (x2 &&& ((1 <<< (f_width &&& 31)) - 1)))))))
set_option maxHeartbeats 4000000 in
set_option maxRecDepth 100000 in
theorem c_Plane_setMask (l : Launch) (D : va_G) (cI cZ cJ : ClassId) (tq : Nat → Nat) (h0 : Nat) (h_rows : Nat) (sz : Nat) (f_width : Int32) (n_rows : Nat) (g_rows : Nat → Int32) (x1 : Int32) (x2 : Int32) (o_g_rows : Nat → Int32) (hf : F_Plane_setMask x1 x2 f_width n_rows g_rows = some o_g_rows) : Met l y_Plane_setMask ws_Plane_setMask RM_Plane_setMask (va_Pc [.ref h0, .int x1, .int x2] (Pg D cI cZ cJ tq (wd_Plane_setMask cI cZ cJ tq h0 h_rows f_width n_rows g_rows) sz)) (qV D cI cZ cJ (va_A (wd_Plane_setMask cI cZ cJ tq h0 h_rows f_width n_rows g_rows) sz) (wd_Plane_setMask cI cZ cJ tq h0 h_rows f_width n_rows o_g_rows)) 0 0 (va_A (wd_Plane_setMask cI cZ cJ tq h0 h_rows f_width n_rows g_rows) sz) := by
  refine Met.ofW (cc := b_Plane_setMask) (maxL := 3) (ret := none) (by decide) rfl ?_
  intro p e s m args below meth c s₁ B hml hv
  obtain ⟨rfl, hsz, hP, hK, hD0, hG⟩ := hv
  have hx := B.exec
  have hb := B.bytes
  have hr := B.returns
  have htw : ∀ w ∈ W_all, w.before [.ref h0, .int x1, .int x2].toArray s = true := fun w h => atoms_spec (ws := ws_Plane_setMask) B.pre w (List.mem_cons_of_mem _ h)
  have hown : s.vm.findClass R_Plane = some m.cls := findClass_of_methodNamed B.named
  have hlocks := B.notSynchronized
  subst hsz
  have hD := hD0.self (sz := s.heap.size)
  generalize hAe : va_A (wd_Plane_setMask cI cZ cJ tq h0 h_rows f_width n_rows g_rows) s.heap.size = A at hD hG ⊢
  have hA : ∀ q : Nat, s.heap.size ≤ q → A q := fun q h => by rw [← hAe]; exact Or.inr h
  have hS : va_S A s.heap s.heap [] := va_S.rf
  have C0 : cx p s m meth c [.ref h0, .int x1, .int x2].toArray b_Plane_setMask none 3 R_Plane D cI cZ cJ tq A := ⟨hx, hb, hr, hml, hown, htw, hlocks, hK, hG⟩
  have hl := lv_entry ([.ref h0, .int x1, .int x2]) (n := 3) (Nat.le_of_ble_eq_true rfl)
  rw [lg_entry_eq]
  generalize (lg_sl ([.ref h0, .int x1, .int x2]) ++ List.replicate (3 - (lg_sl ([.ref h0, .int x1, .int x2])).length) Slot.unset).toArray = ls at hl ⊢
  have hl : lv_has ls 3 [(0, .ref h0), (1, .int x1), (2, .int x2)] := hl
  have hP : va_P D classes (wd_Plane_setMask cI cZ cJ tq h0 h_rows f_width n_rows g_rows) s.heap := hP
  clear hAe
  unfold F_Plane_setMask at hf
  refine lv_iload_n hx hb d_Plane_setMask_0 rfl (lv_at hl 1 rfl) ?_
  refine lv_if_lt (tgt := 29) hx hb d_Plane_setMask_1 (by decide) (fun c1 => ?_) (fun c1 => ?_)
  · have hf := it_t hf c1
    have e0 := Option.some.inj hf
    subst e0
    exact W.vret hx hb hr (fun t ht hW => ⟨⟨(), rfl, trivial, by rw [ht]; exact hP, va_K.moved hW.alike hK, hD⟩, hS.F ht⟩) hS.2.2 d_Plane_setMask_29 hlocks
  · have hf := it_f hf c1
    refine lv_iload_n hx hb d_Plane_setMask_4 rfl (lv_at hl 1 rfl) ?_
    refine lv_aload_n hx hb d_Plane_setMask_5 rfl (lv_at hl 0 rfl) ?_
    refine va_get (D := D) (ci := 4) (v := .ref h_rows) (C := R_Plane) (T := F_Plane) (N := 2) hx hb htw i_Plane hown hK hP 0 rfl rfl 1 (by decide) (htw _ in36) (fun _ h9 => h9) rfl d_Plane_setMask_6 ?_
    refine va_alen (v := nI n_rows) hx hb hK hP 1 0 rfl rfl rfl d_Plane_setMask_9 ?_
    refine lv_icmp_ge (tgt := 29) hx hb d_Plane_setMask_10 (by decide) (fun c10 => ?_) (fun c10 => ?_)
    · have hf := it_t hf c10
      have e0 := Option.some.inj hf
      subst e0
      exact W.vret hx hb hr (fun t ht hW => ⟨⟨(), rfl, trivial, by rw [ht]; exact hP, va_K.moved hW.alike hK, hD⟩, hS.F ht⟩) hS.2.2 d_Plane_setMask_29 hlocks
    · have hf := it_f hf c10
      refine lv_aload_n hx hb d_Plane_setMask_13 rfl (lv_at hl 0 rfl) ?_
      refine va_get (D := D) (ci := 4) (v := .ref h_rows) (C := R_Plane) (T := F_Plane) (N := 2) hx hb htw i_Plane hown hK hP 0 rfl rfl 1 (by decide) (htw _ in36) (fun _ h9 => h9) rfl d_Plane_setMask_14 ?_
      refine lv_iload_n hx hb d_Plane_setMask_17 rfl (lv_at hl 1 rfl) ?_
      refine lv_iload_n hx hb d_Plane_setMask_18 rfl (lv_at hl 2 rfl) ?_
      refine lv_iconst (v := 1) hx hb d_Plane_setMask_19 (by decide) ?_
      refine lv_aload_n hx hb d_Plane_setMask_20 rfl (lv_at hl 0 rfl) ?_
      refine va_get (D := D) (ci := 4) (v := .int f_width) (C := R_Plane) (T := F_Plane) (N := 2) hx hb htw i_Plane hown hK hP 0 rfl rfl 0 (by decide) (htw _ in37) (fun _ h9 => h9) rfl d_Plane_setMask_21 ?_
      refine lv_ishl hx hb d_Plane_setMask_24 ?_
      refine lv_iconst (v := 1) hx hb d_Plane_setMask_25 (by decide) ?_
      refine lv_isub hx hb d_Plane_setMask_26 ?_
      refine lv_iand hx hb d_Plane_setMask_27 ?_
      by_cases g28 : x1 < 0 ∨ n_rows ≤ x1.toNatClampNeg
      · exact no_some (it_t hf g28)
      have hf := it_f hf g28
      refine va_iast hx hb hK hP hD hS 1 0 rfl rfl g28 d_Plane_setMask_28 (fun H locs hP hD hS => ?_)
      have hP : va_P D classes (wd_Plane_setMask cI cZ cJ tq h0 h_rows f_width n_rows (upd g_rows x1.toNatClampNeg (x2 &&& ((1 <<< (f_width &&& 31)) - 1)))) H := hP
      have hD : va_D A (wd_Plane_setMask cI cZ cJ tq h0 h_rows f_width n_rows (upd g_rows x1.toNatClampNeg (x2 &&& ((1 <<< (f_width &&& 31)) - 1)))) := hD
      have e0 := Option.some.inj hf
      subst e0
      exact W.vret hx hb hr (fun t ht hW => ⟨⟨(), rfl, trivial, by rw [ht]; exact hP, va_K.moved hW.alike hK, hD⟩, hS.F ht⟩) hS.2.2 d_Plane_setMask_29 hlocks
-- Plane_change
abbrev RM_Plane_change : Room := { frames := 2, cells := 0, slots := 0, locals := 43 }
def ws_Plane_change : List Cond := .code y_Plane_change b_Plane_change 5 (some .boolean) :: W_all
def wd_Plane_change (cI cZ cJ : ClassId) (tq : Nat → Nat) (h0 : Nat) (h_rows : Nat) (f_width : Int32) (n_rows : Nat) (g_rows : Nat → Int32) : va_W := [(h0, .inr (4, [.int f_width, .ref h_rows])), (h_rows, .inl (cI, n_rows, .inl g_rows))]
def F_Plane_change_15 (f_width : Int32) (n_rows : Nat) (x1 : Int32) (x2 : Int32) (z0 : Int32) (g_rows : Nat → Int32) : Option (Int32 × (Nat → Int32)) :=
  (if z0 = 0 then (if ¬ (z0 = 0 ∨ z0 = 1) then none else (some (z0, g_rows))) else (bd1 (F_Plane_mask x2 n_rows g_rows) (fun r26 => (bd1 (F_Plane_setMask x2 (r26 ^^^ (1 <<< (x1 &&& 31))) f_width n_rows g_rows) (fun w33_g_rows => (if ¬ (z0 = 0 ∨ z0 = 1) then none else (some (z0, w33_g_rows))))))))
def F_Plane_change (x1 : Int32) (x2 : Int32) (x3 : Int32) (f_width : Int32) (n_rows : Nat) (g_rows : Nat → Int32) : Option (Int32 × (Nat → Int32)) :=
  (bd1 (F_Plane_has x1 x2 f_width n_rows g_rows) (fun r3 => (if r3 = x3 then (F_Plane_change_15 f_width n_rows x1 x2 0 g_rows) else (F_Plane_change_15 f_width n_rows x1 x2 1 g_rows))))
set_option maxHeartbeats 4000000 in
set_option maxRecDepth 100000 in
theorem w_Plane_change_15 {p : Program} {l : Launch} {e : Env} {s : State} {m : MethodId} {args : Array Value} {below : List Frame} {meth : Method} {c : Code} {D : va_G} {cI cZ cJ : ClassId} {tq : Nat → Nat} {A : Nat → Prop} (h0 : Nat) (h_rows : Nat) (f_width : Int32) (n_rows : Nat) (o_r : Int32) (o_g_rows : Nat → Int32) (C0 : cx p s m meth c args b_Plane_change (some .boolean) 5 R_Plane D cI cZ cJ tq A) (hA : ∀ q : Nat, s.heap.size ≤ q → A q) : ∀ (x1 : Int32) (x2 : Int32) (z0 : Int32) (g_rows : Nat → Int32) (H : Heap) (locs : List Loc) (ls : Array Slot), va_P D classes (wd_Plane_change cI cZ cJ tq h0 h_rows f_width n_rows g_rows) H → va_D A (wd_Plane_change cI cZ cJ tq h0 h_rows f_width n_rows g_rows) → va_S A s.heap H locs → lv_has ls 5 [(0, .ref h0), (1, .int x1), (2, .int x2)] → F_Plane_change_15 f_width n_rows x1 x2 z0 g_rows = some (o_r, o_g_rows) → W p l e RM_Plane_change s m args below meth c H locs 0 0 (MQ below (qI D cI cZ cJ A o_r (wd_Plane_change cI cZ cJ tq h0 h_rows f_width n_rows o_g_rows)) args s 0 0 A) (F0 m 15 ls [.int z0]) := by
  obtain ⟨hx, hb, hr, hml, hown, htw, hlocks, hK, hG⟩ := id C0
  intro x1 x2 z0 g_rows H locs ls hP hD hS hl hf
  unfold F_Plane_change_15 at hf
  refine lv_istore (lv' := [(4, .int z0), (0, .ref h0), (1, .int x1), (2, .int x2)]) hx hb d_Plane_change_15 hl (by decide) rfl (fun ls hl => ?_)
  refine lv_iload hx hb d_Plane_change_17 (lv_at hl 0 rfl) ?_
  refine lv_if_eq (tgt := 36) hx hb d_Plane_change_19 (by decide) (fun c19 => ?_) (fun c19 => ?_)
  · have hf := it_t hf c19
    refine lv_iload hx hb d_Plane_change_36 (lv_at hl 0 rfl) ?_
    by_cases g38 : ¬ (z0 = 0 ∨ z0 = 1)
    · exact no_some (it_t hf g38)
    have hf := it_f hf g38
    obtain ⟨e0, e1⟩ := so2 hf
    subst e0; subst e1
    exact W.zret (v := z0) hx hb hr (bz_nar g38) (fun t ht hW => ⟨⟨_, (), rfl, rfl, by rw [ht]; exact hP, va_K.moved hW.alike hK, hD⟩, hS.F ht⟩) hS.2.2 d_Plane_change_38 hlocks
  · have hf := it_f hf c19
    refine lv_aload_n hx hb d_Plane_change_22 rfl (lv_at hl 1 rfl) ?_
    refine lv_iload_n hx hb d_Plane_change_23 rfl (lv_at hl 3 rfl) ?_
    refine lv_aload_n hx hb d_Plane_change_24 rfl (lv_at hl 1 rfl) ?_
    refine lv_iload_n hx hb d_Plane_change_25 rfl (lv_at hl 3 rfl) ?_
    obtain ⟨r26, e26, hf⟩ := bd1_some hf
    refine g_calli (wc := (wd_Plane_mask cI cZ cJ tq h0 h_rows f_width n_rows g_rows)) (w1 := (wd_Plane_mask cI cZ cJ tq h0 h_rows f_width n_rows g_rows)) (ws' := (wd_Plane_change cI cZ cJ tq h0 h_rows f_width n_rows g_rows)) (va_runV (As := [.int x2]) (rest := [.int x2, .ref h0]) ⟨hx, hb, hml, hown, htw⟩ (c_Plane_mask l D cI cZ cJ tq h0 h_rows _ f_width n_rows g_rows x2 r26 e26) (cwV 1 htw (gd_V in39 in40 in41 in42 in38) rfl rfl rfl (by decide +kernel) ⟨Nat.le_of_ble_eq_true rfl, Nat.le_of_ble_eq_true rfl⟩) (preV_of (ci := 4) (q0 := 0) hG hS (va_free (wc := (wd_Plane_mask cI cZ cJ tq h0 h_rows f_width n_rows g_rows)) hD hS hA [0, 1] rfl) hK hP rfl rfl (hP.sub (ws' := (wd_Plane_mask cI cZ cJ tq h0 h_rows f_width n_rows g_rows)) [0, 1] rfl) (hD.sub (ws' := (wd_Plane_mask cI cZ cJ tq h0 h_rows f_width n_rows g_rows)) [0, 1] (by decide) rfl)) rfl rfl hl.1 rfl (lv_room (Nat.le_of_ble_eq_true rfl)) d_Plane_change_26 ⟨Nat.le_of_ble_eq_true rfl, Nat.le_of_ble_eq_true rfl⟩) hP hD hS hA [0, 1] [] [0, 1] rfl rfl (by decide) (by decide) (by decide) rfl (fun H locs hP hD hS => ?_)
    refine lv_iconst (v := 1) hx hb d_Plane_change_29 (by decide) ?_
    refine lv_iload_n hx hb d_Plane_change_30 rfl (lv_at hl 2 rfl) ?_
    refine lv_ishl hx hb d_Plane_change_31 ?_
    refine lv_ixor hx hb d_Plane_change_32 ?_
    obtain ⟨w33_g_rows, e33, hf⟩ := bd1_some hf
    refine g_callv (wc := (wd_Plane_setMask cI cZ cJ tq h0 h_rows f_width n_rows g_rows)) (w1 := (wd_Plane_setMask cI cZ cJ tq h0 h_rows f_width n_rows w33_g_rows)) (ws' := (wd_Plane_change cI cZ cJ tq h0 h_rows f_width n_rows w33_g_rows)) (va_runV (As := [.int x2, .int (r26 ^^^ (1 <<< (x1 &&& 31)))]) (rest := []) ⟨hx, hb, hml, hown, htw⟩ (c_Plane_setMask l D cI cZ cJ tq h0 h_rows _ f_width n_rows g_rows x2 (r26 ^^^ (1 <<< (x1 &&& 31))) w33_g_rows e33) (cwV 2 htw (gd_V in49 in50 in51 in42 in48) rfl rfl rfl (by decide +kernel) ⟨Nat.le_of_ble_eq_true rfl, Nat.le_of_ble_eq_true rfl⟩) (preV_of (ci := 4) (q0 := 0) hG hS (va_free (wc := (wd_Plane_setMask cI cZ cJ tq h0 h_rows f_width n_rows g_rows)) hD hS hA [0, 1] rfl) hK hP rfl rfl (hP.sub (ws' := (wd_Plane_setMask cI cZ cJ tq h0 h_rows f_width n_rows g_rows)) [0, 1] rfl) (hD.sub (ws' := (wd_Plane_setMask cI cZ cJ tq h0 h_rows f_width n_rows g_rows)) [0, 1] (by decide) rfl)) rfl rfl hl.1 rfl (lv_room (Nat.le_of_ble_eq_true rfl)) d_Plane_change_33 ⟨Nat.le_of_ble_eq_true rfl, Nat.le_of_ble_eq_true rfl⟩) hP hD hS hA [0, 1] [] [0, 1] rfl rfl (by decide) (by decide) (by decide) rfl (fun H locs hP hD hS => ?_)
    refine lv_iload hx hb d_Plane_change_36 (lv_at hl 0 rfl) ?_
    by_cases g38 : ¬ (z0 = 0 ∨ z0 = 1)
    · exact no_some (it_t hf g38)
    have hf := it_f hf g38
    obtain ⟨e0, e1⟩ := so2 hf
    subst e0; subst e1
    exact W.zret (v := z0) hx hb hr (bz_nar g38) (fun t ht hW => ⟨⟨_, (), rfl, rfl, by rw [ht]; exact hP, va_K.moved hW.alike hK, hD⟩, hS.F ht⟩) hS.2.2 d_Plane_change_38 hlocks
set_option maxHeartbeats 4000000 in
set_option maxRecDepth 100000 in
theorem c_Plane_change (l : Launch) (D : va_G) (cI cZ cJ : ClassId) (tq : Nat → Nat) (h0 : Nat) (h_rows : Nat) (sz : Nat) (f_width : Int32) (n_rows : Nat) (g_rows : Nat → Int32) (x1 : Int32) (x2 : Int32) (x3 : Int32) (o_r : Int32) (o_g_rows : Nat → Int32) (hf : F_Plane_change x1 x2 x3 f_width n_rows g_rows = some (o_r, o_g_rows)) : Met l y_Plane_change ws_Plane_change RM_Plane_change (va_Pc [.ref h0, .int x1, .int x2, .int x3] (Pg D cI cZ cJ tq (wd_Plane_change cI cZ cJ tq h0 h_rows f_width n_rows g_rows) sz)) (qI D cI cZ cJ (va_A (wd_Plane_change cI cZ cJ tq h0 h_rows f_width n_rows g_rows) sz) o_r (wd_Plane_change cI cZ cJ tq h0 h_rows f_width n_rows o_g_rows)) 0 0 (va_A (wd_Plane_change cI cZ cJ tq h0 h_rows f_width n_rows g_rows) sz) := by
  refine Met.ofW (cc := b_Plane_change) (maxL := 5) (ret := (some .boolean)) (by decide) rfl ?_
  intro p e s m args below meth c s₁ B hml hv
  obtain ⟨rfl, hsz, hP, hK, hD0, hG⟩ := hv
  have hx := B.exec
  have hb := B.bytes
  have hr := B.returns
  have htw : ∀ w ∈ W_all, w.before [.ref h0, .int x1, .int x2, .int x3].toArray s = true := fun w h => atoms_spec (ws := ws_Plane_change) B.pre w (List.mem_cons_of_mem _ h)
  have hown : s.vm.findClass R_Plane = some m.cls := findClass_of_methodNamed B.named
  have hlocks := B.notSynchronized
  subst hsz
  have hD := hD0.self (sz := s.heap.size)
  generalize hAe : va_A (wd_Plane_change cI cZ cJ tq h0 h_rows f_width n_rows g_rows) s.heap.size = A at hD hG ⊢
  have hA : ∀ q : Nat, s.heap.size ≤ q → A q := fun q h => by rw [← hAe]; exact Or.inr h
  have hS : va_S A s.heap s.heap [] := va_S.rf
  have C0 : cx p s m meth c [.ref h0, .int x1, .int x2, .int x3].toArray b_Plane_change (some .boolean) 5 R_Plane D cI cZ cJ tq A := ⟨hx, hb, hr, hml, hown, htw, hlocks, hK, hG⟩
  have hl := lv_entry ([.ref h0, .int x1, .int x2, .int x3]) (n := 5) (Nat.le_of_ble_eq_true rfl)
  rw [lg_entry_eq]
  generalize (lg_sl ([.ref h0, .int x1, .int x2, .int x3]) ++ List.replicate (5 - (lg_sl ([.ref h0, .int x1, .int x2, .int x3])).length) Slot.unset).toArray = ls at hl ⊢
  have hl : lv_has ls 5 [(0, .ref h0), (1, .int x1), (2, .int x2), (3, .int x3)] := hl
  have hP : va_P D classes (wd_Plane_change cI cZ cJ tq h0 h_rows f_width n_rows g_rows) s.heap := hP
  clear hAe
  unfold F_Plane_change at hf
  refine lv_aload_n hx hb d_Plane_change_0 rfl (lv_at hl 0 rfl) ?_
  refine lv_iload_n hx hb d_Plane_change_1 rfl (lv_at hl 1 rfl) ?_
  refine lv_iload_n hx hb d_Plane_change_2 rfl (lv_at hl 2 rfl) ?_
  obtain ⟨r3, e3, hf⟩ := bd1_some hf
  refine g_calli (wc := (wd_Plane_has cI cZ cJ tq h0 h_rows f_width n_rows g_rows)) (w1 := (wd_Plane_has cI cZ cJ tq h0 h_rows f_width n_rows g_rows)) (ws' := (wd_Plane_change cI cZ cJ tq h0 h_rows f_width n_rows g_rows)) (va_runV (As := [.int x1, .int x2]) (rest := []) ⟨hx, hb, hml, hown, htw⟩ (c_Plane_has l D cI cZ cJ tq h0 h_rows _ f_width n_rows g_rows x1 x2 r3 e3) (cwV 2 htw (gd_V in47 in45 in46 in42 in43) rfl rfl rfl (by decide +kernel) ⟨Nat.le_of_ble_eq_true rfl, Nat.le_of_ble_eq_true rfl⟩) (preV_of (ci := 4) (q0 := 0) hG hS (va_free (wc := (wd_Plane_has cI cZ cJ tq h0 h_rows f_width n_rows g_rows)) hD hS hA [0, 1] rfl) hK hP rfl rfl (hP.sub (ws' := (wd_Plane_has cI cZ cJ tq h0 h_rows f_width n_rows g_rows)) [0, 1] rfl) (hD.sub (ws' := (wd_Plane_has cI cZ cJ tq h0 h_rows f_width n_rows g_rows)) [0, 1] (by decide) rfl)) rfl rfl hl.1 rfl (lv_room (Nat.le_of_ble_eq_true rfl)) d_Plane_change_3 ⟨Nat.le_of_ble_eq_true rfl, Nat.le_of_ble_eq_true rfl⟩) hP hD hS hA [0, 1] [] [0, 1] rfl rfl (by decide) (by decide) (by decide) rfl (fun H locs hP hD hS => ?_)
  refine lv_iload_n hx hb d_Plane_change_6 rfl (lv_at hl 3 rfl) ?_
  refine lv_icmp_eq (tgt := 14) hx hb d_Plane_change_7 (by decide) (fun c7 => ?_) (fun c7 => ?_)
  · have hf := it_t hf c7
    refine lv_iconst (v := 0) hx hb d_Plane_change_14 (by decide) ?_
    exact w_Plane_change_15 h0 h_rows f_width n_rows o_r o_g_rows C0 hA x1 x2 0 g_rows _ _ ls hP hD hS (lv_sub hl [0, 1, 2] rfl) hf
  · have hf := it_f hf c7
    refine lv_iconst (v := 1) hx hb d_Plane_change_10 (by decide) ?_
    refine lv_goto (tgt := 15) hx hb d_Plane_change_11 (by decide) ?_
    exact w_Plane_change_15 h0 h_rows f_width n_rows o_r o_g_rows C0 hA x1 x2 1 g_rows _ _ ls hP hD hS (lv_sub hl [0, 1, 2] rfl) hf
-- Plane_wipe
abbrev RM_Plane_wipe : Room := { frames := 0, cells := 0, slots := 0, locals := 0 }
def ws_Plane_wipe : List Cond := .code y_Plane_wipe b_Plane_wipe 2 none :: W_all
def wd_Plane_wipe (cI cZ cJ : ClassId) (tq : Nat → Nat) (h0 : Nat) (h_rows : Nat) (f_width : Int32) (n_rows : Nat) (g_rows : Nat → Int32) : va_W := [(h0, .inr (4, [.int f_width, .ref h_rows])), (h_rows, .inl (cI, n_rows, .inl g_rows))]
def F_Plane_wipe_2 (k : Nat) (n_rows : Nat) : Nat → Int32 → (Nat → Int32) → Option ((Nat → Int32))
  | 0, _, _ => none
  | n + 1, x1, g_rows =>
    (if (nI n_rows) ≤ x1 then (some g_rows) else (if x1 < 0 ∨ n_rows ≤ x1.toNatClampNeg then none else (F_Plane_wipe_2 k n_rows n (x1 + 1) (upd g_rows x1.toNatClampNeg 0))))
def F_Plane_wipe (k : Nat) (n_rows : Nat) (g_rows : Nat → Int32) : Option ((Nat → Int32)) :=
  (F_Plane_wipe_2 k n_rows k 0 g_rows)
set_option maxHeartbeats 4000000 in
set_option maxRecDepth 100000 in
theorem w_Plane_wipe_2 {p : Program} {l : Launch} {e : Env} {s : State} {m : MethodId} {args : Array Value} {below : List Frame} {meth : Method} {c : Code} {D : va_G} {cI cZ cJ : ClassId} {tq : Nat → Nat} {A : Nat → Prop} (k : Nat) (h0 : Nat) (h_rows : Nat) (f_width : Int32) (n_rows : Nat) (o_g_rows : Nat → Int32) (C0 : cx p s m meth c args b_Plane_wipe none 2 R_Plane D cI cZ cJ tq A) (hA : ∀ q : Nat, s.heap.size ≤ q → A q) : ∀ n : Nat, ∀ (x1 : Int32) (g_rows : Nat → Int32) (H : Heap) (locs : List Loc) (ls : Array Slot), va_P D classes (wd_Plane_wipe cI cZ cJ tq h0 h_rows f_width n_rows g_rows) H → va_D A (wd_Plane_wipe cI cZ cJ tq h0 h_rows f_width n_rows g_rows) → va_S A s.heap H locs → lv_has ls 2 [(0, .ref h0), (1, .int x1)] → F_Plane_wipe_2 k n_rows n x1 g_rows = some o_g_rows → W p l e RM_Plane_wipe s m args below meth c H locs 0 0 (MQ below (qV D cI cZ cJ A (wd_Plane_wipe cI cZ cJ tq h0 h_rows f_width n_rows o_g_rows)) args s 0 0 A) (F0 m 2 ls []) := by
  obtain ⟨hx, hb, hr, hml, hown, htw, hlocks, hK, hG⟩ := id C0
  intro n
  induction n with
  | zero =>
    intro x1 g_rows H locs ls hP hD hS hl hf
    exact no_some hf
  | succ n ih =>
    intro x1 g_rows H locs ls hP hD hS hl hf
    rw [F_Plane_wipe_2] at hf
    refine lv_iload_n hx hb d_Plane_wipe_2 rfl (lv_at hl 1 rfl) ?_
    refine lv_aload_n hx hb d_Plane_wipe_3 rfl (lv_at hl 0 rfl) ?_
    refine va_get (D := D) (ci := 4) (v := .ref h_rows) (C := R_Plane) (T := F_Plane) (N := 2) hx hb htw i_Plane hown hK hP 0 rfl rfl 1 (by decide) (htw _ in36) (fun _ h9 => h9) rfl d_Plane_wipe_4 ?_
    refine va_alen (v := nI n_rows) hx hb hK hP 1 0 rfl rfl rfl d_Plane_wipe_7 ?_
    refine lv_icmp_ge (tgt := 24) hx hb d_Plane_wipe_8 (by decide) (fun c8 => ?_) (fun c8 => ?_)
    · have hf := it_t hf c8
      have e0 := Option.some.inj hf
      subst e0
      exact W.vret hx hb hr (fun t ht hW => ⟨⟨(), rfl, trivial, by rw [ht]; exact hP, va_K.moved hW.alike hK, hD⟩, hS.F ht⟩) hS.2.2 d_Plane_wipe_24 hlocks
    · have hf := it_f hf c8
      refine lv_aload_n hx hb d_Plane_wipe_11 rfl (lv_at hl 0 rfl) ?_
      refine va_get (D := D) (ci := 4) (v := .ref h_rows) (C := R_Plane) (T := F_Plane) (N := 2) hx hb htw i_Plane hown hK hP 0 rfl rfl 1 (by decide) (htw _ in36) (fun _ h9 => h9) rfl d_Plane_wipe_12 ?_
      refine lv_iload_n hx hb d_Plane_wipe_15 rfl (lv_at hl 1 rfl) ?_
      refine lv_iconst (v := 0) hx hb d_Plane_wipe_16 (by decide) ?_
      by_cases g17 : x1 < 0 ∨ n_rows ≤ x1.toNatClampNeg
      · exact no_some (it_t hf g17)
      have hf := it_f hf g17
      refine va_iast hx hb hK hP hD hS 1 0 rfl rfl g17 d_Plane_wipe_17 (fun H locs hP hD hS => ?_)
      have hP : va_P D classes (wd_Plane_wipe cI cZ cJ tq h0 h_rows f_width n_rows (upd g_rows x1.toNatClampNeg 0)) H := hP
      have hD : va_D A (wd_Plane_wipe cI cZ cJ tq h0 h_rows f_width n_rows (upd g_rows x1.toNatClampNeg 0)) := hD
      refine lv_iinc (v := (x1 + 1)) (lv' := [(1, .int (x1 + 1)), (0, .ref h0)]) hx hb d_Plane_wipe_18 hl (k := 1) rfl rfl (by decide) rfl (fun ls hl => ?_)
      refine lv_goto (tgt := 2) hx hb d_Plane_wipe_21 (by decide) ?_
      exact ih (x1 + 1) (upd g_rows x1.toNatClampNeg 0) _ _ ls hP hD hS (lv_sub hl [1, 0] rfl) hf
set_option maxHeartbeats 4000000 in
set_option maxRecDepth 100000 in
theorem c_Plane_wipe (l : Launch) (D : va_G) (cI cZ cJ : ClassId) (tq : Nat → Nat) (k : Nat) (h0 : Nat) (h_rows : Nat) (sz : Nat) (f_width : Int32) (n_rows : Nat) (g_rows : Nat → Int32) (o_g_rows : Nat → Int32) (hf : F_Plane_wipe k n_rows g_rows = some o_g_rows) : Met l y_Plane_wipe ws_Plane_wipe RM_Plane_wipe (va_Pc [.ref h0] (Pg D cI cZ cJ tq (wd_Plane_wipe cI cZ cJ tq h0 h_rows f_width n_rows g_rows) sz)) (qV D cI cZ cJ (va_A (wd_Plane_wipe cI cZ cJ tq h0 h_rows f_width n_rows g_rows) sz) (wd_Plane_wipe cI cZ cJ tq h0 h_rows f_width n_rows o_g_rows)) 0 0 (va_A (wd_Plane_wipe cI cZ cJ tq h0 h_rows f_width n_rows g_rows) sz) := by
  refine Met.ofW (cc := b_Plane_wipe) (maxL := 2) (ret := none) (by decide) rfl ?_
  intro p e s m args below meth c s₁ B hml hv
  obtain ⟨rfl, hsz, hP, hK, hD0, hG⟩ := hv
  have hx := B.exec
  have hb := B.bytes
  have hr := B.returns
  have htw : ∀ w ∈ W_all, w.before [.ref h0].toArray s = true := fun w h => atoms_spec (ws := ws_Plane_wipe) B.pre w (List.mem_cons_of_mem _ h)
  have hown : s.vm.findClass R_Plane = some m.cls := findClass_of_methodNamed B.named
  have hlocks := B.notSynchronized
  subst hsz
  have hD := hD0.self (sz := s.heap.size)
  generalize hAe : va_A (wd_Plane_wipe cI cZ cJ tq h0 h_rows f_width n_rows g_rows) s.heap.size = A at hD hG ⊢
  have hA : ∀ q : Nat, s.heap.size ≤ q → A q := fun q h => by rw [← hAe]; exact Or.inr h
  have hS : va_S A s.heap s.heap [] := va_S.rf
  have C0 : cx p s m meth c [.ref h0].toArray b_Plane_wipe none 2 R_Plane D cI cZ cJ tq A := ⟨hx, hb, hr, hml, hown, htw, hlocks, hK, hG⟩
  have hl := lv_entry ([.ref h0]) (n := 2) (Nat.le_of_ble_eq_true rfl)
  rw [lg_entry_eq]
  generalize (lg_sl ([.ref h0]) ++ List.replicate (2 - (lg_sl ([.ref h0])).length) Slot.unset).toArray = ls at hl ⊢
  have hl : lv_has ls 2 [(0, .ref h0)] := hl
  have hP : va_P D classes (wd_Plane_wipe cI cZ cJ tq h0 h_rows f_width n_rows g_rows) s.heap := hP
  clear hAe
  unfold F_Plane_wipe at hf
  refine lv_iconst (v := 0) hx hb d_Plane_wipe_0 (by decide) ?_
  refine lv_istore_n (lv' := [(1, .int 0), (0, .ref h0)]) hx hb d_Plane_wipe_1 rfl hl (by decide) rfl (fun ls hl => ?_)
  exact w_Plane_wipe_2 k h0 h_rows f_width n_rows o_g_rows C0 hA k 0 g_rows _ _ ls hP hD hS (lv_sub hl [1, 0] rfl) hf
