-- FaxLine_init
abbrev RM_FaxLine_init : Room := { frames := 1, cells := 0, slots := 0, locals := 16 }
def ws_FaxLine_init : List Cond := .code y_FaxLine_init b_FaxLine_init 2 none :: W_all
def wd_FaxLine_init (cI cZ cJ : ClassId) (tq : Nat → Nat) (h0 : Nat) : va_W := [(h0, .inr (1, [.int 0, .int 0, .int 0, .int 0]))]
def wdp_FaxLine_init (cI cZ cJ : ClassId) (tq : Nat → Nat) (h0 : Nat) (qq : Nat → Nat) (o_f_width : Int32) (o_f_above : Int32) (o_f_place : Int32) (o_f_black : Int32) : va_W := [(h0, .inr (1, [.int o_f_width, .int o_f_above, .int o_f_place, .int o_f_black]))]
def F_FaxLine_init (x1 : Int32) : Option (Int32 × Int32 × Int32 × Int32) :=
  (some (x1, 0, 0, 0))
set_option maxHeartbeats 4000000 in
set_option maxRecDepth 100000 in
theorem c_FaxLine_init (l : Launch) (D : va_G) (cI cZ cJ : ClassId) (tq : Nat → Nat) (h0 : Nat) (sz : Nat) (x1 : Int32) (o_f_width : Int32) (o_f_above : Int32) (o_f_place : Int32) (o_f_black : Int32) (hf : F_FaxLine_init x1 = some (o_f_width, o_f_above, o_f_place, o_f_black)) : Met l y_FaxLine_init ws_FaxLine_init RM_FaxLine_init (va_Pc [.ref h0, .int x1] (Pg D cI cZ cJ tq (wd_FaxLine_init cI cZ cJ tq h0) sz)) (qC D cI cZ cJ (va_A (wd_FaxLine_init cI cZ cJ tq h0) sz) (fun qq => (wdp_FaxLine_init cI cZ cJ tq h0 qq o_f_width o_f_above o_f_place o_f_black))) 0 0 (va_A (wd_FaxLine_init cI cZ cJ tq h0) sz) := by
  refine Met.ofW (cc := b_FaxLine_init) (maxL := 2) (ret := none) (by decide) rfl ?_
  intro p e s m args below meth c s₁ B hml hv
  obtain ⟨rfl, hsz, hP, hK, hD0, hG⟩ := hv
  have hx := B.exec
  have hb := B.bytes
  have hr := B.returns
  have htw : ∀ w ∈ W_all, w.before [.ref h0, .int x1].toArray s = true := fun w h => atoms_spec (ws := ws_FaxLine_init) B.pre w (List.mem_cons_of_mem _ h)
  have hown : s.vm.findClass R_FaxLine = some m.cls := findClass_of_methodNamed B.named
  have hlocks := B.notSynchronized
  have hin : meth.name = "<init>" := (name_of_methodNamed B.named B.method).1
  subst hsz
  have hD := hD0.self (sz := s.heap.size)
  generalize hAe : va_A (wd_FaxLine_init cI cZ cJ tq h0) s.heap.size = A at hD hG ⊢
  have hA : ∀ q : Nat, s.heap.size ≤ q → A q := fun q h => by rw [← hAe]; exact Or.inr h
  have hS : va_S A s.heap s.heap [] := va_S.rf
  have C0 : cx p s m meth c [.ref h0, .int x1].toArray b_FaxLine_init none 2 R_FaxLine D cI cZ cJ tq A := ⟨hx, hb, hr, hml, hown, htw, hlocks, hK, hG⟩
  have hl := lv_entry ([.ref h0, .int x1]) (n := 2) (Nat.le_of_ble_eq_true rfl)
  rw [lg_entry_eq]
  generalize (lg_sl ([.ref h0, .int x1]) ++ List.replicate (2 - (lg_sl ([.ref h0, .int x1])).length) Slot.unset).toArray = ls at hl ⊢
  have hl : lv_has ls 2 [(0, .ref h0), (1, .int x1)] := hl
  have hP : va_P D classes (wd_FaxLine_init cI cZ cJ tq h0) s.heap := hP
  clear hAe
  unfold F_FaxLine_init at hf
  refine lv_aload_n hx hb d_FaxLine_init_0 rfl (lv_at hl 0 rfl) ?_
  refine W.objInit hx hb hown (htw _ in0) (htw _ in1) (htw _ in2) rfl (by rw [hml]; exact hl.1) rfl d_FaxLine_init_1 (Nat.le_of_ble_eq_true rfl) (Nat.le_of_ble_eq_true rfl) ?_
  refine W.eq (g2 := F0 m 4 ls []) rfl ?_
  refine lv_aload_n hx hb d_FaxLine_init_4 rfl (lv_at hl 0 rfl) ?_
  refine lv_iload_n hx hb d_FaxLine_init_5 rfl (lv_at hl 1 rfl) ?_
  refine va_putF (D := D) (ci := 1) (v := .int x1) (ty := .int) (C := R_FaxLine) (T := F_FaxLine) (N := 4) hx hb htw i_FaxLine t_FaxLine t_FaxLine_ok n_FaxLine hown hK hP hD hS 0 rfl rfl 0 (by decide) (htw _ in3) (fun _ h9 => h9) rfl hin rfl (by decide +kernel) rfl rfl (Nat.le_of_ble_eq_true rfl) d_FaxLine_init_6 (fun H locs hP hD hS => ?_)
  have hP : va_P D classes ([(h0, .inr (1, [.int x1, .int 0, .int 0, .int 0]))] : va_W) H := hP
  have hD : va_D A ([(h0, .inr (1, [.int x1, .int 0, .int 0, .int 0]))] : va_W) := hD
  obtain ⟨e0, e1, e2, e3⟩ := so4 hf
  subst e0; subst e1; subst e2; subst e3
  exact W.vret hx hb hr (fun t ht hW => ⟨⟨(fun k => [].getD k 0), rfl, trivial, by rw [ht]; exact hP, va_K.moved hW.alike hK, hD⟩, hS.F ht⟩) hS.2.2 d_FaxLine_init_9 hlocks
-- FaxLine_start
abbrev RM_FaxLine_start : Room := { frames := 0, cells := 0, slots := 0, locals := 0 }
def ws_FaxLine_start : List Cond := .code y_FaxLine_start b_FaxLine_start 2 none :: W_all
def wd_FaxLine_start (cI cZ cJ : ClassId) (tq : Nat → Nat) (h0 : Nat) (f_width : Int32) (f_above : Int32) (f_place : Int32) (f_black : Int32) : va_W := [(h0, .inr (1, [.int f_width, .int f_above, .int f_place, .int f_black]))]
def F_FaxLine_start (x1 : Int32) (f_above : Int32) (f_place : Int32) (f_black : Int32) : Option (Int32 × Int32 × Int32) :=
  (some (x1, (-1), 0))
set_option maxHeartbeats 4000000 in
set_option maxRecDepth 100000 in
theorem c_FaxLine_start (l : Launch) (D : va_G) (cI cZ cJ : ClassId) (tq : Nat → Nat) (h0 : Nat) (sz : Nat) (f_width : Int32) (f_above : Int32) (f_place : Int32) (f_black : Int32) (x1 : Int32) (o_f_above : Int32) (o_f_place : Int32) (o_f_black : Int32) (hf : F_FaxLine_start x1 f_above f_place f_black = some (o_f_above, o_f_place, o_f_black)) : Met l y_FaxLine_start ws_FaxLine_start RM_FaxLine_start (va_Pc [.ref h0, .int x1] (Pg D cI cZ cJ tq (wd_FaxLine_start cI cZ cJ tq h0 f_width f_above f_place f_black) sz)) (qV D cI cZ cJ (va_A (wd_FaxLine_start cI cZ cJ tq h0 f_width f_above f_place f_black) sz) (wd_FaxLine_start cI cZ cJ tq h0 f_width o_f_above o_f_place o_f_black)) 0 0 (va_A (wd_FaxLine_start cI cZ cJ tq h0 f_width f_above f_place f_black) sz) := by
  refine Met.ofW (cc := b_FaxLine_start) (maxL := 2) (ret := none) (by decide) rfl ?_
  intro p e s m args below meth c s₁ B hml hv
  obtain ⟨rfl, hsz, hP, hK, hD0, hG⟩ := hv
  have hx := B.exec
  have hb := B.bytes
  have hr := B.returns
  have htw : ∀ w ∈ W_all, w.before [.ref h0, .int x1].toArray s = true := fun w h => atoms_spec (ws := ws_FaxLine_start) B.pre w (List.mem_cons_of_mem _ h)
  have hown : s.vm.findClass R_FaxLine = some m.cls := findClass_of_methodNamed B.named
  have hlocks := B.notSynchronized
  subst hsz
  have hD := hD0.self (sz := s.heap.size)
  generalize hAe : va_A (wd_FaxLine_start cI cZ cJ tq h0 f_width f_above f_place f_black) s.heap.size = A at hD hG ⊢
  have hA : ∀ q : Nat, s.heap.size ≤ q → A q := fun q h => by rw [← hAe]; exact Or.inr h
  have hS : va_S A s.heap s.heap [] := va_S.rf
  have C0 : cx p s m meth c [.ref h0, .int x1].toArray b_FaxLine_start none 2 R_FaxLine D cI cZ cJ tq A := ⟨hx, hb, hr, hml, hown, htw, hlocks, hK, hG⟩
  have hl := lv_entry ([.ref h0, .int x1]) (n := 2) (Nat.le_of_ble_eq_true rfl)
  rw [lg_entry_eq]
  generalize (lg_sl ([.ref h0, .int x1]) ++ List.replicate (2 - (lg_sl ([.ref h0, .int x1])).length) Slot.unset).toArray = ls at hl ⊢
  have hl : lv_has ls 2 [(0, .ref h0), (1, .int x1)] := hl
  have hP : va_P D classes (wd_FaxLine_start cI cZ cJ tq h0 f_width f_above f_place f_black) s.heap := hP
  clear hAe
  unfold F_FaxLine_start at hf
  refine lv_aload_n hx hb d_FaxLine_start_0 rfl (lv_at hl 0 rfl) ?_
  refine lv_iload_n hx hb d_FaxLine_start_1 rfl (lv_at hl 1 rfl) ?_
  refine va_put (D := D) (ci := 1) (v := .int x1) (ty := .int) (C := R_FaxLine) (T := F_FaxLine) (N := 4) hx hb htw i_FaxLine t_FaxLine t_FaxLine_ok n_FaxLine hown hK hP hD hS 0 rfl rfl 1 (by decide) (htw _ in4) (fun _ h9 => h9) rfl (by decide +kernel) rfl rfl (Nat.le_of_ble_eq_true rfl) d_FaxLine_start_2 (fun H locs hP hD hS => ?_)
  have hP : va_P D classes (wd_FaxLine_start cI cZ cJ tq h0 f_width x1 f_place f_black) H := hP
  have hD : va_D A (wd_FaxLine_start cI cZ cJ tq h0 f_width x1 f_place f_black) := hD
  refine lv_aload_n hx hb d_FaxLine_start_5 rfl (lv_at hl 0 rfl) ?_
  refine lv_iconst (v := (-1)) hx hb d_FaxLine_start_6 (by decide) ?_
  refine va_put (D := D) (ci := 1) (v := .int (-1)) (ty := .int) (C := R_FaxLine) (T := F_FaxLine) (N := 4) hx hb htw i_FaxLine t_FaxLine t_FaxLine_ok n_FaxLine hown hK hP hD hS 0 rfl rfl 2 (by decide) (htw _ in5) (fun _ h9 => h9) rfl (by decide +kernel) rfl rfl (Nat.le_of_ble_eq_true rfl) d_FaxLine_start_7 (fun H locs hP hD hS => ?_)
  have hP : va_P D classes (wd_FaxLine_start cI cZ cJ tq h0 f_width x1 (-1) f_black) H := hP
  have hD : va_D A (wd_FaxLine_start cI cZ cJ tq h0 f_width x1 (-1) f_black) := hD
  refine lv_aload_n hx hb d_FaxLine_start_10 rfl (lv_at hl 0 rfl) ?_
  refine lv_iconst (v := 0) hx hb d_FaxLine_start_11 (by decide) ?_
  refine va_put (D := D) (ci := 1) (v := .int 0) (ty := .boolean) (C := R_FaxLine) (T := F_FaxLine) (N := 4) hx hb htw i_FaxLine t_FaxLine t_FaxLine_ok n_FaxLine hown hK hP hD hS 0 rfl rfl 3 (by decide) (htw _ in6) (fun _ h9 => h9) rfl (by decide +kernel) rfl rfl (Nat.le_of_ble_eq_true rfl) d_FaxLine_start_12 (fun H locs hP hD hS => ?_)
  have hP : va_P D classes (wd_FaxLine_start cI cZ cJ tq h0 f_width x1 (-1) 0) H := hP
  have hD : va_D A (wd_FaxLine_start cI cZ cJ tq h0 f_width x1 (-1) 0) := hD
  obtain ⟨e0, e1, e2⟩ := so3 hf
  subst e0; subst e1; subst e2
  exact W.vret hx hb hr (fun t ht hW => ⟨⟨(), rfl, trivial, by rw [ht]; exact hP, va_K.moved hW.alike hK, hD⟩, hS.F ht⟩) hS.2.2 d_FaxLine_start_15 hlocks
-- FaxLine_hasEnded
abbrev RM_FaxLine_hasEnded : Room := { frames := 0, cells := 0, slots := 0, locals := 0 }
def ws_FaxLine_hasEnded : List Cond := .code y_FaxLine_hasEnded b_FaxLine_hasEnded 1 (some .boolean) :: W_all
def wd_FaxLine_hasEnded (cI cZ cJ : ClassId) (tq : Nat → Nat) (h0 : Nat) (f_width : Int32) (f_above : Int32) (f_place : Int32) (f_black : Int32) : va_W := [(h0, .inr (1, [.int f_width, .int f_above, .int f_place, .int f_black]))]
def F_FaxLine_hasEnded (f_width : Int32) (f_place : Int32) : Option (Int32) :=
  (if f_place < f_width then (some 0) else (some 1))
set_option maxHeartbeats 4000000 in
set_option maxRecDepth 100000 in
theorem c_FaxLine_hasEnded (l : Launch) (D : va_G) (cI cZ cJ : ClassId) (tq : Nat → Nat) (h0 : Nat) (sz : Nat) (f_width : Int32) (f_above : Int32) (f_place : Int32) (f_black : Int32) (o_r : Int32) (hf : F_FaxLine_hasEnded f_width f_place = some o_r) : Met l y_FaxLine_hasEnded ws_FaxLine_hasEnded RM_FaxLine_hasEnded (va_Pc [.ref h0] (Pg D cI cZ cJ tq (wd_FaxLine_hasEnded cI cZ cJ tq h0 f_width f_above f_place f_black) sz)) (qI D cI cZ cJ (va_A (wd_FaxLine_hasEnded cI cZ cJ tq h0 f_width f_above f_place f_black) sz) o_r (wd_FaxLine_hasEnded cI cZ cJ tq h0 f_width f_above f_place f_black)) 0 0 (va_A (wd_FaxLine_hasEnded cI cZ cJ tq h0 f_width f_above f_place f_black) sz) := by
  refine Met.ofW (cc := b_FaxLine_hasEnded) (maxL := 1) (ret := (some .boolean)) (by decide) rfl ?_
  intro p e s m args below meth c s₁ B hml hv
  obtain ⟨rfl, hsz, hP, hK, hD0, hG⟩ := hv
  have hx := B.exec
  have hb := B.bytes
  have hr := B.returns
  have htw : ∀ w ∈ W_all, w.before [.ref h0].toArray s = true := fun w h => atoms_spec (ws := ws_FaxLine_hasEnded) B.pre w (List.mem_cons_of_mem _ h)
  have hown : s.vm.findClass R_FaxLine = some m.cls := findClass_of_methodNamed B.named
  have hlocks := B.notSynchronized
  subst hsz
  have hD := hD0.self (sz := s.heap.size)
  generalize hAe : va_A (wd_FaxLine_hasEnded cI cZ cJ tq h0 f_width f_above f_place f_black) s.heap.size = A at hD hG ⊢
  have hA : ∀ q : Nat, s.heap.size ≤ q → A q := fun q h => by rw [← hAe]; exact Or.inr h
  have hS : va_S A s.heap s.heap [] := va_S.rf
  have C0 : cx p s m meth c [.ref h0].toArray b_FaxLine_hasEnded (some .boolean) 1 R_FaxLine D cI cZ cJ tq A := ⟨hx, hb, hr, hml, hown, htw, hlocks, hK, hG⟩
  have hl := lv_entry ([.ref h0]) (n := 1) (Nat.le_of_ble_eq_true rfl)
  rw [lg_entry_eq]
  generalize (lg_sl ([.ref h0]) ++ List.replicate (1 - (lg_sl ([.ref h0])).length) Slot.unset).toArray = ls at hl ⊢
  have hl : lv_has ls 1 [(0, .ref h0)] := hl
  have hP : va_P D classes (wd_FaxLine_hasEnded cI cZ cJ tq h0 f_width f_above f_place f_black) s.heap := hP
  clear hAe
  unfold F_FaxLine_hasEnded at hf
  refine lv_aload_n hx hb d_FaxLine_hasEnded_0 rfl (lv_at hl 0 rfl) ?_
  refine va_get (D := D) (ci := 1) (v := .int f_place) (C := R_FaxLine) (T := F_FaxLine) (N := 4) hx hb htw i_FaxLine hown hK hP 0 rfl rfl 2 (by decide) (htw _ in5) (fun _ h9 => h9) rfl d_FaxLine_hasEnded_1 ?_
  refine lv_aload_n hx hb d_FaxLine_hasEnded_4 rfl (lv_at hl 0 rfl) ?_
  refine va_get (D := D) (ci := 1) (v := .int f_width) (C := R_FaxLine) (T := F_FaxLine) (N := 4) hx hb htw i_FaxLine hown hK hP 0 rfl rfl 0 (by decide) (htw _ in3) (fun _ h9 => h9) rfl d_FaxLine_hasEnded_5 ?_
  refine lv_icmp_lt (tgt := 15) hx hb d_FaxLine_hasEnded_8 (by decide) (fun c8 => ?_) (fun c8 => ?_)
  · have hf := it_t hf c8
    refine lv_iconst (v := 0) hx hb d_FaxLine_hasEnded_15 (by decide) ?_
    have e0 := Option.some.inj hf
    subst e0
    exact W.zret (v := 0) hx hb hr rfl (fun t ht hW => ⟨⟨_, (), rfl, rfl, by rw [ht]; exact hP, va_K.moved hW.alike hK, hD⟩, hS.F ht⟩) hS.2.2 d_FaxLine_hasEnded_16 hlocks
  · have hf := it_f hf c8
    refine lv_iconst (v := 1) hx hb d_FaxLine_hasEnded_11 (by decide) ?_
    refine lv_goto (tgt := 16) hx hb d_FaxLine_hasEnded_12 (by decide) ?_
    have e0 := Option.some.inj hf
    subst e0
    exact W.zret (v := 1) hx hb hr rfl (fun t ht hW => ⟨⟨_, (), rfl, rfl, by rw [ht]; exact hP, va_K.moved hW.alike hK, hD⟩, hS.F ht⟩) hS.2.2 d_FaxLine_hasEnded_16 hlocks
-- FaxLine_place
abbrev RM_FaxLine_place : Room := { frames := 0, cells := 0, slots := 0, locals := 0 }
def ws_FaxLine_place : List Cond := .code y_FaxLine_place b_FaxLine_place 1 (some .int) :: W_all
def wd_FaxLine_place (cI cZ cJ : ClassId) (tq : Nat → Nat) (h0 : Nat) (f_width : Int32) (f_above : Int32) (f_place : Int32) (f_black : Int32) : va_W := [(h0, .inr (1, [.int f_width, .int f_above, .int f_place, .int f_black]))]
def F_FaxLine_place (f_place : Int32) : Option (Int32) :=
  (some f_place)
set_option maxHeartbeats 4000000 in
set_option maxRecDepth 100000 in
theorem c_FaxLine_place (l : Launch) (D : va_G) (cI cZ cJ : ClassId) (tq : Nat → Nat) (h0 : Nat) (sz : Nat) (f_width : Int32) (f_above : Int32) (f_place : Int32) (f_black : Int32) (o_r : Int32) (hf : F_FaxLine_place f_place = some o_r) : Met l y_FaxLine_place ws_FaxLine_place RM_FaxLine_place (va_Pc [.ref h0] (Pg D cI cZ cJ tq (wd_FaxLine_place cI cZ cJ tq h0 f_width f_above f_place f_black) sz)) (qI D cI cZ cJ (va_A (wd_FaxLine_place cI cZ cJ tq h0 f_width f_above f_place f_black) sz) o_r (wd_FaxLine_place cI cZ cJ tq h0 f_width f_above f_place f_black)) 0 0 (va_A (wd_FaxLine_place cI cZ cJ tq h0 f_width f_above f_place f_black) sz) := by
  refine Met.ofW (cc := b_FaxLine_place) (maxL := 1) (ret := (some .int)) (by decide) rfl ?_
  intro p e s m args below meth c s₁ B hml hv
  obtain ⟨rfl, hsz, hP, hK, hD0, hG⟩ := hv
  have hx := B.exec
  have hb := B.bytes
  have hr := B.returns
  have htw : ∀ w ∈ W_all, w.before [.ref h0].toArray s = true := fun w h => atoms_spec (ws := ws_FaxLine_place) B.pre w (List.mem_cons_of_mem _ h)
  have hown : s.vm.findClass R_FaxLine = some m.cls := findClass_of_methodNamed B.named
  have hlocks := B.notSynchronized
  subst hsz
  have hD := hD0.self (sz := s.heap.size)
  generalize hAe : va_A (wd_FaxLine_place cI cZ cJ tq h0 f_width f_above f_place f_black) s.heap.size = A at hD hG ⊢
  have hA : ∀ q : Nat, s.heap.size ≤ q → A q := fun q h => by rw [← hAe]; exact Or.inr h
  have hS : va_S A s.heap s.heap [] := va_S.rf
  have C0 : cx p s m meth c [.ref h0].toArray b_FaxLine_place (some .int) 1 R_FaxLine D cI cZ cJ tq A := ⟨hx, hb, hr, hml, hown, htw, hlocks, hK, hG⟩
  have hl := lv_entry ([.ref h0]) (n := 1) (Nat.le_of_ble_eq_true rfl)
  rw [lg_entry_eq]
  generalize (lg_sl ([.ref h0]) ++ List.replicate (1 - (lg_sl ([.ref h0])).length) Slot.unset).toArray = ls at hl ⊢
  have hl : lv_has ls 1 [(0, .ref h0)] := hl
  have hP : va_P D classes (wd_FaxLine_place cI cZ cJ tq h0 f_width f_above f_place f_black) s.heap := hP
  clear hAe
  unfold F_FaxLine_place at hf
  refine lv_aload_n hx hb d_FaxLine_place_0 rfl (lv_at hl 0 rfl) ?_
  refine va_get (D := D) (ci := 1) (v := .int f_place) (C := R_FaxLine) (T := F_FaxLine) (N := 4) hx hb htw i_FaxLine hown hK hP 0 rfl rfl 2 (by decide) (htw _ in5) (fun _ h9 => h9) rfl d_FaxLine_place_1 ?_
  have e0 := Option.some.inj hf
  subst e0
  exact W.iret (v := f_place) hx hb hr (fun t ht hW => ⟨⟨_, (), rfl, rfl, by rw [ht]; exact hP, va_K.moved hW.alike hK, hD⟩, hS.F ht⟩) hS.2.2 d_FaxLine_place_4 hlocks
-- FaxLine_black
abbrev RM_FaxLine_black : Room := { frames := 0, cells := 0, slots := 0, locals := 0 }
def ws_FaxLine_black : List Cond := .code y_FaxLine_black b_FaxLine_black 1 (some .boolean) :: W_all
def wd_FaxLine_black (cI cZ cJ : ClassId) (tq : Nat → Nat) (h0 : Nat) (f_width : Int32) (f_above : Int32) (f_place : Int32) (f_black : Int32) : va_W := [(h0, .inr (1, [.int f_width, .int f_above, .int f_place, .int f_black]))]
def F_FaxLine_black (f_black : Int32) : Option (Int32) :=
  (if ¬ (f_black = 0 ∨ f_black = 1) then none else (some f_black))
set_option maxHeartbeats 4000000 in
set_option maxRecDepth 100000 in
theorem c_FaxLine_black (l : Launch) (D : va_G) (cI cZ cJ : ClassId) (tq : Nat → Nat) (h0 : Nat) (sz : Nat) (f_width : Int32) (f_above : Int32) (f_place : Int32) (f_black : Int32) (o_r : Int32) (hf : F_FaxLine_black f_black = some o_r) : Met l y_FaxLine_black ws_FaxLine_black RM_FaxLine_black (va_Pc [.ref h0] (Pg D cI cZ cJ tq (wd_FaxLine_black cI cZ cJ tq h0 f_width f_above f_place f_black) sz)) (qI D cI cZ cJ (va_A (wd_FaxLine_black cI cZ cJ tq h0 f_width f_above f_place f_black) sz) o_r (wd_FaxLine_black cI cZ cJ tq h0 f_width f_above f_place f_black)) 0 0 (va_A (wd_FaxLine_black cI cZ cJ tq h0 f_width f_above f_place f_black) sz) := by
  refine Met.ofW (cc := b_FaxLine_black) (maxL := 1) (ret := (some .boolean)) (by decide) rfl ?_
  intro p e s m args below meth c s₁ B hml hv
  obtain ⟨rfl, hsz, hP, hK, hD0, hG⟩ := hv
  have hx := B.exec
  have hb := B.bytes
  have hr := B.returns
  have htw : ∀ w ∈ W_all, w.before [.ref h0].toArray s = true := fun w h => atoms_spec (ws := ws_FaxLine_black) B.pre w (List.mem_cons_of_mem _ h)
  have hown : s.vm.findClass R_FaxLine = some m.cls := findClass_of_methodNamed B.named
  have hlocks := B.notSynchronized
  subst hsz
  have hD := hD0.self (sz := s.heap.size)
  generalize hAe : va_A (wd_FaxLine_black cI cZ cJ tq h0 f_width f_above f_place f_black) s.heap.size = A at hD hG ⊢
  have hA : ∀ q : Nat, s.heap.size ≤ q → A q := fun q h => by rw [← hAe]; exact Or.inr h
  have hS : va_S A s.heap s.heap [] := va_S.rf
  have C0 : cx p s m meth c [.ref h0].toArray b_FaxLine_black (some .boolean) 1 R_FaxLine D cI cZ cJ tq A := ⟨hx, hb, hr, hml, hown, htw, hlocks, hK, hG⟩
  have hl := lv_entry ([.ref h0]) (n := 1) (Nat.le_of_ble_eq_true rfl)
  rw [lg_entry_eq]
  generalize (lg_sl ([.ref h0]) ++ List.replicate (1 - (lg_sl ([.ref h0])).length) Slot.unset).toArray = ls at hl ⊢
  have hl : lv_has ls 1 [(0, .ref h0)] := hl
  have hP : va_P D classes (wd_FaxLine_black cI cZ cJ tq h0 f_width f_above f_place f_black) s.heap := hP
  clear hAe
  unfold F_FaxLine_black at hf
  refine lv_aload_n hx hb d_FaxLine_black_0 rfl (lv_at hl 0 rfl) ?_
  refine va_get (D := D) (ci := 1) (v := .int f_black) (C := R_FaxLine) (T := F_FaxLine) (N := 4) hx hb htw i_FaxLine hown hK hP 0 rfl rfl 3 (by decide) (htw _ in6) (fun _ h9 => h9) rfl d_FaxLine_black_1 ?_
  by_cases g4 : ¬ (f_black = 0 ∨ f_black = 1)
  · exact no_some (it_t hf g4)
  have hf := it_f hf g4
  have e0 := Option.some.inj hf
  subst e0
  exact W.zret (v := f_black) hx hb hr (bz_nar g4) (fun t ht hW => ⟨⟨_, (), rfl, rfl, by rw [ht]; exact hP, va_K.moved hW.alike hK, hD⟩, hS.F ht⟩) hS.2.2 d_FaxLine_black_4 hlocks
-- FaxLine_goTo
abbrev RM_FaxLine_goTo : Room := { frames := 0, cells := 0, slots := 0, locals := 0 }
def ws_FaxLine_goTo : List Cond := .code y_FaxLine_goTo b_FaxLine_goTo 2 none :: W_all
def wd_FaxLine_goTo (cI cZ cJ : ClassId) (tq : Nat → Nat) (h0 : Nat) (f_width : Int32) (f_above : Int32) (f_place : Int32) (f_black : Int32) : va_W := [(h0, .inr (1, [.int f_width, .int f_above, .int f_place, .int f_black]))]
def F_FaxLine_goTo (x1 : Int32) (f_place : Int32) : Option (Int32) :=
  (some x1)
set_option maxHeartbeats 4000000 in
set_option maxRecDepth 100000 in
theorem c_FaxLine_goTo (l : Launch) (D : va_G) (cI cZ cJ : ClassId) (tq : Nat → Nat) (h0 : Nat) (sz : Nat) (f_width : Int32) (f_above : Int32) (f_place : Int32) (f_black : Int32) (x1 : Int32) (o_f_place : Int32) (hf : F_FaxLine_goTo x1 f_place = some o_f_place) : Met l y_FaxLine_goTo ws_FaxLine_goTo RM_FaxLine_goTo (va_Pc [.ref h0, .int x1] (Pg D cI cZ cJ tq (wd_FaxLine_goTo cI cZ cJ tq h0 f_width f_above f_place f_black) sz)) (qV D cI cZ cJ (va_A (wd_FaxLine_goTo cI cZ cJ tq h0 f_width f_above f_place f_black) sz) (wd_FaxLine_goTo cI cZ cJ tq h0 f_width f_above o_f_place f_black)) 0 0 (va_A (wd_FaxLine_goTo cI cZ cJ tq h0 f_width f_above f_place f_black) sz) := by
  refine Met.ofW (cc := b_FaxLine_goTo) (maxL := 2) (ret := none) (by decide) rfl ?_
  intro p e s m args below meth c s₁ B hml hv
  obtain ⟨rfl, hsz, hP, hK, hD0, hG⟩ := hv
  have hx := B.exec
  have hb := B.bytes
  have hr := B.returns
  have htw : ∀ w ∈ W_all, w.before [.ref h0, .int x1].toArray s = true := fun w h => atoms_spec (ws := ws_FaxLine_goTo) B.pre w (List.mem_cons_of_mem _ h)
  have hown : s.vm.findClass R_FaxLine = some m.cls := findClass_of_methodNamed B.named
  have hlocks := B.notSynchronized
  subst hsz
  have hD := hD0.self (sz := s.heap.size)
  generalize hAe : va_A (wd_FaxLine_goTo cI cZ cJ tq h0 f_width f_above f_place f_black) s.heap.size = A at hD hG ⊢
  have hA : ∀ q : Nat, s.heap.size ≤ q → A q := fun q h => by rw [← hAe]; exact Or.inr h
  have hS : va_S A s.heap s.heap [] := va_S.rf
  have C0 : cx p s m meth c [.ref h0, .int x1].toArray b_FaxLine_goTo none 2 R_FaxLine D cI cZ cJ tq A := ⟨hx, hb, hr, hml, hown, htw, hlocks, hK, hG⟩
  have hl := lv_entry ([.ref h0, .int x1]) (n := 2) (Nat.le_of_ble_eq_true rfl)
  rw [lg_entry_eq]
  generalize (lg_sl ([.ref h0, .int x1]) ++ List.replicate (2 - (lg_sl ([.ref h0, .int x1])).length) Slot.unset).toArray = ls at hl ⊢
  have hl : lv_has ls 2 [(0, .ref h0), (1, .int x1)] := hl
  have hP : va_P D classes (wd_FaxLine_goTo cI cZ cJ tq h0 f_width f_above f_place f_black) s.heap := hP
  clear hAe
  unfold F_FaxLine_goTo at hf
  refine lv_aload_n hx hb d_FaxLine_goTo_0 rfl (lv_at hl 0 rfl) ?_
  refine lv_iload_n hx hb d_FaxLine_goTo_1 rfl (lv_at hl 1 rfl) ?_
  refine va_put (D := D) (ci := 1) (v := .int x1) (ty := .int) (C := R_FaxLine) (T := F_FaxLine) (N := 4) hx hb htw i_FaxLine t_FaxLine t_FaxLine_ok n_FaxLine hown hK hP hD hS 0 rfl rfl 2 (by decide) (htw _ in5) (fun _ h9 => h9) rfl (by decide +kernel) rfl rfl (Nat.le_of_ble_eq_true rfl) d_FaxLine_goTo_2 (fun H locs hP hD hS => ?_)
  have hP : va_P D classes (wd_FaxLine_goTo cI cZ cJ tq h0 f_width f_above x1 f_black) H := hP
  have hD : va_D A (wd_FaxLine_goTo cI cZ cJ tq h0 f_width f_above x1 f_black) := hD
  have e0 := Option.some.inj hf
  subst e0
  exact W.vret hx hb hr (fun t ht hW => ⟨⟨(), rfl, trivial, by rw [ht]; exact hP, va_K.moved hW.alike hK, hD⟩, hS.F ht⟩) hS.2.2 d_FaxLine_goTo_5 hlocks
-- FaxLine_turnAt
abbrev RM_FaxLine_turnAt : Room := { frames := 0, cells := 0, slots := 0, locals := 0 }
def ws_FaxLine_turnAt : List Cond := .code y_FaxLine_turnAt b_FaxLine_turnAt 2 none :: W_all
def wd_FaxLine_turnAt (cI cZ cJ : ClassId) (tq : Nat → Nat) (h0 : Nat) (f_width : Int32) (f_above : Int32) (f_place : Int32) (f_black : Int32) : va_W := [(h0, .inr (1, [.int f_width, .int f_above, .int f_place, .int f_black]))]
def F_FaxLine_turnAt (x1 : Int32) (f_place : Int32) (f_black : Int32) : Option (Int32 × Int32) :=
  (if f_black = 0 then (some (x1, 1)) else (some (x1, 0)))
set_option maxHeartbeats 4000000 in
set_option maxRecDepth 100000 in
theorem c_FaxLine_turnAt (l : Launch) (D : va_G) (cI cZ cJ : ClassId) (tq : Nat → Nat) (h0 : Nat) (sz : Nat) (f_width : Int32) (f_above : Int32) (f_place : Int32) (f_black : Int32) (x1 : Int32) (o_f_place : Int32) (o_f_black : Int32) (hf : F_FaxLine_turnAt x1 f_place f_black = some (o_f_place, o_f_black)) : Met l y_FaxLine_turnAt ws_FaxLine_turnAt RM_FaxLine_turnAt (va_Pc [.ref h0, .int x1] (Pg D cI cZ cJ tq (wd_FaxLine_turnAt cI cZ cJ tq h0 f_width f_above f_place f_black) sz)) (qV D cI cZ cJ (va_A (wd_FaxLine_turnAt cI cZ cJ tq h0 f_width f_above f_place f_black) sz) (wd_FaxLine_turnAt cI cZ cJ tq h0 f_width f_above o_f_place o_f_black)) 0 0 (va_A (wd_FaxLine_turnAt cI cZ cJ tq h0 f_width f_above f_place f_black) sz) := by
  refine Met.ofW (cc := b_FaxLine_turnAt) (maxL := 2) (ret := none) (by decide) rfl ?_
  intro p e s m args below meth c s₁ B hml hv
  obtain ⟨rfl, hsz, hP, hK, hD0, hG⟩ := hv
  have hx := B.exec
  have hb := B.bytes
  have hr := B.returns
  have htw : ∀ w ∈ W_all, w.before [.ref h0, .int x1].toArray s = true := fun w h => atoms_spec (ws := ws_FaxLine_turnAt) B.pre w (List.mem_cons_of_mem _ h)
  have hown : s.vm.findClass R_FaxLine = some m.cls := findClass_of_methodNamed B.named
  have hlocks := B.notSynchronized
  subst hsz
  have hD := hD0.self (sz := s.heap.size)
  generalize hAe : va_A (wd_FaxLine_turnAt cI cZ cJ tq h0 f_width f_above f_place f_black) s.heap.size = A at hD hG ⊢
  have hA : ∀ q : Nat, s.heap.size ≤ q → A q := fun q h => by rw [← hAe]; exact Or.inr h
  have hS : va_S A s.heap s.heap [] := va_S.rf
  have C0 : cx p s m meth c [.ref h0, .int x1].toArray b_FaxLine_turnAt none 2 R_FaxLine D cI cZ cJ tq A := ⟨hx, hb, hr, hml, hown, htw, hlocks, hK, hG⟩
  have hl := lv_entry ([.ref h0, .int x1]) (n := 2) (Nat.le_of_ble_eq_true rfl)
  rw [lg_entry_eq]
  generalize (lg_sl ([.ref h0, .int x1]) ++ List.replicate (2 - (lg_sl ([.ref h0, .int x1])).length) Slot.unset).toArray = ls at hl ⊢
  have hl : lv_has ls 2 [(0, .ref h0), (1, .int x1)] := hl
  have hP : va_P D classes (wd_FaxLine_turnAt cI cZ cJ tq h0 f_width f_above f_place f_black) s.heap := hP
  clear hAe
  unfold F_FaxLine_turnAt at hf
  refine lv_aload_n hx hb d_FaxLine_turnAt_0 rfl (lv_at hl 0 rfl) ?_
  refine lv_iload_n hx hb d_FaxLine_turnAt_1 rfl (lv_at hl 1 rfl) ?_
  refine va_put (D := D) (ci := 1) (v := .int x1) (ty := .int) (C := R_FaxLine) (T := F_FaxLine) (N := 4) hx hb htw i_FaxLine t_FaxLine t_FaxLine_ok n_FaxLine hown hK hP hD hS 0 rfl rfl 2 (by decide) (htw _ in5) (fun _ h9 => h9) rfl (by decide +kernel) rfl rfl (Nat.le_of_ble_eq_true rfl) d_FaxLine_turnAt_2 (fun H locs hP hD hS => ?_)
  have hP : va_P D classes (wd_FaxLine_turnAt cI cZ cJ tq h0 f_width f_above x1 f_black) H := hP
  have hD : va_D A (wd_FaxLine_turnAt cI cZ cJ tq h0 f_width f_above x1 f_black) := hD
  refine lv_aload_n hx hb d_FaxLine_turnAt_5 rfl (lv_at hl 0 rfl) ?_
  refine lv_aload_n hx hb d_FaxLine_turnAt_6 rfl (lv_at hl 0 rfl) ?_
  refine va_get (D := D) (ci := 1) (v := .int f_black) (C := R_FaxLine) (T := F_FaxLine) (N := 4) hx hb htw i_FaxLine hown hK hP 0 rfl rfl 3 (by decide) (htw _ in6) (fun _ h9 => h9) rfl d_FaxLine_turnAt_7 ?_
  refine lv_if_ne (tgt := 17) hx hb d_FaxLine_turnAt_10 (by decide) (fun c10 => ?_) (fun c10 => ?_)
  · have hf := it_f hf c10
    refine lv_iconst (v := 0) hx hb d_FaxLine_turnAt_17 (by decide) ?_
    refine va_put (D := D) (ci := 1) (v := .int 0) (ty := .boolean) (C := R_FaxLine) (T := F_FaxLine) (N := 4) hx hb htw i_FaxLine t_FaxLine t_FaxLine_ok n_FaxLine hown hK hP hD hS 0 rfl rfl 3 (by decide) (htw _ in6) (fun _ h9 => h9) rfl (by decide +kernel) rfl rfl (Nat.le_of_ble_eq_true rfl) d_FaxLine_turnAt_18 (fun H locs hP hD hS => ?_)
    have hP : va_P D classes (wd_FaxLine_turnAt cI cZ cJ tq h0 f_width f_above x1 0) H := hP
    have hD : va_D A (wd_FaxLine_turnAt cI cZ cJ tq h0 f_width f_above x1 0) := hD
    obtain ⟨e0, e1⟩ := so2 hf
    subst e0; subst e1
    exact W.vret hx hb hr (fun t ht hW => ⟨⟨(), rfl, trivial, by rw [ht]; exact hP, va_K.moved hW.alike hK, hD⟩, hS.F ht⟩) hS.2.2 d_FaxLine_turnAt_21 hlocks
  · have hf := it_t hf c10
    refine lv_iconst (v := 1) hx hb d_FaxLine_turnAt_13 (by decide) ?_
    refine lv_goto (tgt := 18) hx hb d_FaxLine_turnAt_14 (by decide) ?_
    refine va_put (D := D) (ci := 1) (v := .int 1) (ty := .boolean) (C := R_FaxLine) (T := F_FaxLine) (N := 4) hx hb htw i_FaxLine t_FaxLine t_FaxLine_ok n_FaxLine hown hK hP hD hS 0 rfl rfl 3 (by decide) (htw _ in6) (fun _ h9 => h9) rfl (by decide +kernel) rfl rfl (Nat.le_of_ble_eq_true rfl) d_FaxLine_turnAt_18 (fun H locs hP hD hS => ?_)
    have hP : va_P D classes (wd_FaxLine_turnAt cI cZ cJ tq h0 f_width f_above x1 1) H := hP
    have hD : va_D A (wd_FaxLine_turnAt cI cZ cJ tq h0 f_width f_above x1 1) := hD
    obtain ⟨e0, e1⟩ := so2 hf
    subst e0; subst e1
    exact W.vret hx hb hr (fun t ht hW => ⟨⟨(), rfl, trivial, by rw [ht]; exact hP, va_K.moved hW.alike hK, hD⟩, hS.F ht⟩) hS.2.2 d_FaxLine_turnAt_21 hlocks
-- FaxLine_isBlack
abbrev RM_FaxLine_isBlack : Room := { frames := 0, cells := 0, slots := 0, locals := 0 }
def ws_FaxLine_isBlack : List Cond := .code y_FaxLine_isBlack b_FaxLine_isBlack 2 (some .boolean) :: W_all
def wd_FaxLine_isBlack (cI cZ cJ : ClassId) (tq : Nat → Nat)  : va_W := []
def F_FaxLine_isBlack (x0 : Int32) (x1 : Int32) : Option (Int32) :=
  (if x1 < 0 then (some 0) else (if ((ushr x0 x1) &&& (1 : Int32)) = 0 then (some 0) else (some 1)))
set_option maxHeartbeats 4000000 in
set_option maxRecDepth 100000 in
theorem c_FaxLine_isBlack (l : Launch) (D : va_G) (cI cZ cJ : ClassId) (tq : Nat → Nat) (sz : Nat) (x0 : Int32) (x1 : Int32) (o_r : Int32) (hf : F_FaxLine_isBlack x0 x1 = some o_r) : Met l y_FaxLine_isBlack ws_FaxLine_isBlack RM_FaxLine_isBlack (va_Pc [.int x0, .int x1] (Pg D cI cZ cJ tq (wd_FaxLine_isBlack cI cZ cJ tq) sz)) (qI D cI cZ cJ (va_A (wd_FaxLine_isBlack cI cZ cJ tq) sz) o_r (wd_FaxLine_isBlack cI cZ cJ tq)) 0 0 (va_A (wd_FaxLine_isBlack cI cZ cJ tq) sz) := by
  refine Met.ofW (cc := b_FaxLine_isBlack) (maxL := 2) (ret := (some .boolean)) (by decide) rfl ?_
  intro p e s m args below meth c s₁ B hml hv
  obtain ⟨rfl, hsz, hP, hK, hD0, hG⟩ := hv
  have hx := B.exec
  have hb := B.bytes
  have hr := B.returns
  have htw : ∀ w ∈ W_all, w.before [.int x0, .int x1].toArray s = true := fun w h => atoms_spec (ws := ws_FaxLine_isBlack) B.pre w (List.mem_cons_of_mem _ h)
  have hown : s.vm.findClass R_FaxLine = some m.cls := findClass_of_methodNamed B.named
  have hlocks := B.notSynchronized
  subst hsz
  have hD := hD0.self (sz := s.heap.size)
  generalize hAe : va_A (wd_FaxLine_isBlack cI cZ cJ tq) s.heap.size = A at hD hG ⊢
  have hA : ∀ q : Nat, s.heap.size ≤ q → A q := fun q h => by rw [← hAe]; exact Or.inr h
  have hS : va_S A s.heap s.heap [] := va_S.rf
  have C0 : cx p s m meth c [.int x0, .int x1].toArray b_FaxLine_isBlack (some .boolean) 2 R_FaxLine D cI cZ cJ tq A := ⟨hx, hb, hr, hml, hown, htw, hlocks, hK, hG⟩
  have hl := lv_entry ([.int x0, .int x1]) (n := 2) (Nat.le_of_ble_eq_true rfl)
  rw [lg_entry_eq]
  generalize (lg_sl ([.int x0, .int x1]) ++ List.replicate (2 - (lg_sl ([.int x0, .int x1])).length) Slot.unset).toArray = ls at hl ⊢
  have hl : lv_has ls 2 [(0, .int x0), (1, .int x1)] := hl
  have hP : va_P D classes (wd_FaxLine_isBlack cI cZ cJ tq) s.heap := hP
  clear hAe
  unfold F_FaxLine_isBlack at hf
  refine lv_iload_n hx hb d_FaxLine_isBlack_0 rfl (lv_at hl 1 rfl) ?_
  refine lv_if_lt (tgt := 16) hx hb d_FaxLine_isBlack_1 (by decide) (fun c1 => ?_) (fun c1 => ?_)
  · have hf := it_t hf c1
    refine lv_iconst (v := 0) hx hb d_FaxLine_isBlack_16 (by decide) ?_
    have e0 := Option.some.inj hf
    subst e0
    exact W.zret (v := 0) hx hb hr rfl (fun t ht hW => ⟨⟨_, (), rfl, rfl, by rw [ht]; exact hP, va_K.moved hW.alike hK, hD⟩, hS.F ht⟩) hS.2.2 d_FaxLine_isBlack_17 hlocks
  · have hf := it_f hf c1
    refine lv_iload_n hx hb d_FaxLine_isBlack_4 rfl (lv_at hl 0 rfl) ?_
    refine lv_iload_n hx hb d_FaxLine_isBlack_5 rfl (lv_at hl 1 rfl) ?_
    refine lv_iushr (v := (ushr x0 x1)) hx hb d_FaxLine_isBlack_6 rfl ?_
    refine lv_iconst (v := 1) hx hb d_FaxLine_isBlack_7 (by decide) ?_
    refine lv_iand hx hb d_FaxLine_isBlack_8 ?_
    refine lv_if_eq (tgt := 16) hx hb d_FaxLine_isBlack_9 (by decide) (fun c9 => ?_) (fun c9 => ?_)
    · have hf := it_t hf c9
      refine lv_iconst (v := 0) hx hb d_FaxLine_isBlack_16 (by decide) ?_
      have e0 := Option.some.inj hf
      subst e0
      exact W.zret (v := 0) hx hb hr rfl (fun t ht hW => ⟨⟨_, (), rfl, rfl, by rw [ht]; exact hP, va_K.moved hW.alike hK, hD⟩, hS.F ht⟩) hS.2.2 d_FaxLine_isBlack_17 hlocks
    · have hf := it_f hf c9
      refine lv_iconst (v := 1) hx hb d_FaxLine_isBlack_12 (by decide) ?_
      refine lv_goto (tgt := 17) hx hb d_FaxLine_isBlack_13 (by decide) ?_
      have e0 := Option.some.inj hf
      subst e0
      exact W.zret (v := 1) hx hb hr rfl (fun t ht hW => ⟨⟨_, (), rfl, rfl, by rw [ht]; exact hP, va_K.moved hW.alike hK, hD⟩, hS.F ht⟩) hS.2.2 d_FaxLine_isBlack_17 hlocks
-- FaxLine_firstRightOf
abbrev RM_FaxLine_firstRightOf : Room := { frames := 1, cells := 0, slots := 0, locals := 21 }
def ws_FaxLine_firstRightOf : List Cond := .code y_FaxLine_firstRightOf b_FaxLine_firstRightOf 5 (some .int) :: W_all
def wd_FaxLine_firstRightOf (cI cZ cJ : ClassId) (tq : Nat → Nat) (h0 : Nat) (f_width : Int32) (f_above : Int32) (f_place : Int32) (f_black : Int32) : va_W := [(h0, .inr (1, [.int f_width, .int f_above, .int f_place, .int f_black]))]
def F_FaxLine_firstRightOf_5 (k : Nat) (f_width : Int32) : Nat → Int32 → Int32 → Int32 → Option (Int32)
  | 0, _, _, _ => none
  | n + 1, x2, x3, x4 =>
    (if f_width ≤ x4 then (some f_width) else (bd1 (F_FaxLine_isBlack x2 x4) (fun r17 => (if r17 = x3 then (some x4) else (F_FaxLine_firstRightOf_5 k f_width n x2 x3 (x4 + 1))))))
def F_FaxLine_firstRightOf (k : Nat) (x1 : Int32) (x2 : Int32) (x3 : Int32) (f_width : Int32) : Option (Int32) :=
  (F_FaxLine_firstRightOf_5 k f_width k x2 x3 (x1 + (1 : Int32)))
set_option maxHeartbeats 4000000 in
set_option maxRecDepth 100000 in
theorem w_FaxLine_firstRightOf_5 {p : Program} {l : Launch} {e : Env} {s : State} {m : MethodId} {args : Array Value} {below : List Frame} {meth : Method} {c : Code} {D : va_G} {cI cZ cJ : ClassId} {tq : Nat → Nat} {A : Nat → Prop} (k : Nat) (h0 : Nat) (f_width : Int32) (f_above : Int32) (f_place : Int32) (f_black : Int32) (o_r : Int32) (C0 : cx p s m meth c args b_FaxLine_firstRightOf (some .int) 5 R_FaxLine D cI cZ cJ tq A) (hA : ∀ q : Nat, s.heap.size ≤ q → A q) : ∀ n : Nat, ∀ (x2 : Int32) (x3 : Int32) (x4 : Int32) (H : Heap) (locs : List Loc) (ls : Array Slot), va_P D classes (wd_FaxLine_firstRightOf cI cZ cJ tq h0 f_width f_above f_place f_black) H → va_D A (wd_FaxLine_firstRightOf cI cZ cJ tq h0 f_width f_above f_place f_black) → va_S A s.heap H locs → lv_has ls 5 [(0, .ref h0), (2, .int x2), (3, .int x3), (4, .int x4)] → F_FaxLine_firstRightOf_5 k f_width n x2 x3 x4 = some o_r → W p l e RM_FaxLine_firstRightOf s m args below meth c H locs 0 0 (MQ below (qI D cI cZ cJ A o_r (wd_FaxLine_firstRightOf cI cZ cJ tq h0 f_width f_above f_place f_black)) args s 0 0 A) (F0 m 5 ls []) := by
  obtain ⟨hx, hb, hr, hml, hown, htw, hlocks, hK, hG⟩ := id C0
  intro n
  induction n with
  | zero =>
    intro x2 x3 x4 H locs ls hP hD hS hl hf
    exact no_some hf
  | succ n ih =>
    intro x2 x3 x4 H locs ls hP hD hS hl hf
    rw [F_FaxLine_firstRightOf_5] at hf
    refine lv_iload hx hb d_FaxLine_firstRightOf_5 (lv_at hl 3 rfl) ?_
    refine lv_aload_n hx hb d_FaxLine_firstRightOf_7 rfl (lv_at hl 0 rfl) ?_
    refine va_get (D := D) (ci := 1) (v := .int f_width) (C := R_FaxLine) (T := F_FaxLine) (N := 4) hx hb htw i_FaxLine hown hK hP 0 rfl rfl 0 (by decide) (htw _ in3) (fun _ h9 => h9) rfl d_FaxLine_firstRightOf_8 ?_
    refine lv_icmp_ge (tgt := 33) hx hb d_FaxLine_firstRightOf_11 (by decide) (fun c11 => ?_) (fun c11 => ?_)
    · have hf := it_t hf c11
      refine lv_aload_n hx hb d_FaxLine_firstRightOf_33 rfl (lv_at hl 0 rfl) ?_
      refine va_get (D := D) (ci := 1) (v := .int f_width) (C := R_FaxLine) (T := F_FaxLine) (N := 4) hx hb htw i_FaxLine hown hK hP 0 rfl rfl 0 (by decide) (htw _ in3) (fun _ h9 => h9) rfl d_FaxLine_firstRightOf_34 ?_
      have e0 := Option.some.inj hf
      subst e0
      exact W.iret (v := f_width) hx hb hr (fun t ht hW => ⟨⟨_, (), rfl, rfl, by rw [ht]; exact hP, va_K.moved hW.alike hK, hD⟩, hS.F ht⟩) hS.2.2 d_FaxLine_firstRightOf_37 hlocks
    · have hf := it_f hf c11
      refine lv_iload_n hx hb d_FaxLine_firstRightOf_14 rfl (lv_at hl 1 rfl) ?_
      refine lv_iload hx hb d_FaxLine_firstRightOf_15 (lv_at hl 3 rfl) ?_
      obtain ⟨r17, e17, hf⟩ := bd1_some hf
      refine g_calli (wc := (wd_FaxLine_isBlack cI cZ cJ tq )) (w1 := (wd_FaxLine_isBlack cI cZ cJ tq)) (ws' := (wd_FaxLine_firstRightOf cI cZ cJ tq h0 f_width f_above f_place f_black)) (va_runS (As := [.int x2, .int x4]) (rest := []) ⟨hx, hb, hml, hown, htw⟩ (c_FaxLine_isBlack l D cI cZ cJ tq _  x2 x4 r17 e17) (va_cwS 2 htw (gd_S in8 in9 in10 in7) rfl rfl rfl (by decide +kernel) ⟨Nat.le_of_ble_eq_true rfl, Nat.le_of_ble_eq_true rfl⟩) (preS_of hG hS (va_free (wc := (wd_FaxLine_isBlack cI cZ cJ tq )) hD hS hA [] rfl) hK (hP.sub (ws' := (wd_FaxLine_isBlack cI cZ cJ tq )) [] rfl) (hD.sub (ws' := (wd_FaxLine_isBlack cI cZ cJ tq )) [] (by decide) rfl)) rfl rfl hl.1 rfl (lv_room (Nat.le_of_ble_eq_true rfl)) d_FaxLine_firstRightOf_17 ⟨Nat.le_of_ble_eq_true rfl, Nat.le_of_ble_eq_true rfl⟩) hP hD hS hA [] [0] [0] rfl rfl (by decide) (by decide) (by decide) rfl (fun H locs hP hD hS => ?_)
      refine lv_iload_n hx hb d_FaxLine_firstRightOf_20 rfl (lv_at hl 2 rfl) ?_
      refine lv_icmp_ne (tgt := 27) hx hb d_FaxLine_firstRightOf_21 (by decide) (fun c21 => ?_) (fun c21 => ?_)
      · have hf := it_f hf c21
        refine lv_iinc (v := (x4 + 1)) (lv' := [(4, .int (x4 + 1)), (0, .ref h0), (2, .int x2), (3, .int x3)]) hx hb d_FaxLine_firstRightOf_27 hl (k := 3) rfl rfl (by decide) rfl (fun ls hl => ?_)
        refine lv_goto (tgt := 5) hx hb d_FaxLine_firstRightOf_30 (by decide) ?_
        exact ih x2 x3 (x4 + 1) _ _ ls hP hD hS (lv_sub hl [1, 2, 3, 0] rfl) hf
      · have hf := it_t hf c21
        refine lv_iload hx hb d_FaxLine_firstRightOf_24 (lv_at hl 3 rfl) ?_
        have e0 := Option.some.inj hf
        subst e0
        exact W.iret (v := x4) hx hb hr (fun t ht hW => ⟨⟨_, (), rfl, rfl, by rw [ht]; exact hP, va_K.moved hW.alike hK, hD⟩, hS.F ht⟩) hS.2.2 d_FaxLine_firstRightOf_26 hlocks
set_option maxHeartbeats 4000000 in
set_option maxRecDepth 100000 in
theorem c_FaxLine_firstRightOf (l : Launch) (D : va_G) (cI cZ cJ : ClassId) (tq : Nat → Nat) (k : Nat) (h0 : Nat) (sz : Nat) (f_width : Int32) (f_above : Int32) (f_place : Int32) (f_black : Int32) (x1 : Int32) (x2 : Int32) (x3 : Int32) (o_r : Int32) (hf : F_FaxLine_firstRightOf k x1 x2 x3 f_width = some o_r) : Met l y_FaxLine_firstRightOf ws_FaxLine_firstRightOf RM_FaxLine_firstRightOf (va_Pc [.ref h0, .int x1, .int x2, .int x3] (Pg D cI cZ cJ tq (wd_FaxLine_firstRightOf cI cZ cJ tq h0 f_width f_above f_place f_black) sz)) (qI D cI cZ cJ (va_A (wd_FaxLine_firstRightOf cI cZ cJ tq h0 f_width f_above f_place f_black) sz) o_r (wd_FaxLine_firstRightOf cI cZ cJ tq h0 f_width f_above f_place f_black)) 0 0 (va_A (wd_FaxLine_firstRightOf cI cZ cJ tq h0 f_width f_above f_place f_black) sz) := by
  refine Met.ofW (cc := b_FaxLine_firstRightOf) (maxL := 5) (ret := (some .int)) (by decide) rfl ?_
  intro p e s m args below meth c s₁ B hml hv
  obtain ⟨rfl, hsz, hP, hK, hD0, hG⟩ := hv
  have hx := B.exec
  have hb := B.bytes
  have hr := B.returns
  have htw : ∀ w ∈ W_all, w.before [.ref h0, .int x1, .int x2, .int x3].toArray s = true := fun w h => atoms_spec (ws := ws_FaxLine_firstRightOf) B.pre w (List.mem_cons_of_mem _ h)
  have hown : s.vm.findClass R_FaxLine = some m.cls := findClass_of_methodNamed B.named
  have hlocks := B.notSynchronized
  subst hsz
  have hD := hD0.self (sz := s.heap.size)
  generalize hAe : va_A (wd_FaxLine_firstRightOf cI cZ cJ tq h0 f_width f_above f_place f_black) s.heap.size = A at hD hG ⊢
  have hA : ∀ q : Nat, s.heap.size ≤ q → A q := fun q h => by rw [← hAe]; exact Or.inr h
  have hS : va_S A s.heap s.heap [] := va_S.rf
  have C0 : cx p s m meth c [.ref h0, .int x1, .int x2, .int x3].toArray b_FaxLine_firstRightOf (some .int) 5 R_FaxLine D cI cZ cJ tq A := ⟨hx, hb, hr, hml, hown, htw, hlocks, hK, hG⟩
  have hl := lv_entry ([.ref h0, .int x1, .int x2, .int x3]) (n := 5) (Nat.le_of_ble_eq_true rfl)
  rw [lg_entry_eq]
  generalize (lg_sl ([.ref h0, .int x1, .int x2, .int x3]) ++ List.replicate (5 - (lg_sl ([.ref h0, .int x1, .int x2, .int x3])).length) Slot.unset).toArray = ls at hl ⊢
  have hl : lv_has ls 5 [(0, .ref h0), (1, .int x1), (2, .int x2), (3, .int x3)] := hl
  have hP : va_P D classes (wd_FaxLine_firstRightOf cI cZ cJ tq h0 f_width f_above f_place f_black) s.heap := hP
  clear hAe
  unfold F_FaxLine_firstRightOf at hf
  refine lv_iload_n hx hb d_FaxLine_firstRightOf_0 rfl (lv_at hl 1 rfl) ?_
  refine lv_iconst (v := 1) hx hb d_FaxLine_firstRightOf_1 (by decide) ?_
  refine lv_iadd hx hb d_FaxLine_firstRightOf_2 ?_
  refine lv_istore (lv' := [(4, .int (x1 + (1 : Int32))), (0, .ref h0), (1, .int x1), (2, .int x2), (3, .int x3)]) hx hb d_FaxLine_firstRightOf_3 hl (by decide) rfl (fun ls hl => ?_)
  exact w_FaxLine_firstRightOf_5 k h0 f_width f_above f_place f_black o_r C0 hA k x2 x3 (x1 + (1 : Int32)) _ _ ls hP hD hS (lv_sub hl [1, 3, 4, 0] rfl) hf
-- FaxLine_b1
abbrev RM_FaxLine_b1 : Room := { frames := 1, cells := 0, slots := 0, locals := 21 }
def ws_FaxLine_b1 : List Cond := .code y_FaxLine_b1 b_FaxLine_b1 2 (some .int) :: W_all
def wd_FaxLine_b1 (cI cZ cJ : ClassId) (tq : Nat → Nat) (h0 : Nat) (f_width : Int32) (f_above : Int32) (f_place : Int32) (f_black : Int32) : va_W := [(h0, .inr (1, [.int f_width, .int f_above, .int f_place, .int f_black]))]
def F_FaxLine_b1_49 (k : Nat) (K7 : Int32 → Option (Int32)) (f_width : Int32) (f_above : Int32) (f_place : Int32) (f_black : Int32) (x1 : Int32) : Option (Int32) :=
  (K7 (x1 + 1))
def F_FaxLine_b1_7 (k : Nat) (f_width : Int32) (f_above : Int32) (f_place : Int32) (f_black : Int32) : Nat → Int32 → Option (Int32)
  | 0, _ => none
  | n + 1, x1 =>
    (if f_width ≤ x1 then (some f_width) else (bd1 (F_FaxLine_isBlack f_above x1) (fun r20 => (if r20 = f_black then (F_FaxLine_b1_49 k (F_FaxLine_b1_7 k f_width f_above f_place f_black n) f_width f_above f_place f_black x1) else (bd1 (F_FaxLine_isBlack f_above (x1 - (1 : Int32))) (fun r37 => (if r37 = f_black then (some x1) else (F_FaxLine_b1_49 k (F_FaxLine_b1_7 k f_width f_above f_place f_black n) f_width f_above f_place f_black x1))))))))
def F_FaxLine_b1 (k : Nat) (f_width : Int32) (f_above : Int32) (f_place : Int32) (f_black : Int32) : Option (Int32) :=
  (F_FaxLine_b1_7 k f_width f_above f_place f_black k (f_place + (1 : Int32)))
set_option maxHeartbeats 4000000 in
set_option maxRecDepth 100000 in
theorem w_FaxLine_b1_49 {p : Program} {l : Launch} {e : Env} {s : State} {m : MethodId} {args : Array Value} {below : List Frame} {meth : Method} {c : Code} {D : va_G} {cI cZ cJ : ClassId} {tq : Nat → Nat} {A : Nat → Prop} (k : Nat) (h0 : Nat) (f_width : Int32) (f_above : Int32) (f_place : Int32) (f_black : Int32) (o_r : Int32) (C0 : cx p s m meth c args b_FaxLine_b1 (some .int) 2 R_FaxLine D cI cZ cJ tq A) (hA : ∀ q : Nat, s.heap.size ≤ q → A q) (K7 : Int32 → Option (Int32)) (hK7 : ∀ (x1 : Int32) (H : Heap) (locs : List Loc) (ls : Array Slot), va_P D classes (wd_FaxLine_b1 cI cZ cJ tq h0 f_width f_above f_place f_black) H → va_D A (wd_FaxLine_b1 cI cZ cJ tq h0 f_width f_above f_place f_black) → va_S A s.heap H locs → lv_has ls 2 [(0, .ref h0), (1, .int x1)] → K7 x1 = some o_r → W p l e RM_FaxLine_b1 s m args below meth c H locs 0 0 (MQ below (qI D cI cZ cJ A o_r (wd_FaxLine_b1 cI cZ cJ tq h0 f_width f_above f_place f_black)) args s 0 0 A) (F0 m 7 ls [])) : ∀ (x1 : Int32) (H : Heap) (locs : List Loc) (ls : Array Slot), va_P D classes (wd_FaxLine_b1 cI cZ cJ tq h0 f_width f_above f_place f_black) H → va_D A (wd_FaxLine_b1 cI cZ cJ tq h0 f_width f_above f_place f_black) → va_S A s.heap H locs → lv_has ls 2 [(0, .ref h0), (1, .int x1)] → F_FaxLine_b1_49 k K7 f_width f_above f_place f_black x1 = some o_r → W p l e RM_FaxLine_b1 s m args below meth c H locs 0 0 (MQ below (qI D cI cZ cJ A o_r (wd_FaxLine_b1 cI cZ cJ tq h0 f_width f_above f_place f_black)) args s 0 0 A) (F0 m 49 ls []) := by
  obtain ⟨hx, hb, hr, hml, hown, htw, hlocks, hK, hG⟩ := id C0
  intro x1 H locs ls hP hD hS hl hf
  unfold F_FaxLine_b1_49 at hf
  refine lv_iinc (v := (x1 + 1)) (lv' := [(1, .int (x1 + 1)), (0, .ref h0)]) hx hb d_FaxLine_b1_49 hl (k := 1) rfl rfl (by decide) rfl (fun ls hl => ?_)
  refine lv_goto (tgt := 7) hx hb d_FaxLine_b1_52 (by decide) ?_
  exact hK7 (x1 + 1) _ _ ls hP hD hS (lv_sub hl [1, 0] rfl) hf
set_option maxHeartbeats 4000000 in
set_option maxRecDepth 100000 in
theorem w_FaxLine_b1_7 {p : Program} {l : Launch} {e : Env} {s : State} {m : MethodId} {args : Array Value} {below : List Frame} {meth : Method} {c : Code} {D : va_G} {cI cZ cJ : ClassId} {tq : Nat → Nat} {A : Nat → Prop} (k : Nat) (h0 : Nat) (f_width : Int32) (f_above : Int32) (f_place : Int32) (f_black : Int32) (o_r : Int32) (C0 : cx p s m meth c args b_FaxLine_b1 (some .int) 2 R_FaxLine D cI cZ cJ tq A) (hA : ∀ q : Nat, s.heap.size ≤ q → A q) : ∀ n : Nat, ∀ (x1 : Int32) (H : Heap) (locs : List Loc) (ls : Array Slot), va_P D classes (wd_FaxLine_b1 cI cZ cJ tq h0 f_width f_above f_place f_black) H → va_D A (wd_FaxLine_b1 cI cZ cJ tq h0 f_width f_above f_place f_black) → va_S A s.heap H locs → lv_has ls 2 [(0, .ref h0), (1, .int x1)] → F_FaxLine_b1_7 k f_width f_above f_place f_black n x1 = some o_r → W p l e RM_FaxLine_b1 s m args below meth c H locs 0 0 (MQ below (qI D cI cZ cJ A o_r (wd_FaxLine_b1 cI cZ cJ tq h0 f_width f_above f_place f_black)) args s 0 0 A) (F0 m 7 ls []) := by
  obtain ⟨hx, hb, hr, hml, hown, htw, hlocks, hK, hG⟩ := id C0
  intro n
  induction n with
  | zero =>
    intro x1 H locs ls hP hD hS hl hf
    exact no_some hf
  | succ n ih =>
    intro x1 H locs ls hP hD hS hl hf
    rw [F_FaxLine_b1_7] at hf
    refine lv_iload_n hx hb d_FaxLine_b1_7 rfl (lv_at hl 1 rfl) ?_
    refine lv_aload_n hx hb d_FaxLine_b1_8 rfl (lv_at hl 0 rfl) ?_
    refine va_get (D := D) (ci := 1) (v := .int f_width) (C := R_FaxLine) (T := F_FaxLine) (N := 4) hx hb htw i_FaxLine hown hK hP 0 rfl rfl 0 (by decide) (htw _ in3) (fun _ h9 => h9) rfl d_FaxLine_b1_9 ?_
    refine lv_icmp_ge (tgt := 55) hx hb d_FaxLine_b1_12 (by decide) (fun c12 => ?_) (fun c12 => ?_)
    · have hf := it_t hf c12
      refine lv_aload_n hx hb d_FaxLine_b1_55 rfl (lv_at hl 0 rfl) ?_
      refine va_get (D := D) (ci := 1) (v := .int f_width) (C := R_FaxLine) (T := F_FaxLine) (N := 4) hx hb htw i_FaxLine hown hK hP 0 rfl rfl 0 (by decide) (htw _ in3) (fun _ h9 => h9) rfl d_FaxLine_b1_56 ?_
      have e0 := Option.some.inj hf
      subst e0
      exact W.iret (v := f_width) hx hb hr (fun t ht hW => ⟨⟨_, (), rfl, rfl, by rw [ht]; exact hP, va_K.moved hW.alike hK, hD⟩, hS.F ht⟩) hS.2.2 d_FaxLine_b1_59 hlocks
    · have hf := it_f hf c12
      refine lv_aload_n hx hb d_FaxLine_b1_15 rfl (lv_at hl 0 rfl) ?_
      refine va_get (D := D) (ci := 1) (v := .int f_above) (C := R_FaxLine) (T := F_FaxLine) (N := 4) hx hb htw i_FaxLine hown hK hP 0 rfl rfl 1 (by decide) (htw _ in4) (fun _ h9 => h9) rfl d_FaxLine_b1_16 ?_
      refine lv_iload_n hx hb d_FaxLine_b1_19 rfl (lv_at hl 1 rfl) ?_
      obtain ⟨r20, e20, hf⟩ := bd1_some hf
      refine g_calli (wc := (wd_FaxLine_isBlack cI cZ cJ tq )) (w1 := (wd_FaxLine_isBlack cI cZ cJ tq)) (ws' := (wd_FaxLine_b1 cI cZ cJ tq h0 f_width f_above f_place f_black)) (va_runS (As := [.int f_above, .int x1]) (rest := []) ⟨hx, hb, hml, hown, htw⟩ (c_FaxLine_isBlack l D cI cZ cJ tq _  f_above x1 r20 e20) (va_cwS 2 htw (gd_S in8 in9 in10 in7) rfl rfl rfl (by decide +kernel) ⟨Nat.le_of_ble_eq_true rfl, Nat.le_of_ble_eq_true rfl⟩) (preS_of hG hS (va_free (wc := (wd_FaxLine_isBlack cI cZ cJ tq )) hD hS hA [] rfl) hK (hP.sub (ws' := (wd_FaxLine_isBlack cI cZ cJ tq )) [] rfl) (hD.sub (ws' := (wd_FaxLine_isBlack cI cZ cJ tq )) [] (by decide) rfl)) rfl rfl hl.1 rfl (lv_room (Nat.le_of_ble_eq_true rfl)) d_FaxLine_b1_20 ⟨Nat.le_of_ble_eq_true rfl, Nat.le_of_ble_eq_true rfl⟩) hP hD hS hA [] [0] [0] rfl rfl (by decide) (by decide) (by decide) rfl (fun H locs hP hD hS => ?_)
      refine lv_aload_n hx hb d_FaxLine_b1_23 rfl (lv_at hl 0 rfl) ?_
      refine va_get (D := D) (ci := 1) (v := .int f_black) (C := R_FaxLine) (T := F_FaxLine) (N := 4) hx hb htw i_FaxLine hown hK hP 0 rfl rfl 3 (by decide) (htw _ in6) (fun _ h9 => h9) rfl d_FaxLine_b1_24 ?_
      refine lv_icmp_eq (tgt := 49) hx hb d_FaxLine_b1_27 (by decide) (fun c27 => ?_) (fun c27 => ?_)
      · have hf := it_t hf c27
        exact w_FaxLine_b1_49 k h0 f_width f_above f_place f_black o_r C0 hA (F_FaxLine_b1_7 k f_width f_above f_place f_black n) ih x1 _ _ ls hP hD hS (lv_sub hl [0, 1] rfl) hf
      · have hf := it_f hf c27
        refine lv_aload_n hx hb d_FaxLine_b1_30 rfl (lv_at hl 0 rfl) ?_
        refine va_get (D := D) (ci := 1) (v := .int f_above) (C := R_FaxLine) (T := F_FaxLine) (N := 4) hx hb htw i_FaxLine hown hK hP 0 rfl rfl 1 (by decide) (htw _ in4) (fun _ h9 => h9) rfl d_FaxLine_b1_31 ?_
        refine lv_iload_n hx hb d_FaxLine_b1_34 rfl (lv_at hl 1 rfl) ?_
        refine lv_iconst (v := 1) hx hb d_FaxLine_b1_35 (by decide) ?_
        refine lv_isub hx hb d_FaxLine_b1_36 ?_
        obtain ⟨r37, e37, hf⟩ := bd1_some hf
        refine g_calli (wc := (wd_FaxLine_isBlack cI cZ cJ tq )) (w1 := (wd_FaxLine_isBlack cI cZ cJ tq)) (ws' := (wd_FaxLine_b1 cI cZ cJ tq h0 f_width f_above f_place f_black)) (va_runS (As := [.int f_above, .int (x1 - (1 : Int32))]) (rest := []) ⟨hx, hb, hml, hown, htw⟩ (c_FaxLine_isBlack l D cI cZ cJ tq _  f_above (x1 - (1 : Int32)) r37 e37) (va_cwS 2 htw (gd_S in8 in9 in10 in7) rfl rfl rfl (by decide +kernel) ⟨Nat.le_of_ble_eq_true rfl, Nat.le_of_ble_eq_true rfl⟩) (preS_of hG hS (va_free (wc := (wd_FaxLine_isBlack cI cZ cJ tq )) hD hS hA [] rfl) hK (hP.sub (ws' := (wd_FaxLine_isBlack cI cZ cJ tq )) [] rfl) (hD.sub (ws' := (wd_FaxLine_isBlack cI cZ cJ tq )) [] (by decide) rfl)) rfl rfl hl.1 rfl (lv_room (Nat.le_of_ble_eq_true rfl)) d_FaxLine_b1_37 ⟨Nat.le_of_ble_eq_true rfl, Nat.le_of_ble_eq_true rfl⟩) hP hD hS hA [] [0] [0] rfl rfl (by decide) (by decide) (by decide) rfl (fun H locs hP hD hS => ?_)
        refine lv_aload_n hx hb d_FaxLine_b1_40 rfl (lv_at hl 0 rfl) ?_
        refine va_get (D := D) (ci := 1) (v := .int f_black) (C := R_FaxLine) (T := F_FaxLine) (N := 4) hx hb htw i_FaxLine hown hK hP 0 rfl rfl 3 (by decide) (htw _ in6) (fun _ h9 => h9) rfl d_FaxLine_b1_41 ?_
        refine lv_icmp_ne (tgt := 49) hx hb d_FaxLine_b1_44 (by decide) (fun c44 => ?_) (fun c44 => ?_)
        · have hf := it_f hf c44
          exact w_FaxLine_b1_49 k h0 f_width f_above f_place f_black o_r C0 hA (F_FaxLine_b1_7 k f_width f_above f_place f_black n) ih x1 _ _ ls hP hD hS (lv_sub hl [0, 1] rfl) hf
        · have hf := it_t hf c44
          refine lv_iload_n hx hb d_FaxLine_b1_47 rfl (lv_at hl 1 rfl) ?_
          have e0 := Option.some.inj hf
          subst e0
          exact W.iret (v := x1) hx hb hr (fun t ht hW => ⟨⟨_, (), rfl, rfl, by rw [ht]; exact hP, va_K.moved hW.alike hK, hD⟩, hS.F ht⟩) hS.2.2 d_FaxLine_b1_48 hlocks
set_option maxHeartbeats 4000000 in
set_option maxRecDepth 100000 in
theorem c_FaxLine_b1 (l : Launch) (D : va_G) (cI cZ cJ : ClassId) (tq : Nat → Nat) (k : Nat) (h0 : Nat) (sz : Nat) (f_width : Int32) (f_above : Int32) (f_place : Int32) (f_black : Int32) (o_r : Int32) (hf : F_FaxLine_b1 k f_width f_above f_place f_black = some o_r) : Met l y_FaxLine_b1 ws_FaxLine_b1 RM_FaxLine_b1 (va_Pc [.ref h0] (Pg D cI cZ cJ tq (wd_FaxLine_b1 cI cZ cJ tq h0 f_width f_above f_place f_black) sz)) (qI D cI cZ cJ (va_A (wd_FaxLine_b1 cI cZ cJ tq h0 f_width f_above f_place f_black) sz) o_r (wd_FaxLine_b1 cI cZ cJ tq h0 f_width f_above f_place f_black)) 0 0 (va_A (wd_FaxLine_b1 cI cZ cJ tq h0 f_width f_above f_place f_black) sz) := by
  refine Met.ofW (cc := b_FaxLine_b1) (maxL := 2) (ret := (some .int)) (by decide) rfl ?_
  intro p e s m args below meth c s₁ B hml hv
  obtain ⟨rfl, hsz, hP, hK, hD0, hG⟩ := hv
  have hx := B.exec
  have hb := B.bytes
  have hr := B.returns
  have htw : ∀ w ∈ W_all, w.before [.ref h0].toArray s = true := fun w h => atoms_spec (ws := ws_FaxLine_b1) B.pre w (List.mem_cons_of_mem _ h)
  have hown : s.vm.findClass R_FaxLine = some m.cls := findClass_of_methodNamed B.named
  have hlocks := B.notSynchronized
  subst hsz
  have hD := hD0.self (sz := s.heap.size)
  generalize hAe : va_A (wd_FaxLine_b1 cI cZ cJ tq h0 f_width f_above f_place f_black) s.heap.size = A at hD hG ⊢
  have hA : ∀ q : Nat, s.heap.size ≤ q → A q := fun q h => by rw [← hAe]; exact Or.inr h
  have hS : va_S A s.heap s.heap [] := va_S.rf
  have C0 : cx p s m meth c [.ref h0].toArray b_FaxLine_b1 (some .int) 2 R_FaxLine D cI cZ cJ tq A := ⟨hx, hb, hr, hml, hown, htw, hlocks, hK, hG⟩
  have hl := lv_entry ([.ref h0]) (n := 2) (Nat.le_of_ble_eq_true rfl)
  rw [lg_entry_eq]
  generalize (lg_sl ([.ref h0]) ++ List.replicate (2 - (lg_sl ([.ref h0])).length) Slot.unset).toArray = ls at hl ⊢
  have hl : lv_has ls 2 [(0, .ref h0)] := hl
  have hP : va_P D classes (wd_FaxLine_b1 cI cZ cJ tq h0 f_width f_above f_place f_black) s.heap := hP
  clear hAe
  unfold F_FaxLine_b1 at hf
  refine lv_aload_n hx hb d_FaxLine_b1_0 rfl (lv_at hl 0 rfl) ?_
  refine va_get (D := D) (ci := 1) (v := .int f_place) (C := R_FaxLine) (T := F_FaxLine) (N := 4) hx hb htw i_FaxLine hown hK hP 0 rfl rfl 2 (by decide) (htw _ in5) (fun _ h9 => h9) rfl d_FaxLine_b1_1 ?_
  refine lv_iconst (v := 1) hx hb d_FaxLine_b1_4 (by decide) ?_
  refine lv_iadd hx hb d_FaxLine_b1_5 ?_
  refine lv_istore_n (lv' := [(1, .int (f_place + (1 : Int32))), (0, .ref h0)]) hx hb d_FaxLine_b1_6 rfl hl (by decide) rfl (fun ls hl => ?_)
  exact w_FaxLine_b1_7 k h0 f_width f_above f_place f_black o_r C0 hA k (f_place + (1 : Int32)) _ _ ls hP hD hS (lv_sub hl [1, 0] rfl) hf
-- FaxLine_b2
abbrev RM_FaxLine_b2 : Room := { frames := 2, cells := 0, slots := 0, locals := 45 }
def ws_FaxLine_b2 : List Cond := .code y_FaxLine_b2 b_FaxLine_b2 2 (some .int) :: W_all
def wd_FaxLine_b2 (cI cZ cJ : ClassId) (tq : Nat → Nat) (h0 : Nat) (f_width : Int32) (f_above : Int32) (f_place : Int32) (f_black : Int32) : va_W := [(h0, .inr (1, [.int f_width, .int f_above, .int f_place, .int f_black]))]
def F_FaxLine_b2 (k : Nat) (x1 : Int32) (f_width : Int32) (f_above : Int32) (f_black : Int32) : Option (Int32) :=
  (bd1 (F_FaxLine_firstRightOf k x1 f_above f_black f_width) (fun r10 => (some r10)))
set_option maxHeartbeats 4000000 in
set_option maxRecDepth 100000 in
theorem c_FaxLine_b2 (l : Launch) (D : va_G) (cI cZ cJ : ClassId) (tq : Nat → Nat) (k : Nat) (h0 : Nat) (sz : Nat) (f_width : Int32) (f_above : Int32) (f_place : Int32) (f_black : Int32) (x1 : Int32) (o_r : Int32) (hf : F_FaxLine_b2 k x1 f_width f_above f_black = some o_r) : Met l y_FaxLine_b2 ws_FaxLine_b2 RM_FaxLine_b2 (va_Pc [.ref h0, .int x1] (Pg D cI cZ cJ tq (wd_FaxLine_b2 cI cZ cJ tq h0 f_width f_above f_place f_black) sz)) (qI D cI cZ cJ (va_A (wd_FaxLine_b2 cI cZ cJ tq h0 f_width f_above f_place f_black) sz) o_r (wd_FaxLine_b2 cI cZ cJ tq h0 f_width f_above f_place f_black)) 0 0 (va_A (wd_FaxLine_b2 cI cZ cJ tq h0 f_width f_above f_place f_black) sz) := by
  refine Met.ofW (cc := b_FaxLine_b2) (maxL := 2) (ret := (some .int)) (by decide) rfl ?_
  intro p e s m args below meth c s₁ B hml hv
  obtain ⟨rfl, hsz, hP, hK, hD0, hG⟩ := hv
  have hx := B.exec
  have hb := B.bytes
  have hr := B.returns
  have htw : ∀ w ∈ W_all, w.before [.ref h0, .int x1].toArray s = true := fun w h => atoms_spec (ws := ws_FaxLine_b2) B.pre w (List.mem_cons_of_mem _ h)
  have hown : s.vm.findClass R_FaxLine = some m.cls := findClass_of_methodNamed B.named
  have hlocks := B.notSynchronized
  subst hsz
  have hD := hD0.self (sz := s.heap.size)
  generalize hAe : va_A (wd_FaxLine_b2 cI cZ cJ tq h0 f_width f_above f_place f_black) s.heap.size = A at hD hG ⊢
  have hA : ∀ q : Nat, s.heap.size ≤ q → A q := fun q h => by rw [← hAe]; exact Or.inr h
  have hS : va_S A s.heap s.heap [] := va_S.rf
  have C0 : cx p s m meth c [.ref h0, .int x1].toArray b_FaxLine_b2 (some .int) 2 R_FaxLine D cI cZ cJ tq A := ⟨hx, hb, hr, hml, hown, htw, hlocks, hK, hG⟩
  have hl := lv_entry ([.ref h0, .int x1]) (n := 2) (Nat.le_of_ble_eq_true rfl)
  rw [lg_entry_eq]
  generalize (lg_sl ([.ref h0, .int x1]) ++ List.replicate (2 - (lg_sl ([.ref h0, .int x1])).length) Slot.unset).toArray = ls at hl ⊢
  have hl : lv_has ls 2 [(0, .ref h0), (1, .int x1)] := hl
  have hP : va_P D classes (wd_FaxLine_b2 cI cZ cJ tq h0 f_width f_above f_place f_black) s.heap := hP
  clear hAe
  unfold F_FaxLine_b2 at hf
  refine lv_aload_n hx hb d_FaxLine_b2_0 rfl (lv_at hl 0 rfl) ?_
  refine lv_iload_n hx hb d_FaxLine_b2_1 rfl (lv_at hl 1 rfl) ?_
  refine lv_aload_n hx hb d_FaxLine_b2_2 rfl (lv_at hl 0 rfl) ?_
  refine va_get (D := D) (ci := 1) (v := .int f_above) (C := R_FaxLine) (T := F_FaxLine) (N := 4) hx hb htw i_FaxLine hown hK hP 0 rfl rfl 1 (by decide) (htw _ in4) (fun _ h9 => h9) rfl d_FaxLine_b2_3 ?_
  refine lv_aload_n hx hb d_FaxLine_b2_6 rfl (lv_at hl 0 rfl) ?_
  refine va_get (D := D) (ci := 1) (v := .int f_black) (C := R_FaxLine) (T := F_FaxLine) (N := 4) hx hb htw i_FaxLine hown hK hP 0 rfl rfl 3 (by decide) (htw _ in6) (fun _ h9 => h9) rfl d_FaxLine_b2_7 ?_
  obtain ⟨r10, e10, hf⟩ := bd1_some hf
  refine g_calli (wc := (wd_FaxLine_firstRightOf cI cZ cJ tq h0 f_width f_above f_place f_black)) (w1 := (wd_FaxLine_firstRightOf cI cZ cJ tq h0 f_width f_above f_place f_black)) (ws' := (wd_FaxLine_b2 cI cZ cJ tq h0 f_width f_above f_place f_black)) (va_runV (As := [.int x1, .int f_above, .int f_black]) (rest := []) ⟨hx, hb, hml, hown, htw⟩ (c_FaxLine_firstRightOf l D cI cZ cJ tq k h0 _ f_width f_above f_place f_black x1 f_above f_black r10 e10) (cwV 3 htw (gd_V in12 in13 in14 in10 in11) rfl rfl rfl (by decide +kernel) ⟨Nat.le_of_ble_eq_true rfl, Nat.le_of_ble_eq_true rfl⟩) (preV_of (ci := 1) (q0 := 0) hG hS (va_free (wc := (wd_FaxLine_firstRightOf cI cZ cJ tq h0 f_width f_above f_place f_black)) hD hS hA [0] rfl) hK hP rfl rfl (hP.sub (ws' := (wd_FaxLine_firstRightOf cI cZ cJ tq h0 f_width f_above f_place f_black)) [0] rfl) (hD.sub (ws' := (wd_FaxLine_firstRightOf cI cZ cJ tq h0 f_width f_above f_place f_black)) [0] (by decide) rfl)) rfl rfl hl.1 rfl (lv_room (Nat.le_of_ble_eq_true rfl)) d_FaxLine_b2_10 ⟨Nat.le_of_ble_eq_true rfl, Nat.le_of_ble_eq_true rfl⟩) hP hD hS hA [0] [] [0] rfl rfl (by decide) (by decide) (by decide) rfl (fun H locs hP hD hS => ?_)
  have e0 := Option.some.inj hf
  subst e0
  exact W.iret (v := r10) hx hb hr (fun t ht hW => ⟨⟨_, (), rfl, rfl, by rw [ht]; exact hP, va_K.moved hW.alike hK, hD⟩, hS.F ht⟩) hS.2.2 d_FaxLine_b2_13 hlocks
-- Inflow_init
abbrev RM_Inflow_init : Room := { frames := 1, cells := 1, slots := 188, locals := 16 }
def ws_Inflow_init : List Cond := .code y_Inflow_init b_Inflow_init 1 none :: W_all
def wd_Inflow_init (cI cZ cJ : ClassId) (tq : Nat → Nat) (h0 : Nat) : va_W := [(h0, .inr (2, [.null, .int 0, .int 0]))]
def wdp_Inflow_init (cI cZ cJ : ClassId) (tq : Nat → Nat) (h0 : Nat) (qq : Nat → Nat) (o_f_count : Int32) (o_f_next : Int32) (o_n_words : Nat) (o_g_words : Nat → Int32) : va_W := [(h0, .inr (2, [.ref (qq 0), .int o_f_count, .int o_f_next])), ((qq 0), .inl (cI, o_n_words, .inl o_g_words))]
def F_Inflow_init  : Option (Int32 × Int32 × Nat × (Nat → Int32)) :=
  (some (0, 0, 188, (fun _ => 0)))
set_option maxHeartbeats 4000000 in
set_option maxRecDepth 100000 in
theorem c_Inflow_init (l : Launch) (D : va_G) (cI cZ cJ : ClassId) (tq : Nat → Nat) (h0 : Nat) (sz : Nat) (o_f_count : Int32) (o_f_next : Int32) (o_n_words : Nat) (o_g_words : Nat → Int32) (hf : F_Inflow_init = some (o_f_count, o_f_next, o_n_words, o_g_words)) : Met l y_Inflow_init ws_Inflow_init RM_Inflow_init (va_Pc [.ref h0] (Pg D cI cZ cJ tq (wd_Inflow_init cI cZ cJ tq h0) sz)) (qC D cI cZ cJ (va_A (wd_Inflow_init cI cZ cJ tq h0) sz) (fun qq => (wdp_Inflow_init cI cZ cJ tq h0 qq o_f_count o_f_next o_n_words o_g_words))) 1 188 (va_A (wd_Inflow_init cI cZ cJ tq h0) sz) := by
  refine Met.ofW (cc := b_Inflow_init) (maxL := 1) (ret := none) (by decide) rfl ?_
  intro p e s m args below meth c s₁ B hml hv
  obtain ⟨rfl, hsz, hP, hK, hD0, hG⟩ := hv
  have hx := B.exec
  have hb := B.bytes
  have hr := B.returns
  have htw : ∀ w ∈ W_all, w.before [.ref h0].toArray s = true := fun w h => atoms_spec (ws := ws_Inflow_init) B.pre w (List.mem_cons_of_mem _ h)
  have hown : s.vm.findClass R_Inflow = some m.cls := findClass_of_methodNamed B.named
  have hlocks := B.notSynchronized
  have hin : meth.name = "<init>" := (name_of_methodNamed B.named B.method).1
  subst hsz
  have hD := hD0.self (sz := s.heap.size)
  generalize hAe : va_A (wd_Inflow_init cI cZ cJ tq h0) s.heap.size = A at hD hG ⊢
  have hA : ∀ q : Nat, s.heap.size ≤ q → A q := fun q h => by rw [← hAe]; exact Or.inr h
  have hS : va_S A s.heap s.heap [] := va_S.rf
  have C0 : cx p s m meth c [.ref h0].toArray b_Inflow_init none 1 R_Inflow D cI cZ cJ tq A := ⟨hx, hb, hr, hml, hown, htw, hlocks, hK, hG⟩
  have hl := lv_entry ([.ref h0]) (n := 1) (Nat.le_of_ble_eq_true rfl)
  rw [lg_entry_eq]
  generalize (lg_sl ([.ref h0]) ++ List.replicate (1 - (lg_sl ([.ref h0])).length) Slot.unset).toArray = ls at hl ⊢
  have hl : lv_has ls 1 [(0, .ref h0)] := hl
  have hP : va_P D classes (wd_Inflow_init cI cZ cJ tq h0) s.heap := hP
  clear hAe
  unfold F_Inflow_init at hf
  refine lv_aload_n hx hb d_Inflow_init_0 rfl (lv_at hl 0 rfl) ?_
  refine W.objInit hx hb hown (htw _ in15) (htw _ in1) (htw _ in2) rfl (by rw [hml]; exact hl.1) rfl d_Inflow_init_1 (Nat.le_of_ble_eq_true rfl) (Nat.le_of_ble_eq_true rfl) ?_
  refine W.eq (g2 := F0 m 4 ls []) rfl ?_
  refine lv_aload_n hx hb d_Inflow_init_4 rfl (lv_at hl 0 rfl) ?_
  refine lv_sipush (v := 188) hx hb d_Inflow_init_5 (by decide) ?_
  refine g_newI (n := 188) (N := 188) (B := 188) hx hb (htw _ in16) hK hP hD hS hA (by decide) (by decide) (Nat.le_refl _) (by decide) (Nat.le_of_ble_eq_true rfl) (Nat.le_of_ble_eq_true rfl) d_Inflow_init_8 (fun q8 H hP hD hS => ?_)
  have hP : va_P D classes ([(h0, .inr (2, [.null, .int 0, .int 0])), (q8, .inl (cI, 188, .inl (fun _ => 0)))] : va_W) H := hP
  have hD : va_D A ([(h0, .inr (2, [.null, .int 0, .int 0])), (q8, .inl (cI, 188, .inl (fun _ => 0)))] : va_W) := hD
  refine va_putF (D := D) (ci := 2) (v := .ref q8) (ty := .array .int) (C := R_Inflow) (T := F_Inflow) (N := 3) hx hb htw i_Inflow t_Inflow t_Inflow_ok n_Inflow hown hK hP hD hS 0 rfl rfl 0 (by decide) (htw _ in17) (fun _ h9 => h9) rfl hin rfl (by decide +kernel) rfl rfl (Nat.le_of_ble_eq_true rfl) d_Inflow_init_10 (fun H locs hP hD hS => ?_)
  have hP : va_P D classes ([(h0, .inr (2, [.ref q8, .int 0, .int 0])), (q8, .inl (cI, 188, .inl (fun _ => 0)))] : va_W) H := hP
  have hD : va_D A ([(h0, .inr (2, [.ref q8, .int 0, .int 0])), (q8, .inl (cI, 188, .inl (fun _ => 0)))] : va_W) := hD
  obtain ⟨e0, e1, e2, e3⟩ := so4 hf
  subst e0; subst e1; subst e2; subst e3
  exact W.vret hx hb hr (fun t ht hW => ⟨⟨(fun k => [q8].getD k 0), rfl, trivial, by rw [ht]; exact hP, va_K.moved hW.alike hK, hD⟩, hS.F ht⟩) hS.2.2 d_Inflow_init_13 hlocks
-- Inflow_count
abbrev RM_Inflow_count : Room := { frames := 0, cells := 0, slots := 0, locals := 0 }
def ws_Inflow_count : List Cond := .code y_Inflow_count b_Inflow_count 1 (some .int) :: W_all
def wd_Inflow_count (cI cZ cJ : ClassId) (tq : Nat → Nat) (h0 : Nat) (h_words : Nat) (f_count : Int32) (f_next : Int32) : va_W := [(h0, .inr (2, [.ref h_words, .int f_count, .int f_next]))]
def F_Inflow_count (f_count : Int32) : Option (Int32) :=
  (some f_count)
set_option maxHeartbeats 4000000 in
set_option maxRecDepth 100000 in
theorem c_Inflow_count (l : Launch) (D : va_G) (cI cZ cJ : ClassId) (tq : Nat → Nat) (h0 : Nat) (h_words : Nat) (sz : Nat) (f_count : Int32) (f_next : Int32) (o_r : Int32) (hf : F_Inflow_count f_count = some o_r) : Met l y_Inflow_count ws_Inflow_count RM_Inflow_count (va_Pc [.ref h0] (Pg D cI cZ cJ tq (wd_Inflow_count cI cZ cJ tq h0 h_words f_count f_next) sz)) (qI D cI cZ cJ (va_A (wd_Inflow_count cI cZ cJ tq h0 h_words f_count f_next) sz) o_r (wd_Inflow_count cI cZ cJ tq h0 h_words f_count f_next)) 0 0 (va_A (wd_Inflow_count cI cZ cJ tq h0 h_words f_count f_next) sz) := by
  refine Met.ofW (cc := b_Inflow_count) (maxL := 1) (ret := (some .int)) (by decide) rfl ?_
  intro p e s m args below meth c s₁ B hml hv
  obtain ⟨rfl, hsz, hP, hK, hD0, hG⟩ := hv
  have hx := B.exec
  have hb := B.bytes
  have hr := B.returns
  have htw : ∀ w ∈ W_all, w.before [.ref h0].toArray s = true := fun w h => atoms_spec (ws := ws_Inflow_count) B.pre w (List.mem_cons_of_mem _ h)
  have hown : s.vm.findClass R_Inflow = some m.cls := findClass_of_methodNamed B.named
  have hlocks := B.notSynchronized
  subst hsz
  have hD := hD0.self (sz := s.heap.size)
  generalize hAe : va_A (wd_Inflow_count cI cZ cJ tq h0 h_words f_count f_next) s.heap.size = A at hD hG ⊢
  have hA : ∀ q : Nat, s.heap.size ≤ q → A q := fun q h => by rw [← hAe]; exact Or.inr h
  have hS : va_S A s.heap s.heap [] := va_S.rf
  have C0 : cx p s m meth c [.ref h0].toArray b_Inflow_count (some .int) 1 R_Inflow D cI cZ cJ tq A := ⟨hx, hb, hr, hml, hown, htw, hlocks, hK, hG⟩
  have hl := lv_entry ([.ref h0]) (n := 1) (Nat.le_of_ble_eq_true rfl)
  rw [lg_entry_eq]
  generalize (lg_sl ([.ref h0]) ++ List.replicate (1 - (lg_sl ([.ref h0])).length) Slot.unset).toArray = ls at hl ⊢
  have hl : lv_has ls 1 [(0, .ref h0)] := hl
  have hP : va_P D classes (wd_Inflow_count cI cZ cJ tq h0 h_words f_count f_next) s.heap := hP
  clear hAe
  unfold F_Inflow_count at hf
  refine lv_aload_n hx hb d_Inflow_count_0 rfl (lv_at hl 0 rfl) ?_
  refine va_get (D := D) (ci := 2) (v := .int f_count) (C := R_Inflow) (T := F_Inflow) (N := 3) hx hb htw i_Inflow hown hK hP 0 rfl rfl 1 (by decide) (htw _ in18) (fun _ h9 => h9) rfl d_Inflow_count_1 ?_
  have e0 := Option.some.inj hf
  subst e0
  exact W.iret (v := f_count) hx hb hr (fun t ht hW => ⟨⟨_, (), rfl, rfl, by rw [ht]; exact hP, va_K.moved hW.alike hK, hD⟩, hS.F ht⟩) hS.2.2 d_Inflow_count_4 hlocks
-- Inflow_wipe
abbrev RM_Inflow_wipe : Room := { frames := 0, cells := 0, slots := 0, locals := 0 }
def ws_Inflow_wipe : List Cond := .code y_Inflow_wipe b_Inflow_wipe 1 none :: W_all
def wd_Inflow_wipe (cI cZ cJ : ClassId) (tq : Nat → Nat) (h0 : Nat) (h_words : Nat) (f_count : Int32) (f_next : Int32) : va_W := [(h0, .inr (2, [.ref h_words, .int f_count, .int f_next]))]
def F_Inflow_wipe (f_count : Int32) : Option (Int32) :=
  (some 0)
set_option maxHeartbeats 4000000 in
set_option maxRecDepth 100000 in
theorem c_Inflow_wipe (l : Launch) (D : va_G) (cI cZ cJ : ClassId) (tq : Nat → Nat) (h0 : Nat) (h_words : Nat) (sz : Nat) (f_count : Int32) (f_next : Int32) (o_f_count : Int32) (hf : F_Inflow_wipe f_count = some o_f_count) : Met l y_Inflow_wipe ws_Inflow_wipe RM_Inflow_wipe (va_Pc [.ref h0] (Pg D cI cZ cJ tq (wd_Inflow_wipe cI cZ cJ tq h0 h_words f_count f_next) sz)) (qV D cI cZ cJ (va_A (wd_Inflow_wipe cI cZ cJ tq h0 h_words f_count f_next) sz) (wd_Inflow_wipe cI cZ cJ tq h0 h_words o_f_count f_next)) 0 0 (va_A (wd_Inflow_wipe cI cZ cJ tq h0 h_words f_count f_next) sz) := by
  refine Met.ofW (cc := b_Inflow_wipe) (maxL := 1) (ret := none) (by decide) rfl ?_
  intro p e s m args below meth c s₁ B hml hv
  obtain ⟨rfl, hsz, hP, hK, hD0, hG⟩ := hv
  have hx := B.exec
  have hb := B.bytes
  have hr := B.returns
  have htw : ∀ w ∈ W_all, w.before [.ref h0].toArray s = true := fun w h => atoms_spec (ws := ws_Inflow_wipe) B.pre w (List.mem_cons_of_mem _ h)
  have hown : s.vm.findClass R_Inflow = some m.cls := findClass_of_methodNamed B.named
  have hlocks := B.notSynchronized
  subst hsz
  have hD := hD0.self (sz := s.heap.size)
  generalize hAe : va_A (wd_Inflow_wipe cI cZ cJ tq h0 h_words f_count f_next) s.heap.size = A at hD hG ⊢
  have hA : ∀ q : Nat, s.heap.size ≤ q → A q := fun q h => by rw [← hAe]; exact Or.inr h
  have hS : va_S A s.heap s.heap [] := va_S.rf
  have C0 : cx p s m meth c [.ref h0].toArray b_Inflow_wipe none 1 R_Inflow D cI cZ cJ tq A := ⟨hx, hb, hr, hml, hown, htw, hlocks, hK, hG⟩
  have hl := lv_entry ([.ref h0]) (n := 1) (Nat.le_of_ble_eq_true rfl)
  rw [lg_entry_eq]
  generalize (lg_sl ([.ref h0]) ++ List.replicate (1 - (lg_sl ([.ref h0])).length) Slot.unset).toArray = ls at hl ⊢
  have hl : lv_has ls 1 [(0, .ref h0)] := hl
  have hP : va_P D classes (wd_Inflow_wipe cI cZ cJ tq h0 h_words f_count f_next) s.heap := hP
  clear hAe
  unfold F_Inflow_wipe at hf
  refine lv_aload_n hx hb d_Inflow_wipe_0 rfl (lv_at hl 0 rfl) ?_
  refine lv_iconst (v := 0) hx hb d_Inflow_wipe_1 (by decide) ?_
  refine va_put (D := D) (ci := 2) (v := .int 0) (ty := .int) (C := R_Inflow) (T := F_Inflow) (N := 3) hx hb htw i_Inflow t_Inflow t_Inflow_ok n_Inflow hown hK hP hD hS 0 rfl rfl 1 (by decide) (htw _ in18) (fun _ h9 => h9) rfl (by decide +kernel) rfl rfl (Nat.le_of_ble_eq_true rfl) d_Inflow_wipe_2 (fun H locs hP hD hS => ?_)
  have hP : va_P D classes (wd_Inflow_wipe cI cZ cJ tq h0 h_words 0 f_next) H := hP
  have hD : va_D A (wd_Inflow_wipe cI cZ cJ tq h0 h_words 0 f_next) := hD
  have e0 := Option.some.inj hf
  subst e0
  exact W.vret hx hb hr (fun t ht hW => ⟨⟨(), rfl, trivial, by rw [ht]; exact hP, va_K.moved hW.alike hK, hD⟩, hS.F ht⟩) hS.2.2 d_Inflow_wipe_5 hlocks
-- Inflow_hasRoomFor
abbrev RM_Inflow_hasRoomFor : Room := { frames := 0, cells := 0, slots := 0, locals := 0 }
def ws_Inflow_hasRoomFor : List Cond := .code y_Inflow_hasRoomFor b_Inflow_hasRoomFor 2 (some .boolean) :: W_all
def wd_Inflow_hasRoomFor (cI cZ cJ : ClassId) (tq : Nat → Nat) (h0 : Nat) (h_words : Nat) (f_count : Int32) (f_next : Int32) : va_W := [(h0, .inr (2, [.ref h_words, .int f_count, .int f_next]))]
def F_Inflow_hasRoomFor (x1 : Int32) (f_count : Int32) : Option (Int32) :=
  (if ((6000 : Int32) - f_count) < x1 then (some 0) else (some 1))
set_option maxHeartbeats 4000000 in
set_option maxRecDepth 100000 in
theorem c_Inflow_hasRoomFor (l : Launch) (D : va_G) (cI cZ cJ : ClassId) (tq : Nat → Nat) (h0 : Nat) (h_words : Nat) (sz : Nat) (f_count : Int32) (f_next : Int32) (x1 : Int32) (o_r : Int32) (hf : F_Inflow_hasRoomFor x1 f_count = some o_r) : Met l y_Inflow_hasRoomFor ws_Inflow_hasRoomFor RM_Inflow_hasRoomFor (va_Pc [.ref h0, .int x1] (Pg D cI cZ cJ tq (wd_Inflow_hasRoomFor cI cZ cJ tq h0 h_words f_count f_next) sz)) (qI D cI cZ cJ (va_A (wd_Inflow_hasRoomFor cI cZ cJ tq h0 h_words f_count f_next) sz) o_r (wd_Inflow_hasRoomFor cI cZ cJ tq h0 h_words f_count f_next)) 0 0 (va_A (wd_Inflow_hasRoomFor cI cZ cJ tq h0 h_words f_count f_next) sz) := by
  refine Met.ofW (cc := b_Inflow_hasRoomFor) (maxL := 2) (ret := (some .boolean)) (by decide) rfl ?_
  intro p e s m args below meth c s₁ B hml hv
  obtain ⟨rfl, hsz, hP, hK, hD0, hG⟩ := hv
  have hx := B.exec
  have hb := B.bytes
  have hr := B.returns
  have htw : ∀ w ∈ W_all, w.before [.ref h0, .int x1].toArray s = true := fun w h => atoms_spec (ws := ws_Inflow_hasRoomFor) B.pre w (List.mem_cons_of_mem _ h)
  have hown : s.vm.findClass R_Inflow = some m.cls := findClass_of_methodNamed B.named
  have hlocks := B.notSynchronized
  subst hsz
  have hD := hD0.self (sz := s.heap.size)
  generalize hAe : va_A (wd_Inflow_hasRoomFor cI cZ cJ tq h0 h_words f_count f_next) s.heap.size = A at hD hG ⊢
  have hA : ∀ q : Nat, s.heap.size ≤ q → A q := fun q h => by rw [← hAe]; exact Or.inr h
  have hS : va_S A s.heap s.heap [] := va_S.rf
  have C0 : cx p s m meth c [.ref h0, .int x1].toArray b_Inflow_hasRoomFor (some .boolean) 2 R_Inflow D cI cZ cJ tq A := ⟨hx, hb, hr, hml, hown, htw, hlocks, hK, hG⟩
  have hl := lv_entry ([.ref h0, .int x1]) (n := 2) (Nat.le_of_ble_eq_true rfl)
  rw [lg_entry_eq]
  generalize (lg_sl ([.ref h0, .int x1]) ++ List.replicate (2 - (lg_sl ([.ref h0, .int x1])).length) Slot.unset).toArray = ls at hl ⊢
  have hl : lv_has ls 2 [(0, .ref h0), (1, .int x1)] := hl
  have hP : va_P D classes (wd_Inflow_hasRoomFor cI cZ cJ tq h0 h_words f_count f_next) s.heap := hP
  clear hAe
  unfold F_Inflow_hasRoomFor at hf
  refine lv_iload_n hx hb d_Inflow_hasRoomFor_0 rfl (lv_at hl 1 rfl) ?_
  refine lv_sipush (v := 6000) hx hb d_Inflow_hasRoomFor_1 (by decide) ?_
  refine lv_aload_n hx hb d_Inflow_hasRoomFor_4 rfl (lv_at hl 0 rfl) ?_
  refine va_get (D := D) (ci := 2) (v := .int f_count) (C := R_Inflow) (T := F_Inflow) (N := 3) hx hb htw i_Inflow hown hK hP 0 rfl rfl 1 (by decide) (htw _ in18) (fun _ h9 => h9) rfl d_Inflow_hasRoomFor_5 ?_
  refine lv_isub hx hb d_Inflow_hasRoomFor_8 ?_
  refine lv_icmp_gt (tgt := 16) hx hb d_Inflow_hasRoomFor_9 (by decide) (fun c9 => ?_) (fun c9 => ?_)
  · have hf := it_t hf c9
    refine lv_iconst (v := 0) hx hb d_Inflow_hasRoomFor_16 (by decide) ?_
    have e0 := Option.some.inj hf
    subst e0
    exact W.zret (v := 0) hx hb hr rfl (fun t ht hW => ⟨⟨_, (), rfl, rfl, by rw [ht]; exact hP, va_K.moved hW.alike hK, hD⟩, hS.F ht⟩) hS.2.2 d_Inflow_hasRoomFor_17 hlocks
  · have hf := it_f hf c9
    refine lv_iconst (v := 1) hx hb d_Inflow_hasRoomFor_12 (by decide) ?_
    refine lv_goto (tgt := 17) hx hb d_Inflow_hasRoomFor_13 (by decide) ?_
    have e0 := Option.some.inj hf
    subst e0
    exact W.zret (v := 1) hx hb hr rfl (fun t ht hW => ⟨⟨_, (), rfl, rfl, by rw [ht]; exact hP, va_K.moved hW.alike hK, hD⟩, hS.F ht⟩) hS.2.2 d_Inflow_hasRoomFor_17 hlocks
-- Inflow_add
abbrev RM_Inflow_add : Room := { frames := 0, cells := 0, slots := 0, locals := 0 }
def ws_Inflow_add : List Cond := .code y_Inflow_add b_Inflow_add 4 none :: W_all
def wd_Inflow_add (cI cZ cJ : ClassId) (tq : Nat → Nat) (h0 : Nat) (h_words : Nat) (f_count : Int32) (f_next : Int32) (n_words : Nat) (g_words : Nat → Int32) : va_W := [(h0, .inr (2, [.ref h_words, .int f_count, .int f_next])), (h_words, .inl (cI, n_words, .inl g_words))]
def F_Inflow_add_61 (n_words : Nat) (z0 : Int32) (z1 : Int32) (f_count : Int32) (g_words : Nat → Int32) : Option (Int32 × (Nat → Int32)) :=
  (if z1 < 0 ∨ n_words ≤ z1.toNatClampNeg then none else (some ((f_count + (1 : Int32)), (upd g_words z1.toNatClampNeg z0))))
def F_Inflow_add (x1 : Int32) (f_count : Int32) (n_words : Nat) (g_words : Nat → Int32) : Option (Int32 × (Nat → Int32)) :=
  (if (f_count >>> ((5 : Int32) &&& 31)) < 0 then (some (f_count, g_words)) else (if (nI n_words) ≤ (f_count >>> ((5 : Int32) &&& 31)) then (some (f_count, g_words)) else (if x1 = (1 : Int32) then (if (f_count >>> ((5 : Int32) &&& 31)) < 0 ∨ n_words ≤ (f_count >>> ((5 : Int32) &&& 31)).toNatClampNeg then none else (F_Inflow_add_61 n_words ((g_words (f_count >>> ((5 : Int32) &&& 31)).toNatClampNeg) ||| ((1 : Int32) <<< ((f_count &&& (31 : Int32)) &&& 31))) (f_count >>> ((5 : Int32) &&& 31)) f_count g_words)) else (if (f_count >>> ((5 : Int32) &&& 31)) < 0 ∨ n_words ≤ (f_count >>> ((5 : Int32) &&& 31)).toNatClampNeg then none else (F_Inflow_add_61 n_words ((g_words (f_count >>> ((5 : Int32) &&& 31)).toNatClampNeg) &&& (((1 : Int32) <<< ((f_count &&& (31 : Int32)) &&& 31)) ^^^ (-1 : Int32))) (f_count >>> ((5 : Int32) &&& 31)) f_count g_words)))))
set_option maxHeartbeats 4000000 in
set_option maxRecDepth 100000 in
theorem w_Inflow_add_61 {p : Program} {l : Launch} {e : Env} {s : State} {m : MethodId} {args : Array Value} {below : List Frame} {meth : Method} {c : Code} {D : va_G} {cI cZ cJ : ClassId} {tq : Nat → Nat} {A : Nat → Prop} (h0 : Nat) (h_words : Nat) (f_next : Int32) (n_words : Nat) (o_f_count : Int32) (o_g_words : Nat → Int32) (C0 : cx p s m meth c args b_Inflow_add none 4 R_Inflow D cI cZ cJ tq A) (hA : ∀ q : Nat, s.heap.size ≤ q → A q) : ∀ (z0 : Int32) (z1 : Int32) (f_count : Int32) (g_words : Nat → Int32) (H : Heap) (locs : List Loc) (ls : Array Slot), va_P D classes (wd_Inflow_add cI cZ cJ tq h0 h_words f_count f_next n_words g_words) H → va_D A (wd_Inflow_add cI cZ cJ tq h0 h_words f_count f_next n_words g_words) → va_S A s.heap H locs → lv_has ls 4 [(0, .ref h0)] → F_Inflow_add_61 n_words z0 z1 f_count g_words = some (o_f_count, o_g_words) → W p l e RM_Inflow_add s m args below meth c H locs 0 0 (MQ below (qV D cI cZ cJ A (wd_Inflow_add cI cZ cJ tq h0 h_words o_f_count f_next n_words o_g_words)) args s 0 0 A) (F0 m 61 ls [.int z0, .int z1, .ref h_words]) := by
  obtain ⟨hx, hb, hr, hml, hown, htw, hlocks, hK, hG⟩ := id C0
  intro z0 z1 f_count g_words H locs ls hP hD hS hl hf
  unfold F_Inflow_add_61 at hf
  by_cases g61 : z1 < 0 ∨ n_words ≤ z1.toNatClampNeg
  · exact no_some (it_t hf g61)
  have hf := it_f hf g61
  refine va_iast hx hb hK hP hD hS 1 0 rfl rfl g61 d_Inflow_add_61 (fun H locs hP hD hS => ?_)
  have hP : va_P D classes (wd_Inflow_add cI cZ cJ tq h0 h_words f_count f_next n_words (upd g_words z1.toNatClampNeg z0)) H := hP
  have hD : va_D A (wd_Inflow_add cI cZ cJ tq h0 h_words f_count f_next n_words (upd g_words z1.toNatClampNeg z0)) := hD
  refine lv_aload_n hx hb d_Inflow_add_62 rfl (lv_at hl 0 rfl) ?_
  refine lv_dup hx hb d_Inflow_add_63 rfl ?_
  refine va_get (D := D) (ci := 2) (v := .int f_count) (C := R_Inflow) (T := F_Inflow) (N := 3) hx hb htw i_Inflow hown hK hP 0 rfl rfl 1 (by decide) (htw _ in18) (fun _ h9 => h9) rfl d_Inflow_add_64 ?_
  refine lv_iconst (v := 1) hx hb d_Inflow_add_67 (by decide) ?_
  refine lv_iadd hx hb d_Inflow_add_68 ?_
  refine va_put (D := D) (ci := 2) (v := .int (f_count + (1 : Int32))) (ty := .int) (C := R_Inflow) (T := F_Inflow) (N := 3) hx hb htw i_Inflow t_Inflow t_Inflow_ok n_Inflow hown hK hP hD hS 0 rfl rfl 1 (by decide) (htw _ in18) (fun _ h9 => h9) rfl (by decide +kernel) rfl rfl (Nat.le_of_ble_eq_true rfl) d_Inflow_add_69 (fun H locs hP hD hS => ?_)
  have hP : va_P D classes (wd_Inflow_add cI cZ cJ tq h0 h_words (f_count + (1 : Int32)) f_next n_words (upd g_words z1.toNatClampNeg z0)) H := hP
  have hD : va_D A (wd_Inflow_add cI cZ cJ tq h0 h_words (f_count + (1 : Int32)) f_next n_words (upd g_words z1.toNatClampNeg z0)) := hD
  obtain ⟨e0, e1⟩ := so2 hf
  subst e0; subst e1
  exact W.vret hx hb hr (fun t ht hW => ⟨⟨(), rfl, trivial, by rw [ht]; exact hP, va_K.moved hW.alike hK, hD⟩, hS.F ht⟩) hS.2.2 d_Inflow_add_72 hlocks
set_option maxHeartbeats 4000000 in
set_option maxRecDepth 100000 in
theorem c_Inflow_add (l : Launch) (D : va_G) (cI cZ cJ : ClassId) (tq : Nat → Nat) (h0 : Nat) (h_words : Nat) (sz : Nat) (f_count : Int32) (f_next : Int32) (n_words : Nat) (g_words : Nat → Int32) (x1 : Int32) (o_f_count : Int32) (o_g_words : Nat → Int32) (hf : F_Inflow_add x1 f_count n_words g_words = some (o_f_count, o_g_words)) : Met l y_Inflow_add ws_Inflow_add RM_Inflow_add (va_Pc [.ref h0, .int x1] (Pg D cI cZ cJ tq (wd_Inflow_add cI cZ cJ tq h0 h_words f_count f_next n_words g_words) sz)) (qV D cI cZ cJ (va_A (wd_Inflow_add cI cZ cJ tq h0 h_words f_count f_next n_words g_words) sz) (wd_Inflow_add cI cZ cJ tq h0 h_words o_f_count f_next n_words o_g_words)) 0 0 (va_A (wd_Inflow_add cI cZ cJ tq h0 h_words f_count f_next n_words g_words) sz) := by
  refine Met.ofW (cc := b_Inflow_add) (maxL := 4) (ret := none) (by decide) rfl ?_
  intro p e s m args below meth c s₁ B hml hv
  obtain ⟨rfl, hsz, hP, hK, hD0, hG⟩ := hv
  have hx := B.exec
  have hb := B.bytes
  have hr := B.returns
  have htw : ∀ w ∈ W_all, w.before [.ref h0, .int x1].toArray s = true := fun w h => atoms_spec (ws := ws_Inflow_add) B.pre w (List.mem_cons_of_mem _ h)
  have hown : s.vm.findClass R_Inflow = some m.cls := findClass_of_methodNamed B.named
  have hlocks := B.notSynchronized
  subst hsz
  have hD := hD0.self (sz := s.heap.size)
  generalize hAe : va_A (wd_Inflow_add cI cZ cJ tq h0 h_words f_count f_next n_words g_words) s.heap.size = A at hD hG ⊢
  have hA : ∀ q : Nat, s.heap.size ≤ q → A q := fun q h => by rw [← hAe]; exact Or.inr h
  have hS : va_S A s.heap s.heap [] := va_S.rf
  have C0 : cx p s m meth c [.ref h0, .int x1].toArray b_Inflow_add none 4 R_Inflow D cI cZ cJ tq A := ⟨hx, hb, hr, hml, hown, htw, hlocks, hK, hG⟩
  have hl := lv_entry ([.ref h0, .int x1]) (n := 4) (Nat.le_of_ble_eq_true rfl)
  rw [lg_entry_eq]
  generalize (lg_sl ([.ref h0, .int x1]) ++ List.replicate (4 - (lg_sl ([.ref h0, .int x1])).length) Slot.unset).toArray = ls at hl ⊢
  have hl : lv_has ls 4 [(0, .ref h0), (1, .int x1)] := hl
  have hP : va_P D classes (wd_Inflow_add cI cZ cJ tq h0 h_words f_count f_next n_words g_words) s.heap := hP
  clear hAe
  unfold F_Inflow_add at hf
  refine lv_aload_n hx hb d_Inflow_add_0 rfl (lv_at hl 0 rfl) ?_
  refine va_get (D := D) (ci := 2) (v := .int f_count) (C := R_Inflow) (T := F_Inflow) (N := 3) hx hb htw i_Inflow hown hK hP 0 rfl rfl 1 (by decide) (htw _ in18) (fun _ h9 => h9) rfl d_Inflow_add_1 ?_
  refine lv_iconst (v := 5) hx hb d_Inflow_add_4 (by decide) ?_
  refine lv_ishr hx hb d_Inflow_add_5 ?_
  refine lv_istore_n (lv' := [(2, .int (f_count >>> ((5 : Int32) &&& 31))), (0, .ref h0), (1, .int x1)]) hx hb d_Inflow_add_6 rfl hl (by decide) rfl (fun ls hl => ?_)
  refine lv_iload_n hx hb d_Inflow_add_7 rfl (lv_at hl 0 rfl) ?_
  refine lv_if_lt (tgt := 72) hx hb d_Inflow_add_8 (by decide) (fun c8 => ?_) (fun c8 => ?_)
  · have hf := it_t hf c8
    obtain ⟨e0, e1⟩ := so2 hf
    subst e0; subst e1
    exact W.vret hx hb hr (fun t ht hW => ⟨⟨(), rfl, trivial, by rw [ht]; exact hP, va_K.moved hW.alike hK, hD⟩, hS.F ht⟩) hS.2.2 d_Inflow_add_72 hlocks
  · have hf := it_f hf c8
    refine lv_iload_n hx hb d_Inflow_add_11 rfl (lv_at hl 0 rfl) ?_
    refine lv_aload_n hx hb d_Inflow_add_12 rfl (lv_at hl 1 rfl) ?_
    refine va_get (D := D) (ci := 2) (v := .ref h_words) (C := R_Inflow) (T := F_Inflow) (N := 3) hx hb htw i_Inflow hown hK hP 0 rfl rfl 0 (by decide) (htw _ in17) (fun _ h9 => h9) rfl d_Inflow_add_13 ?_
    refine va_alen (v := nI n_words) hx hb hK hP 1 0 rfl rfl rfl d_Inflow_add_16 ?_
    refine lv_icmp_ge (tgt := 72) hx hb d_Inflow_add_17 (by decide) (fun c17 => ?_) (fun c17 => ?_)
    · have hf := it_t hf c17
      obtain ⟨e0, e1⟩ := so2 hf
      subst e0; subst e1
      exact W.vret hx hb hr (fun t ht hW => ⟨⟨(), rfl, trivial, by rw [ht]; exact hP, va_K.moved hW.alike hK, hD⟩, hS.F ht⟩) hS.2.2 d_Inflow_add_72 hlocks
    · have hf := it_f hf c17
      refine lv_iconst (v := 1) hx hb d_Inflow_add_20 (by decide) ?_
      refine lv_aload_n hx hb d_Inflow_add_21 rfl (lv_at hl 1 rfl) ?_
      refine va_get (D := D) (ci := 2) (v := .int f_count) (C := R_Inflow) (T := F_Inflow) (N := 3) hx hb htw i_Inflow hown hK hP 0 rfl rfl 1 (by decide) (htw _ in18) (fun _ h9 => h9) rfl d_Inflow_add_22 ?_
      refine lv_bipush (v := 31) hx hb d_Inflow_add_25 (by decide) ?_
      refine lv_iand hx hb d_Inflow_add_27 ?_
      refine lv_ishl hx hb d_Inflow_add_28 ?_
      refine lv_istore_n (lv' := [(3, .int ((1 : Int32) <<< ((f_count &&& (31 : Int32)) &&& 31))), (2, .int (f_count >>> ((5 : Int32) &&& 31))), (0, .ref h0), (1, .int x1)]) hx hb d_Inflow_add_29 rfl hl (by decide) rfl (fun ls hl => ?_)
      refine lv_aload_n hx hb d_Inflow_add_30 rfl (lv_at hl 2 rfl) ?_
      refine va_get (D := D) (ci := 2) (v := .ref h_words) (C := R_Inflow) (T := F_Inflow) (N := 3) hx hb htw i_Inflow hown hK hP 0 rfl rfl 0 (by decide) (htw _ in17) (fun _ h9 => h9) rfl d_Inflow_add_31 ?_
      refine lv_iload_n hx hb d_Inflow_add_34 rfl (lv_at hl 1 rfl) ?_
      refine lv_iload_n hx hb d_Inflow_add_35 rfl (lv_at hl 3 rfl) ?_
      refine lv_iconst (v := 1) hx hb d_Inflow_add_36 (by decide) ?_
      refine lv_icmp_ne (tgt := 51) hx hb d_Inflow_add_37 (by decide) (fun c37 => ?_) (fun c37 => ?_)
      · have hf := it_f hf c37
        refine lv_aload_n hx hb d_Inflow_add_51 rfl (lv_at hl 2 rfl) ?_
        refine va_get (D := D) (ci := 2) (v := .ref h_words) (C := R_Inflow) (T := F_Inflow) (N := 3) hx hb htw i_Inflow hown hK hP 0 rfl rfl 0 (by decide) (htw _ in17) (fun _ h9 => h9) rfl d_Inflow_add_52 ?_
        refine lv_iload_n hx hb d_Inflow_add_55 rfl (lv_at hl 1 rfl) ?_
        by_cases g56 : (f_count >>> ((5 : Int32) &&& 31)) < 0 ∨ n_words ≤ (f_count >>> ((5 : Int32) &&& 31)).toNatClampNeg
        · exact no_some (it_t hf g56)
        have hf := it_f hf g56
        refine va_iald hx hb hK hP 1 0 rfl rfl g56 d_Inflow_add_56 ?_
        refine lv_iload_n hx hb d_Inflow_add_57 rfl (lv_at hl 0 rfl) ?_
        refine lv_iconst (v := (-1)) hx hb d_Inflow_add_58 (by decide) ?_
        refine lv_ixor hx hb d_Inflow_add_59 ?_
        refine lv_iand hx hb d_Inflow_add_60 ?_
        exact w_Inflow_add_61 h0 h_words f_next n_words o_f_count o_g_words C0 hA ((g_words (f_count >>> ((5 : Int32) &&& 31)).toNatClampNeg) &&& (((1 : Int32) <<< ((f_count &&& (31 : Int32)) &&& 31)) ^^^ (-1 : Int32))) (f_count >>> ((5 : Int32) &&& 31)) f_count g_words _ _ ls hP hD hS (lv_sub hl [2] rfl) hf
      · have hf := it_t hf c37
        refine lv_aload_n hx hb d_Inflow_add_40 rfl (lv_at hl 2 rfl) ?_
        refine va_get (D := D) (ci := 2) (v := .ref h_words) (C := R_Inflow) (T := F_Inflow) (N := 3) hx hb htw i_Inflow hown hK hP 0 rfl rfl 0 (by decide) (htw _ in17) (fun _ h9 => h9) rfl d_Inflow_add_41 ?_
        refine lv_iload_n hx hb d_Inflow_add_44 rfl (lv_at hl 1 rfl) ?_
        by_cases g45 : (f_count >>> ((5 : Int32) &&& 31)) < 0 ∨ n_words ≤ (f_count >>> ((5 : Int32) &&& 31)).toNatClampNeg
        · exact no_some (it_t hf g45)
        have hf := it_f hf g45
        refine va_iald hx hb hK hP 1 0 rfl rfl g45 d_Inflow_add_45 ?_
        refine lv_iload_n hx hb d_Inflow_add_46 rfl (lv_at hl 0 rfl) ?_
        refine lv_ior hx hb d_Inflow_add_47 ?_
        refine lv_goto (tgt := 61) hx hb d_Inflow_add_48 (by decide) ?_
        exact w_Inflow_add_61 h0 h_words f_next n_words o_f_count o_g_words C0 hA ((g_words (f_count >>> ((5 : Int32) &&& 31)).toNatClampNeg) ||| ((1 : Int32) <<< ((f_count &&& (31 : Int32)) &&& 31))) (f_count >>> ((5 : Int32) &&& 31)) f_count g_words _ _ ls hP hD hS (lv_sub hl [2] rfl) hf
-- Inflow_goTo
abbrev RM_Inflow_goTo : Room := { frames := 0, cells := 0, slots := 0, locals := 0 }
def ws_Inflow_goTo : List Cond := .code y_Inflow_goTo b_Inflow_goTo 2 none :: W_all
def wd_Inflow_goTo (cI cZ cJ : ClassId) (tq : Nat → Nat) (h0 : Nat) (h_words : Nat) (f_count : Int32) (f_next : Int32) : va_W := [(h0, .inr (2, [.ref h_words, .int f_count, .int f_next]))]
def F_Inflow_goTo (x1 : Int32) (f_next : Int32) : Option (Int32) :=
  (some x1)
set_option maxHeartbeats 4000000 in
set_option maxRecDepth 100000 in
theorem c_Inflow_goTo (l : Launch) (D : va_G) (cI cZ cJ : ClassId) (tq : Nat → Nat) (h0 : Nat) (h_words : Nat) (sz : Nat) (f_count : Int32) (f_next : Int32) (x1 : Int32) (o_f_next : Int32) (hf : F_Inflow_goTo x1 f_next = some o_f_next) : Met l y_Inflow_goTo ws_Inflow_goTo RM_Inflow_goTo (va_Pc [.ref h0, .int x1] (Pg D cI cZ cJ tq (wd_Inflow_goTo cI cZ cJ tq h0 h_words f_count f_next) sz)) (qV D cI cZ cJ (va_A (wd_Inflow_goTo cI cZ cJ tq h0 h_words f_count f_next) sz) (wd_Inflow_goTo cI cZ cJ tq h0 h_words f_count o_f_next)) 0 0 (va_A (wd_Inflow_goTo cI cZ cJ tq h0 h_words f_count f_next) sz) := by
  refine Met.ofW (cc := b_Inflow_goTo) (maxL := 2) (ret := none) (by decide) rfl ?_
  intro p e s m args below meth c s₁ B hml hv
  obtain ⟨rfl, hsz, hP, hK, hD0, hG⟩ := hv
  have hx := B.exec
  have hb := B.bytes
  have hr := B.returns
  have htw : ∀ w ∈ W_all, w.before [.ref h0, .int x1].toArray s = true := fun w h => atoms_spec (ws := ws_Inflow_goTo) B.pre w (List.mem_cons_of_mem _ h)
  have hown : s.vm.findClass R_Inflow = some m.cls := findClass_of_methodNamed B.named
  have hlocks := B.notSynchronized
  subst hsz
  have hD := hD0.self (sz := s.heap.size)
  generalize hAe : va_A (wd_Inflow_goTo cI cZ cJ tq h0 h_words f_count f_next) s.heap.size = A at hD hG ⊢
  have hA : ∀ q : Nat, s.heap.size ≤ q → A q := fun q h => by rw [← hAe]; exact Or.inr h
  have hS : va_S A s.heap s.heap [] := va_S.rf
  have C0 : cx p s m meth c [.ref h0, .int x1].toArray b_Inflow_goTo none 2 R_Inflow D cI cZ cJ tq A := ⟨hx, hb, hr, hml, hown, htw, hlocks, hK, hG⟩
  have hl := lv_entry ([.ref h0, .int x1]) (n := 2) (Nat.le_of_ble_eq_true rfl)
  rw [lg_entry_eq]
  generalize (lg_sl ([.ref h0, .int x1]) ++ List.replicate (2 - (lg_sl ([.ref h0, .int x1])).length) Slot.unset).toArray = ls at hl ⊢
  have hl : lv_has ls 2 [(0, .ref h0), (1, .int x1)] := hl
  have hP : va_P D classes (wd_Inflow_goTo cI cZ cJ tq h0 h_words f_count f_next) s.heap := hP
  clear hAe
  unfold F_Inflow_goTo at hf
  refine lv_aload_n hx hb d_Inflow_goTo_0 rfl (lv_at hl 0 rfl) ?_
  refine lv_iload_n hx hb d_Inflow_goTo_1 rfl (lv_at hl 1 rfl) ?_
  refine va_put (D := D) (ci := 2) (v := .int x1) (ty := .int) (C := R_Inflow) (T := F_Inflow) (N := 3) hx hb htw i_Inflow t_Inflow t_Inflow_ok n_Inflow hown hK hP hD hS 0 rfl rfl 2 (by decide) (htw _ in19) (fun _ h9 => h9) rfl (by decide +kernel) rfl rfl (Nat.le_of_ble_eq_true rfl) d_Inflow_goTo_2 (fun H locs hP hD hS => ?_)
  have hP : va_P D classes (wd_Inflow_goTo cI cZ cJ tq h0 h_words f_count x1) H := hP
  have hD : va_D A (wd_Inflow_goTo cI cZ cJ tq h0 h_words f_count x1) := hD
  have e0 := Option.some.inj hf
  subst e0
  exact W.vret hx hb hr (fun t ht hW => ⟨⟨(), rfl, trivial, by rw [ht]; exact hP, va_K.moved hW.alike hK, hD⟩, hS.F ht⟩) hS.2.2 d_Inflow_goTo_5 hlocks
-- Inflow_place
abbrev RM_Inflow_place : Room := { frames := 0, cells := 0, slots := 0, locals := 0 }
def ws_Inflow_place : List Cond := .code y_Inflow_place b_Inflow_place 1 (some .int) :: W_all
def wd_Inflow_place (cI cZ cJ : ClassId) (tq : Nat → Nat) (h0 : Nat) (h_words : Nat) (f_count : Int32) (f_next : Int32) : va_W := [(h0, .inr (2, [.ref h_words, .int f_count, .int f_next]))]
def F_Inflow_place (f_next : Int32) : Option (Int32) :=
  (some f_next)
set_option maxHeartbeats 4000000 in
set_option maxRecDepth 100000 in
theorem c_Inflow_place (l : Launch) (D : va_G) (cI cZ cJ : ClassId) (tq : Nat → Nat) (h0 : Nat) (h_words : Nat) (sz : Nat) (f_count : Int32) (f_next : Int32) (o_r : Int32) (hf : F_Inflow_place f_next = some o_r) : Met l y_Inflow_place ws_Inflow_place RM_Inflow_place (va_Pc [.ref h0] (Pg D cI cZ cJ tq (wd_Inflow_place cI cZ cJ tq h0 h_words f_count f_next) sz)) (qI D cI cZ cJ (va_A (wd_Inflow_place cI cZ cJ tq h0 h_words f_count f_next) sz) o_r (wd_Inflow_place cI cZ cJ tq h0 h_words f_count f_next)) 0 0 (va_A (wd_Inflow_place cI cZ cJ tq h0 h_words f_count f_next) sz) := by
  refine Met.ofW (cc := b_Inflow_place) (maxL := 1) (ret := (some .int)) (by decide) rfl ?_
  intro p e s m args below meth c s₁ B hml hv
  obtain ⟨rfl, hsz, hP, hK, hD0, hG⟩ := hv
  have hx := B.exec
  have hb := B.bytes
  have hr := B.returns
  have htw : ∀ w ∈ W_all, w.before [.ref h0].toArray s = true := fun w h => atoms_spec (ws := ws_Inflow_place) B.pre w (List.mem_cons_of_mem _ h)
  have hown : s.vm.findClass R_Inflow = some m.cls := findClass_of_methodNamed B.named
  have hlocks := B.notSynchronized
  subst hsz
  have hD := hD0.self (sz := s.heap.size)
  generalize hAe : va_A (wd_Inflow_place cI cZ cJ tq h0 h_words f_count f_next) s.heap.size = A at hD hG ⊢
  have hA : ∀ q : Nat, s.heap.size ≤ q → A q := fun q h => by rw [← hAe]; exact Or.inr h
  have hS : va_S A s.heap s.heap [] := va_S.rf
  have C0 : cx p s m meth c [.ref h0].toArray b_Inflow_place (some .int) 1 R_Inflow D cI cZ cJ tq A := ⟨hx, hb, hr, hml, hown, htw, hlocks, hK, hG⟩
  have hl := lv_entry ([.ref h0]) (n := 1) (Nat.le_of_ble_eq_true rfl)
  rw [lg_entry_eq]
  generalize (lg_sl ([.ref h0]) ++ List.replicate (1 - (lg_sl ([.ref h0])).length) Slot.unset).toArray = ls at hl ⊢
  have hl : lv_has ls 1 [(0, .ref h0)] := hl
  have hP : va_P D classes (wd_Inflow_place cI cZ cJ tq h0 h_words f_count f_next) s.heap := hP
  clear hAe
  unfold F_Inflow_place at hf
  refine lv_aload_n hx hb d_Inflow_place_0 rfl (lv_at hl 0 rfl) ?_
  refine va_get (D := D) (ci := 2) (v := .int f_next) (C := R_Inflow) (T := F_Inflow) (N := 3) hx hb htw i_Inflow hown hK hP 0 rfl rfl 2 (by decide) (htw _ in19) (fun _ h9 => h9) rfl d_Inflow_place_1 ?_
  have e0 := Option.some.inj hf
  subst e0
  exact W.iret (v := f_next) hx hb hr (fun t ht hW => ⟨⟨_, (), rfl, rfl, by rw [ht]; exact hP, va_K.moved hW.alike hK, hD⟩, hS.F ht⟩) hS.2.2 d_Inflow_place_4 hlocks
-- Inflow_take
abbrev RM_Inflow_take : Room := { frames := 0, cells := 0, slots := 0, locals := 0 }
def ws_Inflow_take : List Cond := .code y_Inflow_take b_Inflow_take 3 (some .int) :: W_all
def wd_Inflow_take (cI cZ cJ : ClassId) (tq : Nat → Nat) (h0 : Nat) (h_words : Nat) (f_count : Int32) (f_next : Int32) (n_words : Nat) (g_words : Nat → Int32) : va_W := [(h0, .inr (2, [.ref h_words, .int f_count, .int f_next])), (h_words, .inl (cI, n_words, .inl g_words))]
def F_Inflow_take (f_count : Int32) (f_next : Int32) (n_words : Nat) (g_words : Nat → Int32) : Option (Int32 × Int32) :=
  (if f_count ≤ f_next then (some ((-1), f_next)) else (if (f_next >>> ((5 : Int32) &&& 31)) < 0 then (some ((-1), f_next)) else (if (f_next >>> ((5 : Int32) &&& 31)) < (nI n_words) then (if (f_next >>> ((5 : Int32) &&& 31)) < 0 ∨ n_words ≤ (f_next >>> ((5 : Int32) &&& 31)).toNatClampNeg then none else (some (((ushr (g_words (f_next >>> ((5 : Int32) &&& 31)).toNatClampNeg) (f_next &&& (31 : Int32))) &&& (1 : Int32)), (f_next + (1 : Int32))))) else (some ((-1), f_next)))))
set_option maxHeartbeats 4000000 in
set_option maxRecDepth 100000 in
theorem c_Inflow_take (l : Launch) (D : va_G) (cI cZ cJ : ClassId) (tq : Nat → Nat) (h0 : Nat) (h_words : Nat) (sz : Nat) (f_count : Int32) (f_next : Int32) (n_words : Nat) (g_words : Nat → Int32) (o_r : Int32) (o_f_next : Int32) (hf : F_Inflow_take f_count f_next n_words g_words = some (o_r, o_f_next)) : Met l y_Inflow_take ws_Inflow_take RM_Inflow_take (va_Pc [.ref h0] (Pg D cI cZ cJ tq (wd_Inflow_take cI cZ cJ tq h0 h_words f_count f_next n_words g_words) sz)) (qI D cI cZ cJ (va_A (wd_Inflow_take cI cZ cJ tq h0 h_words f_count f_next n_words g_words) sz) o_r (wd_Inflow_take cI cZ cJ tq h0 h_words f_count o_f_next n_words g_words)) 0 0 (va_A (wd_Inflow_take cI cZ cJ tq h0 h_words f_count f_next n_words g_words) sz) := by
  refine Met.ofW (cc := b_Inflow_take) (maxL := 3) (ret := (some .int)) (by decide) rfl ?_
  intro p e s m args below meth c s₁ B hml hv
  obtain ⟨rfl, hsz, hP, hK, hD0, hG⟩ := hv
  have hx := B.exec
  have hb := B.bytes
  have hr := B.returns
  have htw : ∀ w ∈ W_all, w.before [.ref h0].toArray s = true := fun w h => atoms_spec (ws := ws_Inflow_take) B.pre w (List.mem_cons_of_mem _ h)
  have hown : s.vm.findClass R_Inflow = some m.cls := findClass_of_methodNamed B.named
  have hlocks := B.notSynchronized
  subst hsz
  have hD := hD0.self (sz := s.heap.size)
  generalize hAe : va_A (wd_Inflow_take cI cZ cJ tq h0 h_words f_count f_next n_words g_words) s.heap.size = A at hD hG ⊢
  have hA : ∀ q : Nat, s.heap.size ≤ q → A q := fun q h => by rw [← hAe]; exact Or.inr h
  have hS : va_S A s.heap s.heap [] := va_S.rf
  have C0 : cx p s m meth c [.ref h0].toArray b_Inflow_take (some .int) 3 R_Inflow D cI cZ cJ tq A := ⟨hx, hb, hr, hml, hown, htw, hlocks, hK, hG⟩
  have hl := lv_entry ([.ref h0]) (n := 3) (Nat.le_of_ble_eq_true rfl)
  rw [lg_entry_eq]
  generalize (lg_sl ([.ref h0]) ++ List.replicate (3 - (lg_sl ([.ref h0])).length) Slot.unset).toArray = ls at hl ⊢
  have hl : lv_has ls 3 [(0, .ref h0)] := hl
  have hP : va_P D classes (wd_Inflow_take cI cZ cJ tq h0 h_words f_count f_next n_words g_words) s.heap := hP
  clear hAe
  unfold F_Inflow_take at hf
  refine lv_aload_n hx hb d_Inflow_take_0 rfl (lv_at hl 0 rfl) ?_
  refine va_get (D := D) (ci := 2) (v := .int f_next) (C := R_Inflow) (T := F_Inflow) (N := 3) hx hb htw i_Inflow hown hK hP 0 rfl rfl 2 (by decide) (htw _ in19) (fun _ h9 => h9) rfl d_Inflow_take_1 ?_
  refine lv_iconst (v := 5) hx hb d_Inflow_take_4 (by decide) ?_
  refine lv_ishr hx hb d_Inflow_take_5 ?_
  refine lv_istore_n (lv' := [(1, .int (f_next >>> ((5 : Int32) &&& 31))), (0, .ref h0)]) hx hb d_Inflow_take_6 rfl hl (by decide) rfl (fun ls hl => ?_)
  refine lv_aload_n hx hb d_Inflow_take_7 rfl (lv_at hl 1 rfl) ?_
  refine va_get (D := D) (ci := 2) (v := .int f_next) (C := R_Inflow) (T := F_Inflow) (N := 3) hx hb htw i_Inflow hown hK hP 0 rfl rfl 2 (by decide) (htw _ in19) (fun _ h9 => h9) rfl d_Inflow_take_8 ?_
  refine lv_aload_n hx hb d_Inflow_take_11 rfl (lv_at hl 1 rfl) ?_
  refine va_get (D := D) (ci := 2) (v := .int f_count) (C := R_Inflow) (T := F_Inflow) (N := 3) hx hb htw i_Inflow hown hK hP 0 rfl rfl 1 (by decide) (htw _ in18) (fun _ h9 => h9) rfl d_Inflow_take_12 ?_
  refine lv_icmp_ge (tgt := 31) hx hb d_Inflow_take_15 (by decide) (fun c15 => ?_) (fun c15 => ?_)
  · have hf := it_t hf c15
    refine lv_iconst (v := (-1)) hx hb d_Inflow_take_31 (by decide) ?_
    obtain ⟨e0, e1⟩ := so2 hf
    subst e0; subst e1
    exact W.iret (v := (-1)) hx hb hr (fun t ht hW => ⟨⟨_, (), rfl, rfl, by rw [ht]; exact hP, va_K.moved hW.alike hK, hD⟩, hS.F ht⟩) hS.2.2 d_Inflow_take_32 hlocks
  · have hf := it_f hf c15
    refine lv_iload_n hx hb d_Inflow_take_18 rfl (lv_at hl 0 rfl) ?_
    refine lv_if_lt (tgt := 31) hx hb d_Inflow_take_19 (by decide) (fun c19 => ?_) (fun c19 => ?_)
    · have hf := it_t hf c19
      refine lv_iconst (v := (-1)) hx hb d_Inflow_take_31 (by decide) ?_
      obtain ⟨e0, e1⟩ := so2 hf
      subst e0; subst e1
      exact W.iret (v := (-1)) hx hb hr (fun t ht hW => ⟨⟨_, (), rfl, rfl, by rw [ht]; exact hP, va_K.moved hW.alike hK, hD⟩, hS.F ht⟩) hS.2.2 d_Inflow_take_32 hlocks
    · have hf := it_f hf c19
      refine lv_iload_n hx hb d_Inflow_take_22 rfl (lv_at hl 0 rfl) ?_
      refine lv_aload_n hx hb d_Inflow_take_23 rfl (lv_at hl 1 rfl) ?_
      refine va_get (D := D) (ci := 2) (v := .ref h_words) (C := R_Inflow) (T := F_Inflow) (N := 3) hx hb htw i_Inflow hown hK hP 0 rfl rfl 0 (by decide) (htw _ in17) (fun _ h9 => h9) rfl d_Inflow_take_24 ?_
      refine va_alen (v := nI n_words) hx hb hK hP 1 0 rfl rfl rfl d_Inflow_take_27 ?_
      refine lv_icmp_lt (tgt := 33) hx hb d_Inflow_take_28 (by decide) (fun c28 => ?_) (fun c28 => ?_)
      · have hf := it_t hf c28
        refine lv_aload_n hx hb d_Inflow_take_33 rfl (lv_at hl 1 rfl) ?_
        refine va_get (D := D) (ci := 2) (v := .ref h_words) (C := R_Inflow) (T := F_Inflow) (N := 3) hx hb htw i_Inflow hown hK hP 0 rfl rfl 0 (by decide) (htw _ in17) (fun _ h9 => h9) rfl d_Inflow_take_34 ?_
        refine lv_iload_n hx hb d_Inflow_take_37 rfl (lv_at hl 0 rfl) ?_
        by_cases g38 : (f_next >>> ((5 : Int32) &&& 31)) < 0 ∨ n_words ≤ (f_next >>> ((5 : Int32) &&& 31)).toNatClampNeg
        · exact no_some (it_t hf g38)
        have hf := it_f hf g38
        refine va_iald hx hb hK hP 1 0 rfl rfl g38 d_Inflow_take_38 ?_
        refine lv_aload_n hx hb d_Inflow_take_39 rfl (lv_at hl 1 rfl) ?_
        refine va_get (D := D) (ci := 2) (v := .int f_next) (C := R_Inflow) (T := F_Inflow) (N := 3) hx hb htw i_Inflow hown hK hP 0 rfl rfl 2 (by decide) (htw _ in19) (fun _ h9 => h9) rfl d_Inflow_take_40 ?_
        refine lv_bipush (v := 31) hx hb d_Inflow_take_43 (by decide) ?_
        refine lv_iand hx hb d_Inflow_take_45 ?_
        refine lv_iushr (v := (ushr (g_words (f_next >>> ((5 : Int32) &&& 31)).toNatClampNeg) (f_next &&& (31 : Int32)))) hx hb d_Inflow_take_46 rfl ?_
        refine lv_iconst (v := 1) hx hb d_Inflow_take_47 (by decide) ?_
        refine lv_iand hx hb d_Inflow_take_48 ?_
        refine lv_istore_n (lv' := [(2, .int ((ushr (g_words (f_next >>> ((5 : Int32) &&& 31)).toNatClampNeg) (f_next &&& (31 : Int32))) &&& (1 : Int32))), (1, .int (f_next >>> ((5 : Int32) &&& 31))), (0, .ref h0)]) hx hb d_Inflow_take_49 rfl hl (by decide) rfl (fun ls hl => ?_)
        refine lv_aload_n hx hb d_Inflow_take_50 rfl (lv_at hl 2 rfl) ?_
        refine lv_dup hx hb d_Inflow_take_51 rfl ?_
        refine va_get (D := D) (ci := 2) (v := .int f_next) (C := R_Inflow) (T := F_Inflow) (N := 3) hx hb htw i_Inflow hown hK hP 0 rfl rfl 2 (by decide) (htw _ in19) (fun _ h9 => h9) rfl d_Inflow_take_52 ?_
        refine lv_iconst (v := 1) hx hb d_Inflow_take_55 (by decide) ?_
        refine lv_iadd hx hb d_Inflow_take_56 ?_
        refine va_put (D := D) (ci := 2) (v := .int (f_next + (1 : Int32))) (ty := .int) (C := R_Inflow) (T := F_Inflow) (N := 3) hx hb htw i_Inflow t_Inflow t_Inflow_ok n_Inflow hown hK hP hD hS 0 rfl rfl 2 (by decide) (htw _ in19) (fun _ h9 => h9) rfl (by decide +kernel) rfl rfl (Nat.le_of_ble_eq_true rfl) d_Inflow_take_57 (fun H locs hP hD hS => ?_)
        have hP : va_P D classes (wd_Inflow_take cI cZ cJ tq h0 h_words f_count (f_next + (1 : Int32)) n_words g_words) H := hP
        have hD : va_D A (wd_Inflow_take cI cZ cJ tq h0 h_words f_count (f_next + (1 : Int32)) n_words g_words) := hD
        refine lv_iload_n hx hb d_Inflow_take_60 rfl (lv_at hl 0 rfl) ?_
        obtain ⟨e0, e1⟩ := so2 hf
        subst e0; subst e1
        exact W.iret (v := ((ushr (g_words (f_next >>> ((5 : Int32) &&& 31)).toNatClampNeg) (f_next &&& (31 : Int32))) &&& (1 : Int32))) hx hb hr (fun t ht hW => ⟨⟨_, (), rfl, rfl, by rw [ht]; exact hP, va_K.moved hW.alike hK, hD⟩, hS.F ht⟩) hS.2.2 d_Inflow_take_61 hlocks
      · have hf := it_f hf c28
        refine lv_iconst (v := (-1)) hx hb d_Inflow_take_31 (by decide) ?_
        obtain ⟨e0, e1⟩ := so2 hf
        subst e0; subst e1
        exact W.iret (v := (-1)) hx hb hr (fun t ht hW => ⟨⟨_, (), rfl, rfl, by rw [ht]; exact hP, va_K.moved hW.alike hK, hD⟩, hS.F ht⟩) hS.2.2 d_Inflow_take_32 hlocks
-- Places_firstOf
abbrev RM_Places_firstOf : Room := { frames := 0, cells := 0, slots := 0, locals := 0 }
def ws_Places_firstOf : List Cond := .code y_Places_firstOf b_Places_firstOf 1 (some (.array .int)) :: W_all
def wd_Places_firstOf (cI cZ cJ : ClassId) (tq : Nat → Nat)  : va_W := []
def F_Places_firstOf (x0 : Int32) : Option (Nat) :=
  (if x0 = 0 then (some 0) else (if x0 = 1 then (some 1) else (if x0 = 2 then (some 2) else (some 3))))
set_option maxHeartbeats 4000000 in
set_option maxRecDepth 100000 in
theorem c_Places_firstOf (l : Launch) (D : va_G) (cI cZ cJ : ClassId) (tq : Nat → Nat) (sz : Nat) (x0 : Int32) (o_r : Nat) (hf : F_Places_firstOf x0 = some o_r) : Met l y_Places_firstOf ws_Places_firstOf RM_Places_firstOf (va_Pc [.int x0] (Pg D cI cZ cJ tq (wd_Places_firstOf cI cZ cJ tq) sz)) (qT D cI cZ cJ (va_A (wd_Places_firstOf cI cZ cJ tq) sz) (tq o_r) (wd_Places_firstOf cI cZ cJ tq)) 0 0 (va_A (wd_Places_firstOf cI cZ cJ tq) sz) := by
  refine Met.ofW (cc := b_Places_firstOf) (maxL := 1) (ret := (some (.array .int))) (by decide) rfl ?_
  intro p e s m args below meth c s₁ B hml hv
  obtain ⟨rfl, hsz, hP, hK, hD0, hG⟩ := hv
  have hx := B.exec
  have hb := B.bytes
  have hr := B.returns
  have htw : ∀ w ∈ W_all, w.before [.int x0].toArray s = true := fun w h => atoms_spec (ws := ws_Places_firstOf) B.pre w (List.mem_cons_of_mem _ h)
  have hown : s.vm.findClass R_Places = some m.cls := findClass_of_methodNamed B.named
  have hlocks := B.notSynchronized
  subst hsz
  have hD := hD0.self (sz := s.heap.size)
  generalize hAe : va_A (wd_Places_firstOf cI cZ cJ tq) s.heap.size = A at hD hG ⊢
  have hA : ∀ q : Nat, s.heap.size ≤ q → A q := fun q h => by rw [← hAe]; exact Or.inr h
  have hS : va_S A s.heap s.heap [] := va_S.rf
  have C0 : cx p s m meth c [.int x0].toArray b_Places_firstOf (some (.array .int)) 1 R_Places D cI cZ cJ tq A := ⟨hx, hb, hr, hml, hown, htw, hlocks, hK, hG⟩
  have hl := lv_entry ([.int x0]) (n := 1) (Nat.le_of_ble_eq_true rfl)
  rw [lg_entry_eq]
  generalize (lg_sl ([.int x0]) ++ List.replicate (1 - (lg_sl ([.int x0])).length) Slot.unset).toArray = ls at hl ⊢
  have hl : lv_has ls 1 [(0, .int x0)] := hl
  have hP : va_P D classes (wd_Places_firstOf cI cZ cJ tq) s.heap := hP
  clear hAe
  unfold F_Places_firstOf at hf
  refine lv_iload_n hx hb d_Places_firstOf_0 rfl (lv_at hl 0 rfl) ?_
  by_cases s1_0 : x0 = 0
  · have hf := it_t hf s1_0
    refine lv_tableIn (off := 27) (tgt := 28) hx hb d_Places_firstOf_1 (by rw [s1_0]; decide) (by rw [s1_0]; decide) (by rw [s1_0]; decide) (by decide) ?_
    refine va_gets hx hb (hG.2.1 0 (by decide)) hS hown (htw _ in20) (fun _ h9 => h9) d_Places_firstOf_28 ?_
    have e0 := Option.some.inj hf
    subst e0
    exact W.aret (v := .ref (tq 0)) hx hb hr (Or.inr ⟨_, rfl⟩) (Or.inr ⟨_, rfl⟩) (fun t ht hW => ⟨⟨(), _, rfl, trivial, rfl, by rw [ht]; exact hP, va_K.moved hW.alike hK, hD⟩, hS.F ht⟩) hS.2.2 d_Places_firstOf_31 hlocks
  have hf := it_f hf s1_0
  by_cases s1_1 : x0 = 1
  · have hf := it_t hf s1_1
    refine lv_tableIn (off := 31) (tgt := 32) hx hb d_Places_firstOf_1 (by rw [s1_1]; decide) (by rw [s1_1]; decide) (by rw [s1_1]; decide) (by decide) ?_
    refine va_gets hx hb (hG.2.1 1 (by decide)) hS hown (htw _ in21) (fun _ h9 => h9) d_Places_firstOf_32 ?_
    have e0 := Option.some.inj hf
    subst e0
    exact W.aret (v := .ref (tq 1)) hx hb hr (Or.inr ⟨_, rfl⟩) (Or.inr ⟨_, rfl⟩) (fun t ht hW => ⟨⟨(), _, rfl, trivial, rfl, by rw [ht]; exact hP, va_K.moved hW.alike hK, hD⟩, hS.F ht⟩) hS.2.2 d_Places_firstOf_35 hlocks
  have hf := it_f hf s1_1
  by_cases s1_2 : x0 = 2
  · have hf := it_t hf s1_2
    refine lv_tableIn (off := 35) (tgt := 36) hx hb d_Places_firstOf_1 (by rw [s1_2]; decide) (by rw [s1_2]; decide) (by rw [s1_2]; decide) (by decide) ?_
    refine va_gets hx hb (hG.2.1 2 (by decide)) hS hown (htw _ in22) (fun _ h9 => h9) d_Places_firstOf_36 ?_
    have e0 := Option.some.inj hf
    subst e0
    exact W.aret (v := .ref (tq 2)) hx hb hr (Or.inr ⟨_, rfl⟩) (Or.inr ⟨_, rfl⟩) (fun t ht hW => ⟨⟨(), _, rfl, trivial, rfl, by rw [ht]; exact hP, va_K.moved hW.alike hK, hD⟩, hS.F ht⟩) hS.2.2 d_Places_firstOf_39 hlocks
  have hf := it_f hf s1_2
  refine lv_tableOut (tgt := 40) hx hb d_Places_firstOf_1 (by have q0 := sw_ne s1_0; have q1 := sw_ne s1_1; have q2 := sw_ne s1_2; have p0 : (0 : Int32).toInt = 0 := rfl; have p1 : (1 : Int32).toInt = 1 := rfl; have p2 : (2 : Int32).toInt = 2 := rfl; omega) (by decide) ?_
  refine va_gets hx hb (hG.2.1 3 (by decide)) hS hown (htw _ in23) (fun _ h9 => h9) d_Places_firstOf_40 ?_
  have e0 := Option.some.inj hf
  subst e0
  exact W.aret (v := .ref (tq 3)) hx hb hr (Or.inr ⟨_, rfl⟩) (Or.inr ⟨_, rfl⟩) (fun t ht hW => ⟨⟨(), _, rfl, trivial, rfl, by rw [ht]; exact hP, va_K.moved hW.alike hK, hD⟩, hS.F ht⟩) hS.2.2 d_Places_firstOf_43 hlocks
-- Places_looseOf
abbrev RM_Places_looseOf : Room := { frames := 0, cells := 0, slots := 0, locals := 0 }
def ws_Places_looseOf : List Cond := .code y_Places_looseOf b_Places_looseOf 1 (some (.array .int)) :: W_all
def wd_Places_looseOf (cI cZ cJ : ClassId) (tq : Nat → Nat)  : va_W := []
def F_Places_looseOf (x0 : Int32) : Option (Nat) :=
  (if x0 = 0 then (some 4) else (if x0 = 1 then (some 5) else (if x0 = 2 then (some 6) else (some 7))))
set_option maxHeartbeats 4000000 in
set_option maxRecDepth 100000 in
theorem c_Places_looseOf (l : Launch) (D : va_G) (cI cZ cJ : ClassId) (tq : Nat → Nat) (sz : Nat) (x0 : Int32) (o_r : Nat) (hf : F_Places_looseOf x0 = some o_r) : Met l y_Places_looseOf ws_Places_looseOf RM_Places_looseOf (va_Pc [.int x0] (Pg D cI cZ cJ tq (wd_Places_looseOf cI cZ cJ tq) sz)) (qT D cI cZ cJ (va_A (wd_Places_looseOf cI cZ cJ tq) sz) (tq o_r) (wd_Places_looseOf cI cZ cJ tq)) 0 0 (va_A (wd_Places_looseOf cI cZ cJ tq) sz) := by
  refine Met.ofW (cc := b_Places_looseOf) (maxL := 1) (ret := (some (.array .int))) (by decide) rfl ?_
  intro p e s m args below meth c s₁ B hml hv
  obtain ⟨rfl, hsz, hP, hK, hD0, hG⟩ := hv
  have hx := B.exec
  have hb := B.bytes
  have hr := B.returns
  have htw : ∀ w ∈ W_all, w.before [.int x0].toArray s = true := fun w h => atoms_spec (ws := ws_Places_looseOf) B.pre w (List.mem_cons_of_mem _ h)
  have hown : s.vm.findClass R_Places = some m.cls := findClass_of_methodNamed B.named
  have hlocks := B.notSynchronized
  subst hsz
  have hD := hD0.self (sz := s.heap.size)
  generalize hAe : va_A (wd_Places_looseOf cI cZ cJ tq) s.heap.size = A at hD hG ⊢
  have hA : ∀ q : Nat, s.heap.size ≤ q → A q := fun q h => by rw [← hAe]; exact Or.inr h
  have hS : va_S A s.heap s.heap [] := va_S.rf
  have C0 : cx p s m meth c [.int x0].toArray b_Places_looseOf (some (.array .int)) 1 R_Places D cI cZ cJ tq A := ⟨hx, hb, hr, hml, hown, htw, hlocks, hK, hG⟩
  have hl := lv_entry ([.int x0]) (n := 1) (Nat.le_of_ble_eq_true rfl)
  rw [lg_entry_eq]
  generalize (lg_sl ([.int x0]) ++ List.replicate (1 - (lg_sl ([.int x0])).length) Slot.unset).toArray = ls at hl ⊢
  have hl : lv_has ls 1 [(0, .int x0)] := hl
  have hP : va_P D classes (wd_Places_looseOf cI cZ cJ tq) s.heap := hP
  clear hAe
  unfold F_Places_looseOf at hf
  refine lv_iload_n hx hb d_Places_looseOf_0 rfl (lv_at hl 0 rfl) ?_
  by_cases s1_0 : x0 = 0
  · have hf := it_t hf s1_0
    refine lv_tableIn (off := 27) (tgt := 28) hx hb d_Places_looseOf_1 (by rw [s1_0]; decide) (by rw [s1_0]; decide) (by rw [s1_0]; decide) (by decide) ?_
    refine va_gets hx hb (hG.2.1 4 (by decide)) hS hown (htw _ in24) (fun _ h9 => h9) d_Places_looseOf_28 ?_
    have e0 := Option.some.inj hf
    subst e0
    exact W.aret (v := .ref (tq 4)) hx hb hr (Or.inr ⟨_, rfl⟩) (Or.inr ⟨_, rfl⟩) (fun t ht hW => ⟨⟨(), _, rfl, trivial, rfl, by rw [ht]; exact hP, va_K.moved hW.alike hK, hD⟩, hS.F ht⟩) hS.2.2 d_Places_looseOf_31 hlocks
  have hf := it_f hf s1_0
  by_cases s1_1 : x0 = 1
  · have hf := it_t hf s1_1
    refine lv_tableIn (off := 31) (tgt := 32) hx hb d_Places_looseOf_1 (by rw [s1_1]; decide) (by rw [s1_1]; decide) (by rw [s1_1]; decide) (by decide) ?_
    refine va_gets hx hb (hG.2.1 5 (by decide)) hS hown (htw _ in25) (fun _ h9 => h9) d_Places_looseOf_32 ?_
    have e0 := Option.some.inj hf
    subst e0
    exact W.aret (v := .ref (tq 5)) hx hb hr (Or.inr ⟨_, rfl⟩) (Or.inr ⟨_, rfl⟩) (fun t ht hW => ⟨⟨(), _, rfl, trivial, rfl, by rw [ht]; exact hP, va_K.moved hW.alike hK, hD⟩, hS.F ht⟩) hS.2.2 d_Places_looseOf_35 hlocks
  have hf := it_f hf s1_1
  by_cases s1_2 : x0 = 2
  · have hf := it_t hf s1_2
    refine lv_tableIn (off := 35) (tgt := 36) hx hb d_Places_looseOf_1 (by rw [s1_2]; decide) (by rw [s1_2]; decide) (by rw [s1_2]; decide) (by decide) ?_
    refine va_gets hx hb (hG.2.1 6 (by decide)) hS hown (htw _ in26) (fun _ h9 => h9) d_Places_looseOf_36 ?_
    have e0 := Option.some.inj hf
    subst e0
    exact W.aret (v := .ref (tq 6)) hx hb hr (Or.inr ⟨_, rfl⟩) (Or.inr ⟨_, rfl⟩) (fun t ht hW => ⟨⟨(), _, rfl, trivial, rfl, by rw [ht]; exact hP, va_K.moved hW.alike hK, hD⟩, hS.F ht⟩) hS.2.2 d_Places_looseOf_39 hlocks
  have hf := it_f hf s1_2
  refine lv_tableOut (tgt := 40) hx hb d_Places_looseOf_1 (by have q0 := sw_ne s1_0; have q1 := sw_ne s1_1; have q2 := sw_ne s1_2; have p0 : (0 : Int32).toInt = 0 := rfl; have p1 : (1 : Int32).toInt = 1 := rfl; have p2 : (2 : Int32).toInt = 2 := rfl; omega) (by decide) ?_
  refine va_gets hx hb (hG.2.1 7 (by decide)) hS hown (htw _ in27) (fun _ h9 => h9) d_Places_looseOf_40 ?_
  have e0 := Option.some.inj hf
  subst e0
  exact W.aret (v := .ref (tq 7)) hx hb hr (Or.inr ⟨_, rfl⟩) (Or.inr ⟨_, rfl⟩) (fun t ht hW => ⟨⟨(), _, rfl, trivial, rfl, by rw [ht]; exact hP, va_K.moved hW.alike hK, hD⟩, hS.F ht⟩) hS.2.2 d_Places_looseOf_43 hlocks
-- Places_init
abbrev RM_Places_init : Room := { frames := 1, cells := 1, slots := 32, locals := 24 }
def ws_Places_init : List Cond := .code y_Places_init b_Places_init 2 none :: W_all
def wd_Places_init (cI cZ cJ : ClassId) (tq : Nat → Nat) (h0 : Nat) : va_W := [(h0, .inr (3, [.int 0, .null, .null, .null]))]
def wdp_Places_init (cI cZ cJ : ClassId) (tq : Nat → Nat) (h0 : Nat) (qq : Nat → Nat) (o_f_template : Int32) (o_t_first : Nat) (o_t_loosePlaces : Nat) (o_n_now : Nat) (o_g_now : Nat → Int32) : va_W := [(h0, .inr (3, [.int o_f_template, .ref (tq o_t_first), .ref (qq 0), .ref (tq o_t_loosePlaces)])), ((qq 0), .inl (cI, o_n_now, .inl o_g_now))]
def F_Places_init (x1 : Int32) : Option (Int32 × Nat × Nat × Nat × (Nat → Int32)) :=
  (bd1 (F_Places_firstOf x1) (fun r11 => (if ¬ r11 < tbK then none else (bd1 (F_Places_looseOf x1) (fun r33 => (some (x1, r11, r33, (tbN r11), (tbV r11))))))))
set_option maxHeartbeats 4000000 in
set_option maxRecDepth 100000 in
theorem c_Places_init (l : Launch) (D : va_G) (cI cZ cJ : ClassId) (tq : Nat → Nat) (h0 : Nat) (sz : Nat) (x1 : Int32) (o_f_template : Int32) (o_t_first : Nat) (o_t_loosePlaces : Nat) (o_n_now : Nat) (o_g_now : Nat → Int32) (hf : F_Places_init x1 = some (o_f_template, o_t_first, o_t_loosePlaces, o_n_now, o_g_now)) : Met l y_Places_init ws_Places_init RM_Places_init (va_Pc [.ref h0, .int x1] (Pg D cI cZ cJ tq (wd_Places_init cI cZ cJ tq h0) sz)) (qC D cI cZ cJ (va_A (wd_Places_init cI cZ cJ tq h0) sz) (fun qq => (wdp_Places_init cI cZ cJ tq h0 qq o_f_template o_t_first o_t_loosePlaces o_n_now o_g_now))) 1 32 (va_A (wd_Places_init cI cZ cJ tq h0) sz) := by
  refine Met.ofW (cc := b_Places_init) (maxL := 2) (ret := none) (by decide) rfl ?_
  intro p e s m args below meth c s₁ B hml hv
  obtain ⟨rfl, hsz, hP, hK, hD0, hG⟩ := hv
  have hx := B.exec
  have hb := B.bytes
  have hr := B.returns
  have htw : ∀ w ∈ W_all, w.before [.ref h0, .int x1].toArray s = true := fun w h => atoms_spec (ws := ws_Places_init) B.pre w (List.mem_cons_of_mem _ h)
  have hown : s.vm.findClass R_Places = some m.cls := findClass_of_methodNamed B.named
  have hlocks := B.notSynchronized
  have hin : meth.name = "<init>" := (name_of_methodNamed B.named B.method).1
  subst hsz
  have hD := hD0.self (sz := s.heap.size)
  generalize hAe : va_A (wd_Places_init cI cZ cJ tq h0) s.heap.size = A at hD hG ⊢
  have hA : ∀ q : Nat, s.heap.size ≤ q → A q := fun q h => by rw [← hAe]; exact Or.inr h
  have hS : va_S A s.heap s.heap [] := va_S.rf
  have C0 : cx p s m meth c [.ref h0, .int x1].toArray b_Places_init none 2 R_Places D cI cZ cJ tq A := ⟨hx, hb, hr, hml, hown, htw, hlocks, hK, hG⟩
  have hl := lv_entry ([.ref h0, .int x1]) (n := 2) (Nat.le_of_ble_eq_true rfl)
  rw [lg_entry_eq]
  generalize (lg_sl ([.ref h0, .int x1]) ++ List.replicate (2 - (lg_sl ([.ref h0, .int x1])).length) Slot.unset).toArray = ls at hl ⊢
  have hl : lv_has ls 2 [(0, .ref h0), (1, .int x1)] := hl
  have hP : va_P D classes (wd_Places_init cI cZ cJ tq h0) s.heap := hP
  clear hAe
  unfold F_Places_init at hf
  refine lv_aload_n hx hb d_Places_init_0 rfl (lv_at hl 0 rfl) ?_
  refine W.objInit hx hb hown (htw _ in28) (htw _ in1) (htw _ in2) rfl (by rw [hml]; exact hl.1) rfl d_Places_init_1 (Nat.le_of_ble_eq_true rfl) (Nat.le_of_ble_eq_true rfl) ?_
  refine W.eq (g2 := F0 m 4 ls []) rfl ?_
  refine lv_aload_n hx hb d_Places_init_4 rfl (lv_at hl 0 rfl) ?_
  refine lv_iload_n hx hb d_Places_init_5 rfl (lv_at hl 1 rfl) ?_
  refine va_putF (D := D) (ci := 3) (v := .int x1) (ty := .int) (C := R_Places) (T := F_Places) (N := 4) hx hb htw i_Places t_Places t_Places_ok n_Places hown hK hP hD hS 0 rfl rfl 0 (by decide) (htw _ in29) (fun _ h9 => h9) rfl hin rfl (by decide +kernel) rfl rfl (Nat.le_of_ble_eq_true rfl) d_Places_init_6 (fun H locs hP hD hS => ?_)
  have hP : va_P D classes ([(h0, .inr (3, [.int x1, .null, .null, .null]))] : va_W) H := hP
  have hD : va_D A ([(h0, .inr (3, [.int x1, .null, .null, .null]))] : va_W) := hD
  refine lv_aload_n hx hb d_Places_init_9 rfl (lv_at hl 0 rfl) ?_
  refine lv_iload_n hx hb d_Places_init_10 rfl (lv_at hl 1 rfl) ?_
  obtain ⟨r11, e11, hf⟩ := bd1_some hf
  refine g_callt (wc := (wd_Places_firstOf cI cZ cJ tq )) (w1 := (wd_Places_firstOf cI cZ cJ tq)) (ws' := ([(h0, .inr (3, [.int x1, .null, .null, .null]))] : va_W)) (va_runS (As := [.int x1]) (rest := [.ref h0]) ⟨hx, hb, hml, hown, htw⟩ (c_Places_firstOf l D cI cZ cJ tq _  x1 r11 e11) (va_cwS 1 htw (gd_S in31 in32 in33 in30) rfl rfl rfl (by decide +kernel) ⟨Nat.le_of_ble_eq_true rfl, Nat.le_of_ble_eq_true rfl⟩) (preS_of hG hS (va_free (wc := (wd_Places_firstOf cI cZ cJ tq )) hD hS hA [] rfl) hK (hP.sub (ws' := (wd_Places_firstOf cI cZ cJ tq )) [] rfl) (hD.sub (ws' := (wd_Places_firstOf cI cZ cJ tq )) [] (by decide) rfl)) rfl rfl hl.1 rfl (lv_room (Nat.le_of_ble_eq_true rfl)) d_Places_init_11 ⟨Nat.le_of_ble_eq_true rfl, Nat.le_of_ble_eq_true rfl⟩) hP hD hS hA [] [0] [0] rfl rfl (by decide) (by decide) (by decide) rfl (fun H locs hP hD hS => ?_)
  refine va_putF (D := D) (ci := 3) (v := .ref (tq r11)) (ty := .array .int) (C := R_Places) (T := F_Places) (N := 4) hx hb htw i_Places t_Places t_Places_ok n_Places hown hK hP hD hS 0 rfl rfl 1 (by decide) (htw _ in34) (fun _ h9 => h9) rfl hin rfl (by decide +kernel) rfl rfl (Nat.le_of_ble_eq_true rfl) d_Places_init_14 (fun H locs hP hD hS => ?_)
  have hP : va_P D classes ([(h0, .inr (3, [.int x1, .ref (tq r11), .null, .null]))] : va_W) H := hP
  have hD : va_D A ([(h0, .inr (3, [.int x1, .ref (tq r11), .null, .null]))] : va_W) := hD
  refine lv_aload_n hx hb d_Places_init_17 rfl (lv_at hl 0 rfl) ?_
  refine lv_aload_n hx hb d_Places_init_18 rfl (lv_at hl 0 rfl) ?_
  refine va_get (D := D) (ci := 3) (v := .ref (tq r11)) (C := R_Places) (T := F_Places) (N := 4) hx hb htw i_Places hown hK hP 0 rfl rfl 1 (by decide) (htw _ in34) (fun _ h9 => h9) rfl d_Places_init_19 ?_
  by_cases gk22 : ¬ r11 < tbK
  · exact no_some (it_t hf gk22)
  have hf := it_f hf gk22
  refine g_clone (k := r11) hx hb (hml.trans hl.1.symm) hown (htw _ in35) (htw _ in36) (htw _ in37) (htw _ in38) (htw _ in39) (hG.2.2.2.2.1 ("[I", "java/lang/Cloneable") (by decide +kernel)) hG (Decidable.not_not.mp gk22) hK hP hD hS hA (Nat.le_of_ble_eq_true rfl) (Nat.le_of_ble_eq_true rfl) (Nat.le_of_ble_eq_true rfl) (Nat.le_of_ble_eq_true rfl) d_Places_init_22 (fun q22 H hP hD hS => ?_)
  have hP : va_P D classes ([(h0, .inr (3, [.int x1, .ref (tq r11), .null, .null])), (q22, .inl (cI, (tbN r11), .inl (tbV r11)))] : va_W) H := hP
  have hD : va_D A ([(h0, .inr (3, [.int x1, .ref (tq r11), .null, .null])), (q22, .inl (cI, (tbN r11), .inl (tbV r11)))] : va_W) := hD
  refine va_castA hx hb hown (htw _ in40) hP 1 rfl (kI hK) d_Places_init_25 ?_
  refine va_putF (D := D) (ci := 3) (v := .ref q22) (ty := .array .int) (C := R_Places) (T := F_Places) (N := 4) hx hb htw i_Places t_Places t_Places_ok n_Places hown hK hP hD hS 0 rfl rfl 2 (by decide) (htw _ in41) (fun _ h9 => h9) rfl hin rfl (by decide +kernel) rfl rfl (Nat.le_of_ble_eq_true rfl) d_Places_init_28 (fun H locs hP hD hS => ?_)
  have hP : va_P D classes ([(h0, .inr (3, [.int x1, .ref (tq r11), .ref q22, .null])), (q22, .inl (cI, (tbN r11), .inl (tbV r11)))] : va_W) H := hP
  have hD : va_D A ([(h0, .inr (3, [.int x1, .ref (tq r11), .ref q22, .null])), (q22, .inl (cI, (tbN r11), .inl (tbV r11)))] : va_W) := hD
  refine lv_aload_n hx hb d_Places_init_31 rfl (lv_at hl 0 rfl) ?_
  refine lv_iload_n hx hb d_Places_init_32 rfl (lv_at hl 1 rfl) ?_
  obtain ⟨r33, e33, hf⟩ := bd1_some hf
  refine g_callt (wc := (wd_Places_looseOf cI cZ cJ tq )) (w1 := (wd_Places_looseOf cI cZ cJ tq)) (ws' := ([(h0, .inr (3, [.int x1, .ref (tq r11), .ref q22, .null])), (q22, .inl (cI, (tbN r11), .inl (tbV r11)))] : va_W)) (va_runS (As := [.int x1]) (rest := [.ref h0]) ⟨hx, hb, hml, hown, htw⟩ (c_Places_looseOf l D cI cZ cJ tq _  x1 r33 e33) (va_cwS 1 htw (gd_S in43 in44 in33 in42) rfl rfl rfl (by decide +kernel) ⟨Nat.le_of_ble_eq_true rfl, Nat.le_of_ble_eq_true rfl⟩) (preS_of hG hS (va_free (wc := (wd_Places_looseOf cI cZ cJ tq )) hD hS hA [] rfl) hK (hP.sub (ws' := (wd_Places_looseOf cI cZ cJ tq )) [] rfl) (hD.sub (ws' := (wd_Places_looseOf cI cZ cJ tq )) [] (by decide) rfl)) rfl rfl hl.1 rfl (lv_room (Nat.le_of_ble_eq_true rfl)) d_Places_init_33 ⟨Nat.le_of_ble_eq_true rfl, Nat.le_of_ble_eq_true rfl⟩) hP hD hS hA [] [0, 1] [0, 1] rfl rfl (by decide) (by decide) (by decide) rfl (fun H locs hP hD hS => ?_)
  refine va_putF (D := D) (ci := 3) (v := .ref (tq r33)) (ty := .array .int) (C := R_Places) (T := F_Places) (N := 4) hx hb htw i_Places t_Places t_Places_ok n_Places hown hK hP hD hS 0 rfl rfl 3 (by decide) (htw _ in45) (fun _ h9 => h9) rfl hin rfl (by decide +kernel) rfl rfl (Nat.le_of_ble_eq_true rfl) d_Places_init_36 (fun H locs hP hD hS => ?_)
  have hP : va_P D classes ([(h0, .inr (3, [.int x1, .ref (tq r11), .ref q22, .ref (tq r33)])), (q22, .inl (cI, (tbN r11), .inl (tbV r11)))] : va_W) H := hP
  have hD : va_D A ([(h0, .inr (3, [.int x1, .ref (tq r11), .ref q22, .ref (tq r33)])), (q22, .inl (cI, (tbN r11), .inl (tbV r11)))] : va_W) := hD
  obtain ⟨e0, e1, e2, e3, e4⟩ := so5 hf
  subst e0; subst e1; subst e2; subst e3; subst e4
  exact W.vret hx hb hr (fun t ht hW => ⟨⟨(fun k => [q22].getD k 0), rfl, trivial, by rw [ht]; exact hP, va_K.moved hW.alike hK, hD⟩, hS.F ht⟩) hS.2.2 d_Places_init_39 hlocks
-- Places_typicalContext
abbrev RM_Places_typicalContext : Room := { frames := 0, cells := 0, slots := 0, locals := 0 }
def ws_Places_typicalContext : List Cond := .code y_Places_typicalContext b_Places_typicalContext 1 (some .int) :: W_all
def wd_Places_typicalContext (cI cZ cJ : ClassId) (tq : Nat → Nat) (h0 : Nat) (h_now : Nat) (f_template : Int32) (t_first : Nat) (t_loosePlaces : Nat) : va_W := [(h0, .inr (3, [.int f_template, .ref (tq t_first), .ref h_now, .ref (tq t_loosePlaces)]))]
def F_Places_typicalContext (f_template : Int32) : Option (Int32) :=
  (if f_template < 0 then (some 0) else (if (nI (tbN 8)) ≤ f_template then (some 0) else (if f_template < 0 ∨ tbN 8 ≤ f_template.toNatClampNeg then none else (some (tbV 8 f_template.toNatClampNeg)))))
set_option maxHeartbeats 4000000 in
set_option maxRecDepth 100000 in
theorem c_Places_typicalContext (l : Launch) (D : va_G) (cI cZ cJ : ClassId) (tq : Nat → Nat) (h0 : Nat) (h_now : Nat) (sz : Nat) (f_template : Int32) (t_first : Nat) (t_loosePlaces : Nat) (o_r : Int32) (hf : F_Places_typicalContext f_template = some o_r) : Met l y_Places_typicalContext ws_Places_typicalContext RM_Places_typicalContext (va_Pc [.ref h0] (Pg D cI cZ cJ tq (wd_Places_typicalContext cI cZ cJ tq h0 h_now f_template t_first t_loosePlaces) sz)) (qI D cI cZ cJ (va_A (wd_Places_typicalContext cI cZ cJ tq h0 h_now f_template t_first t_loosePlaces) sz) o_r (wd_Places_typicalContext cI cZ cJ tq h0 h_now f_template t_first t_loosePlaces)) 0 0 (va_A (wd_Places_typicalContext cI cZ cJ tq h0 h_now f_template t_first t_loosePlaces) sz) := by
  refine Met.ofW (cc := b_Places_typicalContext) (maxL := 1) (ret := (some .int)) (by decide) rfl ?_
  intro p e s m args below meth c s₁ B hml hv
  obtain ⟨rfl, hsz, hP, hK, hD0, hG⟩ := hv
  have hx := B.exec
  have hb := B.bytes
  have hr := B.returns
  have htw : ∀ w ∈ W_all, w.before [.ref h0].toArray s = true := fun w h => atoms_spec (ws := ws_Places_typicalContext) B.pre w (List.mem_cons_of_mem _ h)
  have hown : s.vm.findClass R_Places = some m.cls := findClass_of_methodNamed B.named
  have hlocks := B.notSynchronized
  subst hsz
  have hD := hD0.self (sz := s.heap.size)
  generalize hAe : va_A (wd_Places_typicalContext cI cZ cJ tq h0 h_now f_template t_first t_loosePlaces) s.heap.size = A at hD hG ⊢
  have hA : ∀ q : Nat, s.heap.size ≤ q → A q := fun q h => by rw [← hAe]; exact Or.inr h
  have hS : va_S A s.heap s.heap [] := va_S.rf
  have C0 : cx p s m meth c [.ref h0].toArray b_Places_typicalContext (some .int) 1 R_Places D cI cZ cJ tq A := ⟨hx, hb, hr, hml, hown, htw, hlocks, hK, hG⟩
  have hl := lv_entry ([.ref h0]) (n := 1) (Nat.le_of_ble_eq_true rfl)
  rw [lg_entry_eq]
  generalize (lg_sl ([.ref h0]) ++ List.replicate (1 - (lg_sl ([.ref h0])).length) Slot.unset).toArray = ls at hl ⊢
  have hl : lv_has ls 1 [(0, .ref h0)] := hl
  have hP : va_P D classes (wd_Places_typicalContext cI cZ cJ tq h0 h_now f_template t_first t_loosePlaces) s.heap := hP
  clear hAe
  unfold F_Places_typicalContext at hf
  refine lv_aload_n hx hb d_Places_typicalContext_0 rfl (lv_at hl 0 rfl) ?_
  refine va_get (D := D) (ci := 3) (v := .int f_template) (C := R_Places) (T := F_Places) (N := 4) hx hb htw i_Places hown hK hP 0 rfl rfl 0 (by decide) (htw _ in29) (fun _ h9 => h9) rfl d_Places_typicalContext_1 ?_
  refine lv_if_lt (tgt := 29) hx hb d_Places_typicalContext_4 (by decide) (fun c4 => ?_) (fun c4 => ?_)
  · have hf := it_t hf c4
    refine lv_iconst (v := 0) hx hb d_Places_typicalContext_29 (by decide) ?_
    have e0 := Option.some.inj hf
    subst e0
    exact W.iret (v := 0) hx hb hr (fun t ht hW => ⟨⟨_, (), rfl, rfl, by rw [ht]; exact hP, va_K.moved hW.alike hK, hD⟩, hS.F ht⟩) hS.2.2 d_Places_typicalContext_30 hlocks
  · have hf := it_f hf c4
    refine lv_aload_n hx hb d_Places_typicalContext_7 rfl (lv_at hl 0 rfl) ?_
    refine va_get (D := D) (ci := 3) (v := .int f_template) (C := R_Places) (T := F_Places) (N := 4) hx hb htw i_Places hown hK hP 0 rfl rfl 0 (by decide) (htw _ in29) (fun _ h9 => h9) rfl d_Places_typicalContext_8 ?_
    refine va_gets hx hb (hG.2.1 8 (by decide)) hS hown (htw _ in46) (fun _ h9 => h9) d_Places_typicalContext_11 ?_
    refine va_tlen (v := nI (tbN 8)) hx hb (hG.1 8 (by decide)) hS rfl d_Places_typicalContext_14 ?_
    refine lv_icmp_ge (tgt := 29) hx hb d_Places_typicalContext_15 (by decide) (fun c15 => ?_) (fun c15 => ?_)
    · have hf := it_t hf c15
      refine lv_iconst (v := 0) hx hb d_Places_typicalContext_29 (by decide) ?_
      have e0 := Option.some.inj hf
      subst e0
      exact W.iret (v := 0) hx hb hr (fun t ht hW => ⟨⟨_, (), rfl, rfl, by rw [ht]; exact hP, va_K.moved hW.alike hK, hD⟩, hS.F ht⟩) hS.2.2 d_Places_typicalContext_30 hlocks
    · have hf := it_f hf c15
      refine va_gets hx hb (hG.2.1 8 (by decide)) hS hown (htw _ in46) (fun _ h9 => h9) d_Places_typicalContext_18 ?_
      refine lv_aload_n hx hb d_Places_typicalContext_21 rfl (lv_at hl 0 rfl) ?_
      refine va_get (D := D) (ci := 3) (v := .int f_template) (C := R_Places) (T := F_Places) (N := 4) hx hb htw i_Places hown hK hP 0 rfl rfl 0 (by decide) (htw _ in29) (fun _ h9 => h9) rfl d_Places_typicalContext_22 ?_
      by_cases g25 : f_template < 0 ∨ tbN 8 ≤ f_template.toNatClampNeg
      · exact no_some (it_t hf g25)
      have hf := it_f hf g25
      refine va_ti (v := .int (tbV 8 f_template.toNatClampNeg)) hx hb (hG.1 8 (by decide)) hS g25 rfl d_Places_typicalContext_25 ?_
      refine lv_goto (tgt := 30) hx hb d_Places_typicalContext_26 (by decide) ?_
      have e0 := Option.some.inj hf
      subst e0
      exact W.iret (v := (tbV 8 f_template.toNatClampNeg)) hx hb hr (fun t ht hW => ⟨⟨_, (), rfl, rfl, by rw [ht]; exact hP, va_K.moved hW.alike hK, hD⟩, hS.F ht⟩) hS.2.2 d_Places_typicalContext_30 hlocks
-- Places_looseCount
abbrev RM_Places_looseCount : Room := { frames := 0, cells := 0, slots := 0, locals := 0 }
def ws_Places_looseCount : List Cond := .code y_Places_looseCount b_Places_looseCount 1 (some .int) :: W_all
def wd_Places_looseCount (cI cZ cJ : ClassId) (tq : Nat → Nat) (h0 : Nat) (h_now : Nat) (f_template : Int32) (t_first : Nat) (t_loosePlaces : Nat) : va_W := [(h0, .inr (3, [.int f_template, .ref (tq t_first), .ref h_now, .ref (tq t_loosePlaces)]))]
def F_Places_looseCount (t_loosePlaces : Nat) : Option (Int32) :=
  (if ¬ t_loosePlaces < tbK then none else (some (nI (tbN t_loosePlaces))))
set_option maxHeartbeats 4000000 in
set_option maxRecDepth 100000 in
theorem c_Places_looseCount (l : Launch) (D : va_G) (cI cZ cJ : ClassId) (tq : Nat → Nat) (h0 : Nat) (h_now : Nat) (sz : Nat) (f_template : Int32) (t_first : Nat) (t_loosePlaces : Nat) (o_r : Int32) (hf : F_Places_looseCount t_loosePlaces = some o_r) : Met l y_Places_looseCount ws_Places_looseCount RM_Places_looseCount (va_Pc [.ref h0] (Pg D cI cZ cJ tq (wd_Places_looseCount cI cZ cJ tq h0 h_now f_template t_first t_loosePlaces) sz)) (qI D cI cZ cJ (va_A (wd_Places_looseCount cI cZ cJ tq h0 h_now f_template t_first t_loosePlaces) sz) o_r (wd_Places_looseCount cI cZ cJ tq h0 h_now f_template t_first t_loosePlaces)) 0 0 (va_A (wd_Places_looseCount cI cZ cJ tq h0 h_now f_template t_first t_loosePlaces) sz) := by
  refine Met.ofW (cc := b_Places_looseCount) (maxL := 1) (ret := (some .int)) (by decide) rfl ?_
  intro p e s m args below meth c s₁ B hml hv
  obtain ⟨rfl, hsz, hP, hK, hD0, hG⟩ := hv
  have hx := B.exec
  have hb := B.bytes
  have hr := B.returns
  have htw : ∀ w ∈ W_all, w.before [.ref h0].toArray s = true := fun w h => atoms_spec (ws := ws_Places_looseCount) B.pre w (List.mem_cons_of_mem _ h)
  have hown : s.vm.findClass R_Places = some m.cls := findClass_of_methodNamed B.named
  have hlocks := B.notSynchronized
  subst hsz
  have hD := hD0.self (sz := s.heap.size)
  generalize hAe : va_A (wd_Places_looseCount cI cZ cJ tq h0 h_now f_template t_first t_loosePlaces) s.heap.size = A at hD hG ⊢
  have hA : ∀ q : Nat, s.heap.size ≤ q → A q := fun q h => by rw [← hAe]; exact Or.inr h
  have hS : va_S A s.heap s.heap [] := va_S.rf
  have C0 : cx p s m meth c [.ref h0].toArray b_Places_looseCount (some .int) 1 R_Places D cI cZ cJ tq A := ⟨hx, hb, hr, hml, hown, htw, hlocks, hK, hG⟩
  have hl := lv_entry ([.ref h0]) (n := 1) (Nat.le_of_ble_eq_true rfl)
  rw [lg_entry_eq]
  generalize (lg_sl ([.ref h0]) ++ List.replicate (1 - (lg_sl ([.ref h0])).length) Slot.unset).toArray = ls at hl ⊢
  have hl : lv_has ls 1 [(0, .ref h0)] := hl
  have hP : va_P D classes (wd_Places_looseCount cI cZ cJ tq h0 h_now f_template t_first t_loosePlaces) s.heap := hP
  clear hAe
  unfold F_Places_looseCount at hf
  refine lv_aload_n hx hb d_Places_looseCount_0 rfl (lv_at hl 0 rfl) ?_
  refine va_get (D := D) (ci := 3) (v := .ref (tq t_loosePlaces)) (C := R_Places) (T := F_Places) (N := 4) hx hb htw i_Places hown hK hP 0 rfl rfl 3 (by decide) (htw _ in45) (fun _ h9 => h9) rfl d_Places_looseCount_1 ?_
  by_cases gk4 : ¬ t_loosePlaces < tbK
  · exact no_some (it_t hf gk4)
  have hf := it_f hf gk4
  refine va_tlen (v := nI (tbN t_loosePlaces)) hx hb (hG.1 t_loosePlaces (Decidable.not_not.mp gk4)) hS rfl d_Places_looseCount_4 ?_
  have e0 := Option.some.inj hf
  subst e0
  exact W.iret (v := (nI (tbN t_loosePlaces))) hx hb hr (fun t ht hW => ⟨⟨_, (), rfl, rfl, by rw [ht]; exact hP, va_K.moved hW.alike hK, hD⟩, hS.F ht⟩) hS.2.2 d_Places_looseCount_5 hlocks
-- Places_move
abbrev RM_Places_move : Room := { frames := 0, cells := 0, slots := 0, locals := 0 }
def ws_Places_move : List Cond := .code y_Places_move b_Places_move 5 (some .boolean) :: W_all
def wd_Places_move (cI cZ cJ : ClassId) (tq : Nat → Nat) (h0 : Nat) (h_now : Nat) (f_template : Int32) (t_first : Nat) (t_loosePlaces : Nat) (n_now : Nat) (g_now : Nat → Int32) : va_W := [(h0, .inr (3, [.int f_template, .ref (tq t_first), .ref h_now, .ref (tq t_loosePlaces)])), (h_now, .inl (cI, n_now, .inl g_now))]
def F_Places_move_65 (t_loosePlaces : Nat) (n_now : Nat) (x2 : Int32) (x3 : Int32) (x4 : Int32) (g_now : Nat → Int32) : Option (Int32 × (Nat → Int32)) :=
  (if x4 < 0 ∨ n_now ≤ x4.toNatClampNeg then none else (if (x4 + (1 : Int32)) < 0 ∨ n_now ≤ (x4 + (1 : Int32)).toNatClampNeg then none else (some (1, (upd (upd g_now x4.toNatClampNeg x2) (x4 + (1 : Int32)).toNatClampNeg x3)))))
def F_Places_move_25 (t_loosePlaces : Nat) (n_now : Nat) (x2 : Int32) (x3 : Int32) (z0 : Int32) (g_now : Nat → Int32) : Option (Int32 × (Nat → Int32)) :=
  (if (nI n_now) ≤ (z0 + (1 : Int32)) then (some (0, g_now)) else (if z0 < 0 ∨ n_now ≤ z0.toNatClampNeg then none else (if (g_now z0.toNatClampNeg) = x2 then (if (z0 + (1 : Int32)) < 0 ∨ n_now ≤ (z0 + (1 : Int32)).toNatClampNeg then none else (if (g_now (z0 + (1 : Int32)).toNatClampNeg) = x3 then (some (0, g_now)) else (F_Places_move_65 t_loosePlaces n_now x2 x3 z0 g_now))) else (F_Places_move_65 t_loosePlaces n_now x2 x3 z0 g_now))))
def F_Places_move_24 (t_loosePlaces : Nat) (n_now : Nat) (x2 : Int32) (x3 : Int32) (g_now : Nat → Int32) : Option (Int32 × (Nat → Int32)) :=
  (F_Places_move_25 t_loosePlaces n_now x2 x3 0 g_now)
def F_Places_move (x1 : Int32) (x2 : Int32) (x3 : Int32) (t_loosePlaces : Nat) (n_now : Nat) (g_now : Nat → Int32) : Option (Int32 × (Nat → Int32)) :=
  (if x1 < 0 then (F_Places_move_24 t_loosePlaces n_now x2 x3 g_now) else (if ¬ t_loosePlaces < tbK then none else (if (nI (tbN t_loosePlaces)) ≤ x1 then (F_Places_move_24 t_loosePlaces n_now x2 x3 g_now) else (if ¬ t_loosePlaces < tbK then none else (if x1 < 0 ∨ tbN t_loosePlaces ≤ x1.toNatClampNeg then none else (F_Places_move_25 t_loosePlaces n_now x2 x3 ((2 : Int32) * (tbV t_loosePlaces x1.toNatClampNeg)) g_now))))))
set_option maxHeartbeats 4000000 in
set_option maxRecDepth 100000 in
theorem w_Places_move_65 {p : Program} {l : Launch} {e : Env} {s : State} {m : MethodId} {args : Array Value} {below : List Frame} {meth : Method} {c : Code} {D : va_G} {cI cZ cJ : ClassId} {tq : Nat → Nat} {A : Nat → Prop} (h0 : Nat) (h_now : Nat) (f_template : Int32) (t_first : Nat) (t_loosePlaces : Nat) (n_now : Nat) (o_r : Int32) (o_g_now : Nat → Int32) (C0 : cx p s m meth c args b_Places_move (some .boolean) 5 R_Places D cI cZ cJ tq A) (hA : ∀ q : Nat, s.heap.size ≤ q → A q) : ∀ (x2 : Int32) (x3 : Int32) (x4 : Int32) (g_now : Nat → Int32) (H : Heap) (locs : List Loc) (ls : Array Slot), va_P D classes (wd_Places_move cI cZ cJ tq h0 h_now f_template t_first t_loosePlaces n_now g_now) H → va_D A (wd_Places_move cI cZ cJ tq h0 h_now f_template t_first t_loosePlaces n_now g_now) → va_S A s.heap H locs → lv_has ls 5 [(0, .ref h0), (2, .int x2), (3, .int x3), (4, .int x4)] → F_Places_move_65 t_loosePlaces n_now x2 x3 x4 g_now = some (o_r, o_g_now) → W p l e RM_Places_move s m args below meth c H locs 0 0 (MQ below (qI D cI cZ cJ A o_r (wd_Places_move cI cZ cJ tq h0 h_now f_template t_first t_loosePlaces n_now o_g_now)) args s 0 0 A) (F0 m 65 ls []) := by
  obtain ⟨hx, hb, hr, hml, hown, htw, hlocks, hK, hG⟩ := id C0
  intro x2 x3 x4 g_now H locs ls hP hD hS hl hf
  unfold F_Places_move_65 at hf
  refine lv_aload_n hx hb d_Places_move_65 rfl (lv_at hl 0 rfl) ?_
  refine va_get (D := D) (ci := 3) (v := .ref h_now) (C := R_Places) (T := F_Places) (N := 4) hx hb htw i_Places hown hK hP 0 rfl rfl 2 (by decide) (htw _ in41) (fun _ h9 => h9) rfl d_Places_move_66 ?_
  refine lv_iload hx hb d_Places_move_69 (lv_at hl 3 rfl) ?_
  refine lv_iload_n hx hb d_Places_move_71 rfl (lv_at hl 1 rfl) ?_
  by_cases g72 : x4 < 0 ∨ n_now ≤ x4.toNatClampNeg
  · exact no_some (it_t hf g72)
  have hf := it_f hf g72
  refine va_iast hx hb hK hP hD hS 1 0 rfl rfl g72 d_Places_move_72 (fun H locs hP hD hS => ?_)
  have hP : va_P D classes (wd_Places_move cI cZ cJ tq h0 h_now f_template t_first t_loosePlaces n_now (upd g_now x4.toNatClampNeg x2)) H := hP
  have hD : va_D A (wd_Places_move cI cZ cJ tq h0 h_now f_template t_first t_loosePlaces n_now (upd g_now x4.toNatClampNeg x2)) := hD
  refine lv_aload_n hx hb d_Places_move_73 rfl (lv_at hl 0 rfl) ?_
  refine va_get (D := D) (ci := 3) (v := .ref h_now) (C := R_Places) (T := F_Places) (N := 4) hx hb htw i_Places hown hK hP 0 rfl rfl 2 (by decide) (htw _ in41) (fun _ h9 => h9) rfl d_Places_move_74 ?_
  refine lv_iload hx hb d_Places_move_77 (lv_at hl 3 rfl) ?_
  refine lv_iconst (v := 1) hx hb d_Places_move_79 (by decide) ?_
  refine lv_iadd hx hb d_Places_move_80 ?_
  refine lv_iload_n hx hb d_Places_move_81 rfl (lv_at hl 2 rfl) ?_
  by_cases g82 : (x4 + (1 : Int32)) < 0 ∨ n_now ≤ (x4 + (1 : Int32)).toNatClampNeg
  · exact no_some (it_t hf g82)
  have hf := it_f hf g82
  refine va_iast hx hb hK hP hD hS 1 0 rfl rfl g82 d_Places_move_82 (fun H locs hP hD hS => ?_)
  have hP : va_P D classes (wd_Places_move cI cZ cJ tq h0 h_now f_template t_first t_loosePlaces n_now (upd (upd g_now x4.toNatClampNeg x2) (x4 + (1 : Int32)).toNatClampNeg x3)) H := hP
  have hD : va_D A (wd_Places_move cI cZ cJ tq h0 h_now f_template t_first t_loosePlaces n_now (upd (upd g_now x4.toNatClampNeg x2) (x4 + (1 : Int32)).toNatClampNeg x3)) := hD
  refine lv_iconst (v := 1) hx hb d_Places_move_83 (by decide) ?_
  obtain ⟨e0, e1⟩ := so2 hf
  subst e0; subst e1
  exact W.zret (v := 1) hx hb hr rfl (fun t ht hW => ⟨⟨_, (), rfl, rfl, by rw [ht]; exact hP, va_K.moved hW.alike hK, hD⟩, hS.F ht⟩) hS.2.2 d_Places_move_84 hlocks
set_option maxHeartbeats 4000000 in
set_option maxRecDepth 100000 in
theorem w_Places_move_25 {p : Program} {l : Launch} {e : Env} {s : State} {m : MethodId} {args : Array Value} {below : List Frame} {meth : Method} {c : Code} {D : va_G} {cI cZ cJ : ClassId} {tq : Nat → Nat} {A : Nat → Prop} (h0 : Nat) (h_now : Nat) (f_template : Int32) (t_first : Nat) (t_loosePlaces : Nat) (n_now : Nat) (o_r : Int32) (o_g_now : Nat → Int32) (C0 : cx p s m meth c args b_Places_move (some .boolean) 5 R_Places D cI cZ cJ tq A) (hA : ∀ q : Nat, s.heap.size ≤ q → A q) : ∀ (x2 : Int32) (x3 : Int32) (z0 : Int32) (g_now : Nat → Int32) (H : Heap) (locs : List Loc) (ls : Array Slot), va_P D classes (wd_Places_move cI cZ cJ tq h0 h_now f_template t_first t_loosePlaces n_now g_now) H → va_D A (wd_Places_move cI cZ cJ tq h0 h_now f_template t_first t_loosePlaces n_now g_now) → va_S A s.heap H locs → lv_has ls 5 [(0, .ref h0), (2, .int x2), (3, .int x3)] → F_Places_move_25 t_loosePlaces n_now x2 x3 z0 g_now = some (o_r, o_g_now) → W p l e RM_Places_move s m args below meth c H locs 0 0 (MQ below (qI D cI cZ cJ A o_r (wd_Places_move cI cZ cJ tq h0 h_now f_template t_first t_loosePlaces n_now o_g_now)) args s 0 0 A) (F0 m 25 ls [.int z0]) := by
  obtain ⟨hx, hb, hr, hml, hown, htw, hlocks, hK, hG⟩ := id C0
  intro x2 x3 z0 g_now H locs ls hP hD hS hl hf
  unfold F_Places_move_25 at hf
  refine lv_istore (lv' := [(4, .int z0), (0, .ref h0), (2, .int x2), (3, .int x3)]) hx hb d_Places_move_25 hl (by decide) rfl (fun ls hl => ?_)
  refine lv_iload hx hb d_Places_move_27 (lv_at hl 0 rfl) ?_
  refine lv_iconst (v := 1) hx hb d_Places_move_29 (by decide) ?_
  refine lv_iadd hx hb d_Places_move_30 ?_
  refine lv_aload_n hx hb d_Places_move_31 rfl (lv_at hl 1 rfl) ?_
  refine va_get (D := D) (ci := 3) (v := .ref h_now) (C := R_Places) (T := F_Places) (N := 4) hx hb htw i_Places hown hK hP 0 rfl rfl 2 (by decide) (htw _ in41) (fun _ h9 => h9) rfl d_Places_move_32 ?_
  refine va_alen (v := nI n_now) hx hb hK hP 1 0 rfl rfl rfl d_Places_move_35 ?_
  refine lv_icmp_ge (tgt := 63) hx hb d_Places_move_36 (by decide) (fun c36 => ?_) (fun c36 => ?_)
  · have hf := it_t hf c36
    refine lv_iconst (v := 0) hx hb d_Places_move_63 (by decide) ?_
    obtain ⟨e0, e1⟩ := so2 hf
    subst e0; subst e1
    exact W.zret (v := 0) hx hb hr rfl (fun t ht hW => ⟨⟨_, (), rfl, rfl, by rw [ht]; exact hP, va_K.moved hW.alike hK, hD⟩, hS.F ht⟩) hS.2.2 d_Places_move_64 hlocks
  · have hf := it_f hf c36
    refine lv_aload_n hx hb d_Places_move_39 rfl (lv_at hl 1 rfl) ?_
    refine va_get (D := D) (ci := 3) (v := .ref h_now) (C := R_Places) (T := F_Places) (N := 4) hx hb htw i_Places hown hK hP 0 rfl rfl 2 (by decide) (htw _ in41) (fun _ h9 => h9) rfl d_Places_move_40 ?_
    refine lv_iload hx hb d_Places_move_43 (lv_at hl 0 rfl) ?_
    by_cases g45 : z0 < 0 ∨ n_now ≤ z0.toNatClampNeg
    · exact no_some (it_t hf g45)
    have hf := it_f hf g45
    refine va_iald hx hb hK hP 1 0 rfl rfl g45 d_Places_move_45 ?_
    refine lv_iload_n hx hb d_Places_move_46 rfl (lv_at hl 2 rfl) ?_
    refine lv_icmp_ne (tgt := 65) hx hb d_Places_move_47 (by decide) (fun c47 => ?_) (fun c47 => ?_)
    · have hf := it_f hf c47
      exact w_Places_move_65 h0 h_now f_template t_first t_loosePlaces n_now o_r o_g_now C0 hA x2 x3 z0 g_now _ _ ls hP hD hS (lv_sub hl [1, 2, 3, 0] rfl) hf
    · have hf := it_t hf c47
      refine lv_aload_n hx hb d_Places_move_50 rfl (lv_at hl 1 rfl) ?_
      refine va_get (D := D) (ci := 3) (v := .ref h_now) (C := R_Places) (T := F_Places) (N := 4) hx hb htw i_Places hown hK hP 0 rfl rfl 2 (by decide) (htw _ in41) (fun _ h9 => h9) rfl d_Places_move_51 ?_
      refine lv_iload hx hb d_Places_move_54 (lv_at hl 0 rfl) ?_
      refine lv_iconst (v := 1) hx hb d_Places_move_56 (by decide) ?_
      refine lv_iadd hx hb d_Places_move_57 ?_
      by_cases g58 : (z0 + (1 : Int32)) < 0 ∨ n_now ≤ (z0 + (1 : Int32)).toNatClampNeg
      · exact no_some (it_t hf g58)
      have hf := it_f hf g58
      refine va_iald hx hb hK hP 1 0 rfl rfl g58 d_Places_move_58 ?_
      refine lv_iload_n hx hb d_Places_move_59 rfl (lv_at hl 3 rfl) ?_
      refine lv_icmp_ne (tgt := 65) hx hb d_Places_move_60 (by decide) (fun c60 => ?_) (fun c60 => ?_)
      · have hf := it_f hf c60
        exact w_Places_move_65 h0 h_now f_template t_first t_loosePlaces n_now o_r o_g_now C0 hA x2 x3 z0 g_now _ _ ls hP hD hS (lv_sub hl [1, 2, 3, 0] rfl) hf
      · have hf := it_t hf c60
        refine lv_iconst (v := 0) hx hb d_Places_move_63 (by decide) ?_
        obtain ⟨e0, e1⟩ := so2 hf
        subst e0; subst e1
        exact W.zret (v := 0) hx hb hr rfl (fun t ht hW => ⟨⟨_, (), rfl, rfl, by rw [ht]; exact hP, va_K.moved hW.alike hK, hD⟩, hS.F ht⟩) hS.2.2 d_Places_move_64 hlocks
set_option maxHeartbeats 4000000 in
set_option maxRecDepth 100000 in
theorem w_Places_move_24 {p : Program} {l : Launch} {e : Env} {s : State} {m : MethodId} {args : Array Value} {below : List Frame} {meth : Method} {c : Code} {D : va_G} {cI cZ cJ : ClassId} {tq : Nat → Nat} {A : Nat → Prop} (h0 : Nat) (h_now : Nat) (f_template : Int32) (t_first : Nat) (t_loosePlaces : Nat) (n_now : Nat) (o_r : Int32) (o_g_now : Nat → Int32) (C0 : cx p s m meth c args b_Places_move (some .boolean) 5 R_Places D cI cZ cJ tq A) (hA : ∀ q : Nat, s.heap.size ≤ q → A q) : ∀ (x2 : Int32) (x3 : Int32) (g_now : Nat → Int32) (H : Heap) (locs : List Loc) (ls : Array Slot), va_P D classes (wd_Places_move cI cZ cJ tq h0 h_now f_template t_first t_loosePlaces n_now g_now) H → va_D A (wd_Places_move cI cZ cJ tq h0 h_now f_template t_first t_loosePlaces n_now g_now) → va_S A s.heap H locs → lv_has ls 5 [(0, .ref h0), (2, .int x2), (3, .int x3)] → F_Places_move_24 t_loosePlaces n_now x2 x3 g_now = some (o_r, o_g_now) → W p l e RM_Places_move s m args below meth c H locs 0 0 (MQ below (qI D cI cZ cJ A o_r (wd_Places_move cI cZ cJ tq h0 h_now f_template t_first t_loosePlaces n_now o_g_now)) args s 0 0 A) (F0 m 24 ls []) := by
  obtain ⟨hx, hb, hr, hml, hown, htw, hlocks, hK, hG⟩ := id C0
  intro x2 x3 g_now H locs ls hP hD hS hl hf
  unfold F_Places_move_24 at hf
  refine lv_iconst (v := 0) hx hb d_Places_move_24 (by decide) ?_
  exact w_Places_move_25 h0 h_now f_template t_first t_loosePlaces n_now o_r o_g_now C0 hA x2 x3 0 g_now _ _ ls hP hD hS (lv_sub hl [0, 1, 2] rfl) hf
set_option maxHeartbeats 4000000 in
set_option maxRecDepth 100000 in
theorem c_Places_move (l : Launch) (D : va_G) (cI cZ cJ : ClassId) (tq : Nat → Nat) (h0 : Nat) (h_now : Nat) (sz : Nat) (f_template : Int32) (t_first : Nat) (t_loosePlaces : Nat) (n_now : Nat) (g_now : Nat → Int32) (x1 : Int32) (x2 : Int32) (x3 : Int32) (o_r : Int32) (o_g_now : Nat → Int32) (hf : F_Places_move x1 x2 x3 t_loosePlaces n_now g_now = some (o_r, o_g_now)) : Met l y_Places_move ws_Places_move RM_Places_move (va_Pc [.ref h0, .int x1, .int x2, .int x3] (Pg D cI cZ cJ tq (wd_Places_move cI cZ cJ tq h0 h_now f_template t_first t_loosePlaces n_now g_now) sz)) (qI D cI cZ cJ (va_A (wd_Places_move cI cZ cJ tq h0 h_now f_template t_first t_loosePlaces n_now g_now) sz) o_r (wd_Places_move cI cZ cJ tq h0 h_now f_template t_first t_loosePlaces n_now o_g_now)) 0 0 (va_A (wd_Places_move cI cZ cJ tq h0 h_now f_template t_first t_loosePlaces n_now g_now) sz) := by
  refine Met.ofW (cc := b_Places_move) (maxL := 5) (ret := (some .boolean)) (by decide) rfl ?_
  intro p e s m args below meth c s₁ B hml hv
  obtain ⟨rfl, hsz, hP, hK, hD0, hG⟩ := hv
  have hx := B.exec
  have hb := B.bytes
  have hr := B.returns
  have htw : ∀ w ∈ W_all, w.before [.ref h0, .int x1, .int x2, .int x3].toArray s = true := fun w h => atoms_spec (ws := ws_Places_move) B.pre w (List.mem_cons_of_mem _ h)
  have hown : s.vm.findClass R_Places = some m.cls := findClass_of_methodNamed B.named
  have hlocks := B.notSynchronized
  subst hsz
  have hD := hD0.self (sz := s.heap.size)
  generalize hAe : va_A (wd_Places_move cI cZ cJ tq h0 h_now f_template t_first t_loosePlaces n_now g_now) s.heap.size = A at hD hG ⊢
  have hA : ∀ q : Nat, s.heap.size ≤ q → A q := fun q h => by rw [← hAe]; exact Or.inr h
  have hS : va_S A s.heap s.heap [] := va_S.rf
  have C0 : cx p s m meth c [.ref h0, .int x1, .int x2, .int x3].toArray b_Places_move (some .boolean) 5 R_Places D cI cZ cJ tq A := ⟨hx, hb, hr, hml, hown, htw, hlocks, hK, hG⟩
  have hl := lv_entry ([.ref h0, .int x1, .int x2, .int x3]) (n := 5) (Nat.le_of_ble_eq_true rfl)
  rw [lg_entry_eq]
  generalize (lg_sl ([.ref h0, .int x1, .int x2, .int x3]) ++ List.replicate (5 - (lg_sl ([.ref h0, .int x1, .int x2, .int x3])).length) Slot.unset).toArray = ls at hl ⊢
  have hl : lv_has ls 5 [(0, .ref h0), (1, .int x1), (2, .int x2), (3, .int x3)] := hl
  have hP : va_P D classes (wd_Places_move cI cZ cJ tq h0 h_now f_template t_first t_loosePlaces n_now g_now) s.heap := hP
  clear hAe
  unfold F_Places_move at hf
  refine lv_iload_n hx hb d_Places_move_0 rfl (lv_at hl 1 rfl) ?_
  refine lv_if_lt (tgt := 24) hx hb d_Places_move_1 (by decide) (fun c1 => ?_) (fun c1 => ?_)
  · have hf := it_t hf c1
    exact w_Places_move_24 h0 h_now f_template t_first t_loosePlaces n_now o_r o_g_now C0 hA x2 x3 g_now _ _ ls hP hD hS (lv_sub hl [0, 2, 3] rfl) hf
  · have hf := it_f hf c1
    refine lv_iload_n hx hb d_Places_move_4 rfl (lv_at hl 1 rfl) ?_
    refine lv_aload_n hx hb d_Places_move_5 rfl (lv_at hl 0 rfl) ?_
    refine va_get (D := D) (ci := 3) (v := .ref (tq t_loosePlaces)) (C := R_Places) (T := F_Places) (N := 4) hx hb htw i_Places hown hK hP 0 rfl rfl 3 (by decide) (htw _ in45) (fun _ h9 => h9) rfl d_Places_move_6 ?_
    by_cases gk9 : ¬ t_loosePlaces < tbK
    · exact no_some (it_t hf gk9)
    have hf := it_f hf gk9
    refine va_tlen (v := nI (tbN t_loosePlaces)) hx hb (hG.1 t_loosePlaces (Decidable.not_not.mp gk9)) hS rfl d_Places_move_9 ?_
    refine lv_icmp_ge (tgt := 24) hx hb d_Places_move_10 (by decide) (fun c10 => ?_) (fun c10 => ?_)
    · have hf := it_t hf c10
      exact w_Places_move_24 h0 h_now f_template t_first t_loosePlaces n_now o_r o_g_now C0 hA x2 x3 g_now _ _ ls hP hD hS (lv_sub hl [0, 2, 3] rfl) hf
    · have hf := it_f hf c10
      refine lv_iconst (v := 2) hx hb d_Places_move_13 (by decide) ?_
      refine lv_aload_n hx hb d_Places_move_14 rfl (lv_at hl 0 rfl) ?_
      refine va_get (D := D) (ci := 3) (v := .ref (tq t_loosePlaces)) (C := R_Places) (T := F_Places) (N := 4) hx hb htw i_Places hown hK hP 0 rfl rfl 3 (by decide) (htw _ in45) (fun _ h9 => h9) rfl d_Places_move_15 ?_
      refine lv_iload_n hx hb d_Places_move_18 rfl (lv_at hl 1 rfl) ?_
      by_cases gk19 : ¬ t_loosePlaces < tbK
      · exact no_some (it_t hf gk19)
      have hf := it_f hf gk19
      by_cases g19 : x1 < 0 ∨ tbN t_loosePlaces ≤ x1.toNatClampNeg
      · exact no_some (it_t hf g19)
      have hf := it_f hf g19
      refine va_ti (v := .int (tbV t_loosePlaces x1.toNatClampNeg)) hx hb (hG.1 t_loosePlaces (Decidable.not_not.mp gk19)) hS g19 rfl d_Places_move_19 ?_
      refine lv_imul hx hb d_Places_move_20 ?_
      refine lv_goto (tgt := 25) hx hb d_Places_move_21 (by decide) ?_
      exact w_Places_move_25 h0 h_now f_template t_first t_loosePlaces n_now o_r o_g_now C0 hA x2 x3 ((2 : Int32) * (tbV t_loosePlaces x1.toNatClampNeg)) g_now _ _ ls hP hD hS (lv_sub hl [0, 2, 3] rfl) hf
-- Places_reset
abbrev RM_Places_reset : Room := { frames := 0, cells := 0, slots := 0, locals := 0 }
def ws_Places_reset : List Cond := .code y_Places_reset b_Places_reset 2 none :: W_all
def wd_Places_reset (cI cZ cJ : ClassId) (tq : Nat → Nat) (h0 : Nat) (h_now : Nat) (f_template : Int32) (t_first : Nat) (t_loosePlaces : Nat) (n_now : Nat) (g_now : Nat → Int32) : va_W := [(h0, .inr (3, [.int f_template, .ref (tq t_first), .ref h_now, .ref (tq t_loosePlaces)])), (h_now, .inl (cI, n_now, .inl g_now))]
def F_Places_reset_2 (k : Nat) (t_first : Nat) (n_now : Nat) : Nat → Int32 → (Nat → Int32) → Option ((Nat → Int32))
  | 0, _, _ => none
  | n + 1, x1, g_now =>
    (if (nI n_now) ≤ x1 then (some g_now) else (if ¬ t_first < tbK then none else (if (nI (tbN t_first)) ≤ x1 then (some g_now) else (if ¬ t_first < tbK then none else (if x1 < 0 ∨ tbN t_first ≤ x1.toNatClampNeg then none else (if x1 < 0 ∨ n_now ≤ x1.toNatClampNeg then none else (F_Places_reset_2 k t_first n_now n (x1 + 1) (upd g_now x1.toNatClampNeg (tbV t_first x1.toNatClampNeg)))))))))
def F_Places_reset (k : Nat) (t_first : Nat) (n_now : Nat) (g_now : Nat → Int32) : Option ((Nat → Int32)) :=
  (F_Places_reset_2 k t_first n_now k 0 g_now)
set_option maxHeartbeats 4000000 in
set_option maxRecDepth 100000 in
theorem w_Places_reset_2 {p : Program} {l : Launch} {e : Env} {s : State} {m : MethodId} {args : Array Value} {below : List Frame} {meth : Method} {c : Code} {D : va_G} {cI cZ cJ : ClassId} {tq : Nat → Nat} {A : Nat → Prop} (k : Nat) (h0 : Nat) (h_now : Nat) (f_template : Int32) (t_first : Nat) (t_loosePlaces : Nat) (n_now : Nat) (o_g_now : Nat → Int32) (C0 : cx p s m meth c args b_Places_reset none 2 R_Places D cI cZ cJ tq A) (hA : ∀ q : Nat, s.heap.size ≤ q → A q) : ∀ n : Nat, ∀ (x1 : Int32) (g_now : Nat → Int32) (H : Heap) (locs : List Loc) (ls : Array Slot), va_P D classes (wd_Places_reset cI cZ cJ tq h0 h_now f_template t_first t_loosePlaces n_now g_now) H → va_D A (wd_Places_reset cI cZ cJ tq h0 h_now f_template t_first t_loosePlaces n_now g_now) → va_S A s.heap H locs → lv_has ls 2 [(0, .ref h0), (1, .int x1)] → F_Places_reset_2 k t_first n_now n x1 g_now = some o_g_now → W p l e RM_Places_reset s m args below meth c H locs 0 0 (MQ below (qV D cI cZ cJ A (wd_Places_reset cI cZ cJ tq h0 h_now f_template t_first t_loosePlaces n_now o_g_now)) args s 0 0 A) (F0 m 2 ls []) := by
  obtain ⟨hx, hb, hr, hml, hown, htw, hlocks, hK, hG⟩ := id C0
  intro n
  induction n with
  | zero =>
    intro x1 g_now H locs ls hP hD hS hl hf
    exact no_some hf
  | succ n ih =>
    intro x1 g_now H locs ls hP hD hS hl hf
    rw [F_Places_reset_2] at hf
    refine lv_iload_n hx hb d_Places_reset_2 rfl (lv_at hl 1 rfl) ?_
    refine lv_aload_n hx hb d_Places_reset_3 rfl (lv_at hl 0 rfl) ?_
    refine va_get (D := D) (ci := 3) (v := .ref h_now) (C := R_Places) (T := F_Places) (N := 4) hx hb htw i_Places hown hK hP 0 rfl rfl 2 (by decide) (htw _ in41) (fun _ h9 => h9) rfl d_Places_reset_4 ?_
    refine va_alen (v := nI n_now) hx hb hK hP 1 0 rfl rfl rfl d_Places_reset_7 ?_
    refine lv_icmp_ge (tgt := 38) hx hb d_Places_reset_8 (by decide) (fun c8 => ?_) (fun c8 => ?_)
    · have hf := it_t hf c8
      have e0 := Option.some.inj hf
      subst e0
      exact W.vret hx hb hr (fun t ht hW => ⟨⟨(), rfl, trivial, by rw [ht]; exact hP, va_K.moved hW.alike hK, hD⟩, hS.F ht⟩) hS.2.2 d_Places_reset_38 hlocks
    · have hf := it_f hf c8
      refine lv_iload_n hx hb d_Places_reset_11 rfl (lv_at hl 1 rfl) ?_
      refine lv_aload_n hx hb d_Places_reset_12 rfl (lv_at hl 0 rfl) ?_
      refine va_get (D := D) (ci := 3) (v := .ref (tq t_first)) (C := R_Places) (T := F_Places) (N := 4) hx hb htw i_Places hown hK hP 0 rfl rfl 1 (by decide) (htw _ in34) (fun _ h9 => h9) rfl d_Places_reset_13 ?_
      by_cases gk16 : ¬ t_first < tbK
      · exact no_some (it_t hf gk16)
      have hf := it_f hf gk16
      refine va_tlen (v := nI (tbN t_first)) hx hb (hG.1 t_first (Decidable.not_not.mp gk16)) hS rfl d_Places_reset_16 ?_
      refine lv_icmp_ge (tgt := 38) hx hb d_Places_reset_17 (by decide) (fun c17 => ?_) (fun c17 => ?_)
      · have hf := it_t hf c17
        have e0 := Option.some.inj hf
        subst e0
        exact W.vret hx hb hr (fun t ht hW => ⟨⟨(), rfl, trivial, by rw [ht]; exact hP, va_K.moved hW.alike hK, hD⟩, hS.F ht⟩) hS.2.2 d_Places_reset_38 hlocks
      · have hf := it_f hf c17
        refine lv_aload_n hx hb d_Places_reset_20 rfl (lv_at hl 0 rfl) ?_
        refine va_get (D := D) (ci := 3) (v := .ref h_now) (C := R_Places) (T := F_Places) (N := 4) hx hb htw i_Places hown hK hP 0 rfl rfl 2 (by decide) (htw _ in41) (fun _ h9 => h9) rfl d_Places_reset_21 ?_
        refine lv_iload_n hx hb d_Places_reset_24 rfl (lv_at hl 1 rfl) ?_
        refine lv_aload_n hx hb d_Places_reset_25 rfl (lv_at hl 0 rfl) ?_
        refine va_get (D := D) (ci := 3) (v := .ref (tq t_first)) (C := R_Places) (T := F_Places) (N := 4) hx hb htw i_Places hown hK hP 0 rfl rfl 1 (by decide) (htw _ in34) (fun _ h9 => h9) rfl d_Places_reset_26 ?_
        refine lv_iload_n hx hb d_Places_reset_29 rfl (lv_at hl 1 rfl) ?_
        by_cases gk30 : ¬ t_first < tbK
        · exact no_some (it_t hf gk30)
        have hf := it_f hf gk30
        by_cases g30 : x1 < 0 ∨ tbN t_first ≤ x1.toNatClampNeg
        · exact no_some (it_t hf g30)
        have hf := it_f hf g30
        refine va_ti (v := .int (tbV t_first x1.toNatClampNeg)) hx hb (hG.1 t_first (Decidable.not_not.mp gk30)) hS g30 rfl d_Places_reset_30 ?_
        by_cases g31 : x1 < 0 ∨ n_now ≤ x1.toNatClampNeg
        · exact no_some (it_t hf g31)
        have hf := it_f hf g31
        refine va_iast hx hb hK hP hD hS 1 0 rfl rfl g31 d_Places_reset_31 (fun H locs hP hD hS => ?_)
        have hP : va_P D classes (wd_Places_reset cI cZ cJ tq h0 h_now f_template t_first t_loosePlaces n_now (upd g_now x1.toNatClampNeg (tbV t_first x1.toNatClampNeg))) H := hP
        have hD : va_D A (wd_Places_reset cI cZ cJ tq h0 h_now f_template t_first t_loosePlaces n_now (upd g_now x1.toNatClampNeg (tbV t_first x1.toNatClampNeg))) := hD
        refine lv_iinc (v := (x1 + 1)) (lv' := [(1, .int (x1 + 1)), (0, .ref h0)]) hx hb d_Places_reset_32 hl (k := 1) rfl rfl (by decide) rfl (fun ls hl => ?_)
        refine lv_goto (tgt := 2) hx hb d_Places_reset_35 (by decide) ?_
        exact ih (x1 + 1) (upd g_now x1.toNatClampNeg (tbV t_first x1.toNatClampNeg)) _ _ ls hP hD hS (lv_sub hl [1, 0] rfl) hf
set_option maxHeartbeats 4000000 in
set_option maxRecDepth 100000 in
theorem c_Places_reset (l : Launch) (D : va_G) (cI cZ cJ : ClassId) (tq : Nat → Nat) (k : Nat) (h0 : Nat) (h_now : Nat) (sz : Nat) (f_template : Int32) (t_first : Nat) (t_loosePlaces : Nat) (n_now : Nat) (g_now : Nat → Int32) (o_g_now : Nat → Int32) (hf : F_Places_reset k t_first n_now g_now = some o_g_now) : Met l y_Places_reset ws_Places_reset RM_Places_reset (va_Pc [.ref h0] (Pg D cI cZ cJ tq (wd_Places_reset cI cZ cJ tq h0 h_now f_template t_first t_loosePlaces n_now g_now) sz)) (qV D cI cZ cJ (va_A (wd_Places_reset cI cZ cJ tq h0 h_now f_template t_first t_loosePlaces n_now g_now) sz) (wd_Places_reset cI cZ cJ tq h0 h_now f_template t_first t_loosePlaces n_now o_g_now)) 0 0 (va_A (wd_Places_reset cI cZ cJ tq h0 h_now f_template t_first t_loosePlaces n_now g_now) sz) := by
  refine Met.ofW (cc := b_Places_reset) (maxL := 2) (ret := none) (by decide) rfl ?_
  intro p e s m args below meth c s₁ B hml hv
  obtain ⟨rfl, hsz, hP, hK, hD0, hG⟩ := hv
  have hx := B.exec
  have hb := B.bytes
  have hr := B.returns
  have htw : ∀ w ∈ W_all, w.before [.ref h0].toArray s = true := fun w h => atoms_spec (ws := ws_Places_reset) B.pre w (List.mem_cons_of_mem _ h)
  have hown : s.vm.findClass R_Places = some m.cls := findClass_of_methodNamed B.named
  have hlocks := B.notSynchronized
  subst hsz
  have hD := hD0.self (sz := s.heap.size)
  generalize hAe : va_A (wd_Places_reset cI cZ cJ tq h0 h_now f_template t_first t_loosePlaces n_now g_now) s.heap.size = A at hD hG ⊢
  have hA : ∀ q : Nat, s.heap.size ≤ q → A q := fun q h => by rw [← hAe]; exact Or.inr h
  have hS : va_S A s.heap s.heap [] := va_S.rf
  have C0 : cx p s m meth c [.ref h0].toArray b_Places_reset none 2 R_Places D cI cZ cJ tq A := ⟨hx, hb, hr, hml, hown, htw, hlocks, hK, hG⟩
  have hl := lv_entry ([.ref h0]) (n := 2) (Nat.le_of_ble_eq_true rfl)
  rw [lg_entry_eq]
  generalize (lg_sl ([.ref h0]) ++ List.replicate (2 - (lg_sl ([.ref h0])).length) Slot.unset).toArray = ls at hl ⊢
  have hl : lv_has ls 2 [(0, .ref h0)] := hl
  have hP : va_P D classes (wd_Places_reset cI cZ cJ tq h0 h_now f_template t_first t_loosePlaces n_now g_now) s.heap := hP
  clear hAe
  unfold F_Places_reset at hf
  refine lv_iconst (v := 0) hx hb d_Places_reset_0 (by decide) ?_
  refine lv_istore_n (lv' := [(1, .int 0), (0, .ref h0)]) hx hb d_Places_reset_1 rfl hl (by decide) rfl (fun ls hl => ?_)
  exact w_Places_reset_2 k h0 h_now f_template t_first t_loosePlaces n_now o_g_now C0 hA k 0 g_now _ _ ls hP hD hS (lv_sub hl [1, 0] rfl) hf
-- Plane_mask
abbrev RM_Plane_mask : Room := { frames := 0, cells := 0, slots := 0, locals := 0 }
def ws_Plane_mask : List Cond := .code y_Plane_mask b_Plane_mask 2 (some .int) :: W_all
def wd_Plane_mask (cI cZ cJ : ClassId) (tq : Nat → Nat) (h0 : Nat) (h_rows : Nat) (f_width : Int32) (n_rows : Nat) (g_rows : Nat → Int32) : va_W := [(h0, .inr (4, [.int f_width, .ref h_rows])), (h_rows, .inl (cI, n_rows, .inl g_rows))]
def F_Plane_mask (x1 : Int32) (n_rows : Nat) (g_rows : Nat → Int32) : Option (Int32) :=
  (if x1 < 0 then (some 0) else (if (nI n_rows) ≤ x1 then (some 0) else (if x1 < 0 ∨ n_rows ≤ x1.toNatClampNeg then none else (some (g_rows x1.toNatClampNeg)))))
set_option maxHeartbeats 4000000 in
set_option maxRecDepth 100000 in
theorem c_Plane_mask (l : Launch) (D : va_G) (cI cZ cJ : ClassId) (tq : Nat → Nat) (h0 : Nat) (h_rows : Nat) (sz : Nat) (f_width : Int32) (n_rows : Nat) (g_rows : Nat → Int32) (x1 : Int32) (o_r : Int32) (hf : F_Plane_mask x1 n_rows g_rows = some o_r) : Met l y_Plane_mask ws_Plane_mask RM_Plane_mask (va_Pc [.ref h0, .int x1] (Pg D cI cZ cJ tq (wd_Plane_mask cI cZ cJ tq h0 h_rows f_width n_rows g_rows) sz)) (qI D cI cZ cJ (va_A (wd_Plane_mask cI cZ cJ tq h0 h_rows f_width n_rows g_rows) sz) o_r (wd_Plane_mask cI cZ cJ tq h0 h_rows f_width n_rows g_rows)) 0 0 (va_A (wd_Plane_mask cI cZ cJ tq h0 h_rows f_width n_rows g_rows) sz) := by
  refine Met.ofW (cc := b_Plane_mask) (maxL := 2) (ret := (some .int)) (by decide) rfl ?_
  intro p e s m args below meth c s₁ B hml hv
  obtain ⟨rfl, hsz, hP, hK, hD0, hG⟩ := hv
  have hx := B.exec
  have hb := B.bytes
  have hr := B.returns
  have htw : ∀ w ∈ W_all, w.before [.ref h0, .int x1].toArray s = true := fun w h => atoms_spec (ws := ws_Plane_mask) B.pre w (List.mem_cons_of_mem _ h)
  have hown : s.vm.findClass R_Plane = some m.cls := findClass_of_methodNamed B.named
  have hlocks := B.notSynchronized
  subst hsz
  have hD := hD0.self (sz := s.heap.size)
  generalize hAe : va_A (wd_Plane_mask cI cZ cJ tq h0 h_rows f_width n_rows g_rows) s.heap.size = A at hD hG ⊢
  have hA : ∀ q : Nat, s.heap.size ≤ q → A q := fun q h => by rw [← hAe]; exact Or.inr h
  have hS : va_S A s.heap s.heap [] := va_S.rf
  have C0 : cx p s m meth c [.ref h0, .int x1].toArray b_Plane_mask (some .int) 2 R_Plane D cI cZ cJ tq A := ⟨hx, hb, hr, hml, hown, htw, hlocks, hK, hG⟩
  have hl := lv_entry ([.ref h0, .int x1]) (n := 2) (Nat.le_of_ble_eq_true rfl)
  rw [lg_entry_eq]
  generalize (lg_sl ([.ref h0, .int x1]) ++ List.replicate (2 - (lg_sl ([.ref h0, .int x1])).length) Slot.unset).toArray = ls at hl ⊢
  have hl : lv_has ls 2 [(0, .ref h0), (1, .int x1)] := hl
  have hP : va_P D classes (wd_Plane_mask cI cZ cJ tq h0 h_rows f_width n_rows g_rows) s.heap := hP
  clear hAe
  unfold F_Plane_mask at hf
  refine lv_iload_n hx hb d_Plane_mask_0 rfl (lv_at hl 1 rfl) ?_
  refine lv_if_lt (tgt := 22) hx hb d_Plane_mask_1 (by decide) (fun c1 => ?_) (fun c1 => ?_)
  · have hf := it_t hf c1
    refine lv_iconst (v := 0) hx hb d_Plane_mask_22 (by decide) ?_
    have e0 := Option.some.inj hf
    subst e0
    exact W.iret (v := 0) hx hb hr (fun t ht hW => ⟨⟨_, (), rfl, rfl, by rw [ht]; exact hP, va_K.moved hW.alike hK, hD⟩, hS.F ht⟩) hS.2.2 d_Plane_mask_23 hlocks
  · have hf := it_f hf c1
    refine lv_iload_n hx hb d_Plane_mask_4 rfl (lv_at hl 1 rfl) ?_
    refine lv_aload_n hx hb d_Plane_mask_5 rfl (lv_at hl 0 rfl) ?_
    refine va_get (D := D) (ci := 4) (v := .ref h_rows) (C := R_Plane) (T := F_Plane) (N := 2) hx hb htw i_Plane hown hK hP 0 rfl rfl 1 (by decide) (htw _ in47) (fun _ h9 => h9) rfl d_Plane_mask_6 ?_
    refine va_alen (v := nI n_rows) hx hb hK hP 1 0 rfl rfl rfl d_Plane_mask_9 ?_
    refine lv_icmp_ge (tgt := 22) hx hb d_Plane_mask_10 (by decide) (fun c10 => ?_) (fun c10 => ?_)
    · have hf := it_t hf c10
      refine lv_iconst (v := 0) hx hb d_Plane_mask_22 (by decide) ?_
      have e0 := Option.some.inj hf
      subst e0
      exact W.iret (v := 0) hx hb hr (fun t ht hW => ⟨⟨_, (), rfl, rfl, by rw [ht]; exact hP, va_K.moved hW.alike hK, hD⟩, hS.F ht⟩) hS.2.2 d_Plane_mask_23 hlocks
    · have hf := it_f hf c10
      refine lv_aload_n hx hb d_Plane_mask_13 rfl (lv_at hl 0 rfl) ?_
      refine va_get (D := D) (ci := 4) (v := .ref h_rows) (C := R_Plane) (T := F_Plane) (N := 2) hx hb htw i_Plane hown hK hP 0 rfl rfl 1 (by decide) (htw _ in47) (fun _ h9 => h9) rfl d_Plane_mask_14 ?_
      refine lv_iload_n hx hb d_Plane_mask_17 rfl (lv_at hl 1 rfl) ?_
      by_cases g18 : x1 < 0 ∨ n_rows ≤ x1.toNatClampNeg
      · exact no_some (it_t hf g18)
      have hf := it_f hf g18
      refine va_iald hx hb hK hP 1 0 rfl rfl g18 d_Plane_mask_18 ?_
      refine lv_goto (tgt := 23) hx hb d_Plane_mask_19 (by decide) ?_
      have e0 := Option.some.inj hf
      subst e0
      exact W.iret (v := (g_rows x1.toNatClampNeg)) hx hb hr (fun t ht hW => ⟨⟨_, (), rfl, rfl, by rw [ht]; exact hP, va_K.moved hW.alike hK, hD⟩, hS.F ht⟩) hS.2.2 d_Plane_mask_23 hlocks
