-- Ways_change
abbrev RM_Ways_change : Room := { frames := 0, cells := 0, slots := 0, locals := 0 }
def ws_Ways_change : List Cond := .code y_Ways_change b_Ways_change 4 (some .boolean) :: W_all
def wd_Ways_change (cI cZ cJ : ClassId) (tq : Nat → Nat) (h0 : Nat) (f_typical : Int32) (f_byFax : Int32) (f_open : Int32) : va_W := [(h0, .inr (8, [.int f_typical, .int f_byFax, .int f_open]))]
def F_Ways_change_45 (x2 : Int32) (x3 : Int32) (f_typical : Int32) (f_byFax : Int32) (f_open : Int32) : Option (Int32 × Int32 × Int32 × Int32) :=
  (if x3 = x2 then (some (0, f_typical, f_byFax, f_open)) else (some (1, f_typical, f_byFax, f_open)))
def F_Ways_change (x1 : Int32) (x2 : Int32) (f_typical : Int32) (f_byFax : Int32) (f_open : Int32) : Option (Int32 × Int32 × Int32 × Int32) :=
  (if x1 = 0 then (if ¬ (x2 = 0 ∨ x2 = 1) then none else (F_Ways_change_45 x2 f_typical x2 f_byFax f_open)) else (if x1 = (1 : Int32) then (if ¬ (x2 = 0 ∨ x2 = 1) then none else (F_Ways_change_45 x2 f_byFax f_typical x2 f_open)) else (if ¬ (x2 = 0 ∨ x2 = 1) then none else (F_Ways_change_45 x2 f_open f_typical f_byFax x2))))
set_option maxHeartbeats 4000000 in
set_option maxRecDepth 100000 in
theorem w_Ways_change_45 {p : Program} {l : Launch} {e : Env} {s : State} {m : MethodId} {args : Array Value} {below : List Frame} {meth : Method} {c : Code} {D : va_G} {cI cZ cJ : ClassId} {tq : Nat → Nat} {A : Nat → Prop} (h0 : Nat) (o_r : Int32) (o_f_typical : Int32) (o_f_byFax : Int32) (o_f_open : Int32) (C0 : cx p s m meth c args b_Ways_change (some .boolean) 4 R_Ways D cI cZ cJ tq A) (hA : ∀ q : Nat, s.heap.size ≤ q → A q) : ∀ (x2 : Int32) (x3 : Int32) (f_typical : Int32) (f_byFax : Int32) (f_open : Int32) (H : Heap) (locs : List Loc) (ls : Array Slot), va_P D classes (wd_Ways_change cI cZ cJ tq h0 f_typical f_byFax f_open) H → va_D A (wd_Ways_change cI cZ cJ tq h0 f_typical f_byFax f_open) → va_S A s.heap H locs → lv_has ls 4 [(2, .int x2), (3, .int x3)] → F_Ways_change_45 x2 x3 f_typical f_byFax f_open = some (o_r, o_f_typical, o_f_byFax, o_f_open) → W p l e RM_Ways_change s m args below meth c H locs 0 0 (MQ below (qI D cI cZ cJ A o_r (wd_Ways_change cI cZ cJ tq h0 o_f_typical o_f_byFax o_f_open)) args s 0 0 A) (F0 m 45 ls []) := by
  obtain ⟨hx, hb, hr, hml, hown, htw, hlocks, hK, hG⟩ := id C0
  intro x2 x3 f_typical f_byFax f_open H locs ls hP hD hS hl hf
  unfold F_Ways_change_45 at hf
  refine lv_iload_n hx hb d_Ways_change_45 rfl (lv_at hl 1 rfl) ?_
  refine lv_iload_n hx hb d_Ways_change_46 rfl (lv_at hl 0 rfl) ?_
  refine lv_icmp_eq (tgt := 54) hx hb d_Ways_change_47 (by decide) (fun c47 => ?_) (fun c47 => ?_)
  · have hf := it_t hf c47
    refine lv_iconst (v := 0) hx hb d_Ways_change_54 (by decide) ?_
    obtain ⟨e0, e1, e2, e3⟩ := so4 hf
    subst e0; subst e1; subst e2; subst e3
    exact W.zret (v := 0) hx hb hr rfl (fun t ht hW => ⟨⟨_, (), rfl, rfl, by rw [ht]; exact hP, va_K.moved hW.alike hK, hD⟩, hS.F ht⟩) hS.2.2 d_Ways_change_55 hlocks
  · have hf := it_f hf c47
    refine lv_iconst (v := 1) hx hb d_Ways_change_50 (by decide) ?_
    refine lv_goto (tgt := 55) hx hb d_Ways_change_51 (by decide) ?_
    obtain ⟨e0, e1, e2, e3⟩ := so4 hf
    subst e0; subst e1; subst e2; subst e3
    exact W.zret (v := 1) hx hb hr rfl (fun t ht hW => ⟨⟨_, (), rfl, rfl, by rw [ht]; exact hP, va_K.moved hW.alike hK, hD⟩, hS.F ht⟩) hS.2.2 d_Ways_change_55 hlocks
set_option maxHeartbeats 4000000 in
set_option maxRecDepth 100000 in
theorem c_Ways_change (l : Launch) (D : va_G) (cI cZ cJ : ClassId) (tq : Nat → Nat) (h0 : Nat) (sz : Nat) (f_typical : Int32) (f_byFax : Int32) (f_open : Int32) (x1 : Int32) (x2 : Int32) (o_r : Int32) (o_f_typical : Int32) (o_f_byFax : Int32) (o_f_open : Int32) (hf : F_Ways_change x1 x2 f_typical f_byFax f_open = some (o_r, o_f_typical, o_f_byFax, o_f_open)) : Met l y_Ways_change ws_Ways_change RM_Ways_change (va_Pc [.ref h0, .int x1, .int x2] (Pg D cI cZ cJ tq (wd_Ways_change cI cZ cJ tq h0 f_typical f_byFax f_open) sz)) (qI D cI cZ cJ (va_A (wd_Ways_change cI cZ cJ tq h0 f_typical f_byFax f_open) sz) o_r (wd_Ways_change cI cZ cJ tq h0 o_f_typical o_f_byFax o_f_open)) 0 0 (va_A (wd_Ways_change cI cZ cJ tq h0 f_typical f_byFax f_open) sz) := by
  refine Met.ofW (cc := b_Ways_change) (maxL := 4) (ret := (some .boolean)) (by decide) rfl ?_
  intro p e s m args below meth c s₁ B hml hv
  obtain ⟨rfl, hsz, hP, hK, hD0, hG⟩ := hv
  have hx := B.exec
  have hb := B.bytes
  have hr := B.returns
  have htw : ∀ w ∈ W_all, w.before [.ref h0, .int x1, .int x2].toArray s = true := fun w h => atoms_spec (ws := ws_Ways_change) B.pre w (List.mem_cons_of_mem _ h)
  have hown : s.vm.findClass R_Ways = some m.cls := findClass_of_methodNamed B.named
  have hlocks := B.notSynchronized
  subst hsz
  have hD := hD0.self (sz := s.heap.size)
  generalize hAe : va_A (wd_Ways_change cI cZ cJ tq h0 f_typical f_byFax f_open) s.heap.size = A at hD hG ⊢
  have hA : ∀ q : Nat, s.heap.size ≤ q → A q := fun q h => by rw [← hAe]; exact Or.inr h
  have hS : va_S A s.heap s.heap [] := va_S.rf
  have C0 : cx p s m meth c [.ref h0, .int x1, .int x2].toArray b_Ways_change (some .boolean) 4 R_Ways D cI cZ cJ tq A := ⟨hx, hb, hr, hml, hown, htw, hlocks, hK, hG⟩
  have hl := lv_entry ([.ref h0, .int x1, .int x2]) (n := 4) (Nat.le_of_ble_eq_true rfl)
  rw [lg_entry_eq]
  generalize (lg_sl ([.ref h0, .int x1, .int x2]) ++ List.replicate (4 - (lg_sl ([.ref h0, .int x1, .int x2])).length) Slot.unset).toArray = ls at hl ⊢
  have hl : lv_has ls 4 [(0, .ref h0), (1, .int x1), (2, .int x2)] := hl
  have hP : va_P D classes (wd_Ways_change cI cZ cJ tq h0 f_typical f_byFax f_open) s.heap := hP
  clear hAe
  unfold F_Ways_change at hf
  refine lv_iload_n hx hb d_Ways_change_0 rfl (lv_at hl 1 rfl) ?_
  refine lv_if_ne (tgt := 17) hx hb d_Ways_change_1 (by decide) (fun c1 => ?_) (fun c1 => ?_)
  · have hf := it_f hf c1
    refine lv_iload_n hx hb d_Ways_change_17 rfl (lv_at hl 1 rfl) ?_
    refine lv_iconst (v := 1) hx hb d_Ways_change_18 (by decide) ?_
    refine lv_icmp_ne (tgt := 35) hx hb d_Ways_change_19 (by decide) (fun c19 => ?_) (fun c19 => ?_)
    · have hf := it_f hf c19
      refine lv_aload_n hx hb d_Ways_change_35 rfl (lv_at hl 0 rfl) ?_
      refine va_get (D := D) (ci := 8) (v := .int f_open) (C := R_Ways) (T := F_Ways) (N := 3) hx hb htw i_Ways hown hK hP 0 rfl rfl 2 (by decide) (htw _ in63) (fun _ h9 => h9) rfl d_Ways_change_36 ?_
      refine lv_istore_n (lv' := [(3, .int f_open), (0, .ref h0), (1, .int x1), (2, .int x2)]) hx hb d_Ways_change_39 rfl hl (by decide) rfl (fun ls hl => ?_)
      refine lv_aload_n hx hb d_Ways_change_40 rfl (lv_at hl 1 rfl) ?_
      refine lv_iload_n hx hb d_Ways_change_41 rfl (lv_at hl 3 rfl) ?_
      by_cases g42 : ¬ (x2 = 0 ∨ x2 = 1)
      · exact no_some (it_t hf g42)
      have hf := it_f hf g42
      refine va_put (D := D) (ci := 8) (v := .int x2) (ty := .boolean) (C := R_Ways) (T := F_Ways) (N := 3) hx hb htw i_Ways t_Ways t_Ways_ok n_Ways hown hK hP hD hS 0 rfl rfl 2 (by decide) (htw _ in63) (fun _ h9 => h9) rfl (by decide +kernel) (bz_nar g42) (bz_fit g42) (Nat.le_of_ble_eq_true rfl) d_Ways_change_42 (fun H locs hP hD hS => ?_)
      have hP : va_P D classes (wd_Ways_change cI cZ cJ tq h0 f_typical f_byFax x2) H := hP
      have hD : va_D A (wd_Ways_change cI cZ cJ tq h0 f_typical f_byFax x2) := hD
      exact w_Ways_change_45 h0 o_r o_f_typical o_f_byFax o_f_open C0 hA x2 f_open f_typical f_byFax x2 _ _ ls hP hD hS (lv_sub hl [3, 0] rfl) hf
    · have hf := it_t hf c19
      refine lv_aload_n hx hb d_Ways_change_22 rfl (lv_at hl 0 rfl) ?_
      refine va_get (D := D) (ci := 8) (v := .int f_byFax) (C := R_Ways) (T := F_Ways) (N := 3) hx hb htw i_Ways hown hK hP 0 rfl rfl 1 (by decide) (htw _ in92) (fun _ h9 => h9) rfl d_Ways_change_23 ?_
      refine lv_istore_n (lv' := [(3, .int f_byFax), (0, .ref h0), (1, .int x1), (2, .int x2)]) hx hb d_Ways_change_26 rfl hl (by decide) rfl (fun ls hl => ?_)
      refine lv_aload_n hx hb d_Ways_change_27 rfl (lv_at hl 1 rfl) ?_
      refine lv_iload_n hx hb d_Ways_change_28 rfl (lv_at hl 3 rfl) ?_
      by_cases g29 : ¬ (x2 = 0 ∨ x2 = 1)
      · exact no_some (it_t hf g29)
      have hf := it_f hf g29
      refine va_put (D := D) (ci := 8) (v := .int x2) (ty := .boolean) (C := R_Ways) (T := F_Ways) (N := 3) hx hb htw i_Ways t_Ways t_Ways_ok n_Ways hown hK hP hD hS 0 rfl rfl 1 (by decide) (htw _ in92) (fun _ h9 => h9) rfl (by decide +kernel) (bz_nar g29) (bz_fit g29) (Nat.le_of_ble_eq_true rfl) d_Ways_change_29 (fun H locs hP hD hS => ?_)
      have hP : va_P D classes (wd_Ways_change cI cZ cJ tq h0 f_typical x2 f_open) H := hP
      have hD : va_D A (wd_Ways_change cI cZ cJ tq h0 f_typical x2 f_open) := hD
      refine lv_goto (tgt := 45) hx hb d_Ways_change_32 (by decide) ?_
      exact w_Ways_change_45 h0 o_r o_f_typical o_f_byFax o_f_open C0 hA x2 f_byFax f_typical x2 f_open _ _ ls hP hD hS (lv_sub hl [3, 0] rfl) hf
  · have hf := it_t hf c1
    refine lv_aload_n hx hb d_Ways_change_4 rfl (lv_at hl 0 rfl) ?_
    refine va_get (D := D) (ci := 8) (v := .int f_typical) (C := R_Ways) (T := F_Ways) (N := 3) hx hb htw i_Ways hown hK hP 0 rfl rfl 0 (by decide) (htw _ in163) (fun _ h9 => h9) rfl d_Ways_change_5 ?_
    refine lv_istore_n (lv' := [(3, .int f_typical), (0, .ref h0), (1, .int x1), (2, .int x2)]) hx hb d_Ways_change_8 rfl hl (by decide) rfl (fun ls hl => ?_)
    refine lv_aload_n hx hb d_Ways_change_9 rfl (lv_at hl 1 rfl) ?_
    refine lv_iload_n hx hb d_Ways_change_10 rfl (lv_at hl 3 rfl) ?_
    by_cases g11 : ¬ (x2 = 0 ∨ x2 = 1)
    · exact no_some (it_t hf g11)
    have hf := it_f hf g11
    refine va_put (D := D) (ci := 8) (v := .int x2) (ty := .boolean) (C := R_Ways) (T := F_Ways) (N := 3) hx hb htw i_Ways t_Ways t_Ways_ok n_Ways hown hK hP hD hS 0 rfl rfl 0 (by decide) (htw _ in163) (fun _ h9 => h9) rfl (by decide +kernel) (bz_nar g11) (bz_fit g11) (Nat.le_of_ble_eq_true rfl) d_Ways_change_11 (fun H locs hP hD hS => ?_)
    have hP : va_P D classes (wd_Ways_change cI cZ cJ tq h0 x2 f_byFax f_open) H := hP
    have hD : va_D A (wd_Ways_change cI cZ cJ tq h0 x2 f_byFax f_open) := hD
    refine lv_goto (tgt := 45) hx hb d_Ways_change_14 (by decide) ?_
    exact w_Ways_change_45 h0 o_r o_f_typical o_f_byFax o_f_open C0 hA x2 f_typical x2 f_byFax f_open _ _ ls hP hD hS (lv_sub hl [3, 0] rfl) hf
-- Ways_reset
abbrev RM_Ways_reset : Room := { frames := 0, cells := 0, slots := 0, locals := 0 }
def ws_Ways_reset : List Cond := .code y_Ways_reset b_Ways_reset 1 none :: W_all
def wd_Ways_reset (cI cZ cJ : ClassId) (tq : Nat → Nat) (h0 : Nat) (f_typical : Int32) (f_byFax : Int32) (f_open : Int32) : va_W := [(h0, .inr (8, [.int f_typical, .int f_byFax, .int f_open]))]
def F_Ways_reset (f_typical : Int32) (f_byFax : Int32) (f_open : Int32) : Option (Int32 × Int32 × Int32) :=
  (some (0, 0, 0))
set_option maxHeartbeats 4000000 in
set_option maxRecDepth 100000 in
theorem c_Ways_reset (l : Launch) (D : va_G) (cI cZ cJ : ClassId) (tq : Nat → Nat) (h0 : Nat) (sz : Nat) (f_typical : Int32) (f_byFax : Int32) (f_open : Int32) (o_f_typical : Int32) (o_f_byFax : Int32) (o_f_open : Int32) (hf : F_Ways_reset f_typical f_byFax f_open = some (o_f_typical, o_f_byFax, o_f_open)) : Met l y_Ways_reset ws_Ways_reset RM_Ways_reset (va_Pc [.ref h0] (Pg D cI cZ cJ tq (wd_Ways_reset cI cZ cJ tq h0 f_typical f_byFax f_open) sz)) (qV D cI cZ cJ (va_A (wd_Ways_reset cI cZ cJ tq h0 f_typical f_byFax f_open) sz) (wd_Ways_reset cI cZ cJ tq h0 o_f_typical o_f_byFax o_f_open)) 0 0 (va_A (wd_Ways_reset cI cZ cJ tq h0 f_typical f_byFax f_open) sz) := by
  refine Met.ofW (cc := b_Ways_reset) (maxL := 1) (ret := none) (by decide) rfl ?_
  intro p e s m args below meth c s₁ B hml hv
  obtain ⟨rfl, hsz, hP, hK, hD0, hG⟩ := hv
  have hx := B.exec
  have hb := B.bytes
  have hr := B.returns
  have htw : ∀ w ∈ W_all, w.before [.ref h0].toArray s = true := fun w h => atoms_spec (ws := ws_Ways_reset) B.pre w (List.mem_cons_of_mem _ h)
  have hown : s.vm.findClass R_Ways = some m.cls := findClass_of_methodNamed B.named
  have hlocks := B.notSynchronized
  subst hsz
  have hD := hD0.self (sz := s.heap.size)
  generalize hAe : va_A (wd_Ways_reset cI cZ cJ tq h0 f_typical f_byFax f_open) s.heap.size = A at hD hG ⊢
  have hA : ∀ q : Nat, s.heap.size ≤ q → A q := fun q h => by rw [← hAe]; exact Or.inr h
  have hS : va_S A s.heap s.heap [] := va_S.rf
  have C0 : cx p s m meth c [.ref h0].toArray b_Ways_reset none 1 R_Ways D cI cZ cJ tq A := ⟨hx, hb, hr, hml, hown, htw, hlocks, hK, hG⟩
  have hl := lv_entry ([.ref h0]) (n := 1) (Nat.le_of_ble_eq_true rfl)
  rw [lg_entry_eq]
  generalize (lg_sl ([.ref h0]) ++ List.replicate (1 - (lg_sl ([.ref h0])).length) Slot.unset).toArray = ls at hl ⊢
  have hl : lv_has ls 1 [(0, .ref h0)] := hl
  have hP : va_P D classes (wd_Ways_reset cI cZ cJ tq h0 f_typical f_byFax f_open) s.heap := hP
  clear hAe
  unfold F_Ways_reset at hf
  refine lv_aload_n hx hb d_Ways_reset_0 rfl (lv_at hl 0 rfl) ?_
  refine lv_iconst (v := 0) hx hb d_Ways_reset_1 (by decide) ?_
  refine va_put (D := D) (ci := 8) (v := .int 0) (ty := .boolean) (C := R_Ways) (T := F_Ways) (N := 3) hx hb htw i_Ways t_Ways t_Ways_ok n_Ways hown hK hP hD hS 0 rfl rfl 0 (by decide) (htw _ in163) (fun _ h9 => h9) rfl (by decide +kernel) rfl rfl (Nat.le_of_ble_eq_true rfl) d_Ways_reset_2 (fun H locs hP hD hS => ?_)
  have hP : va_P D classes (wd_Ways_reset cI cZ cJ tq h0 0 f_byFax f_open) H := hP
  have hD : va_D A (wd_Ways_reset cI cZ cJ tq h0 0 f_byFax f_open) := hD
  refine lv_aload_n hx hb d_Ways_reset_5 rfl (lv_at hl 0 rfl) ?_
  refine lv_iconst (v := 0) hx hb d_Ways_reset_6 (by decide) ?_
  refine va_put (D := D) (ci := 8) (v := .int 0) (ty := .boolean) (C := R_Ways) (T := F_Ways) (N := 3) hx hb htw i_Ways t_Ways t_Ways_ok n_Ways hown hK hP hD hS 0 rfl rfl 1 (by decide) (htw _ in92) (fun _ h9 => h9) rfl (by decide +kernel) rfl rfl (Nat.le_of_ble_eq_true rfl) d_Ways_reset_7 (fun H locs hP hD hS => ?_)
  have hP : va_P D classes (wd_Ways_reset cI cZ cJ tq h0 0 0 f_open) H := hP
  have hD : va_D A (wd_Ways_reset cI cZ cJ tq h0 0 0 f_open) := hD
  refine lv_aload_n hx hb d_Ways_reset_10 rfl (lv_at hl 0 rfl) ?_
  refine lv_iconst (v := 0) hx hb d_Ways_reset_11 (by decide) ?_
  refine va_put (D := D) (ci := 8) (v := .int 0) (ty := .boolean) (C := R_Ways) (T := F_Ways) (N := 3) hx hb htw i_Ways t_Ways t_Ways_ok n_Ways hown hK hP hD hS 0 rfl rfl 2 (by decide) (htw _ in63) (fun _ h9 => h9) rfl (by decide +kernel) rfl rfl (Nat.le_of_ble_eq_true rfl) d_Ways_reset_12 (fun H locs hP hD hS => ?_)
  have hP : va_P D classes (wd_Ways_reset cI cZ cJ tq h0 0 0 0) H := hP
  have hD : va_D A (wd_Ways_reset cI cZ cJ tq h0 0 0 0) := hD
  obtain ⟨e0, e1, e2⟩ := so3 hf
  subst e0; subst e1; subst e2
  exact W.vret hx hb hr (fun t ht hW => ⟨⟨(), rfl, trivial, by rw [ht]; exact hP, va_K.moved hW.alike hK, hD⟩, hS.F ht⟩) hS.2.2 d_Ways_reset_15 hlocks
-- GR_nearest
abbrev RM_GR_nearest : Room := { frames := 1, cells := 0, slots := 0, locals := 24 }
def ws_GR_nearest : List Cond := .code y_GR_nearest b_GR_nearest 3 (some .int) :: W_all
def wd_GR_nearest (cI cZ cJ : ClassId) (tq : Nat → Nat)  : va_W := []
def F_GR_nearest (x0 : Int32) (x1 : Int32) (x2 : Int32) : Option (Int32) :=
  (some (maI x1 (miI x2 x0)))
set_option maxHeartbeats 4000000 in
set_option maxRecDepth 100000 in
theorem c_GR_nearest (l : Launch) (D : va_G) (cI cZ cJ : ClassId) (tq : Nat → Nat) (sz : Nat) (x0 : Int32) (x1 : Int32) (x2 : Int32) (o_r : Int32) (hf : F_GR_nearest x0 x1 x2 = some o_r) : Met l y_GR_nearest ws_GR_nearest RM_GR_nearest (va_Pc [.int x0, .int x1, .int x2] (Pg D cI cZ cJ tq (wd_GR_nearest cI cZ cJ tq) sz)) (qI D cI cZ cJ (va_A (wd_GR_nearest cI cZ cJ tq) sz) o_r (wd_GR_nearest cI cZ cJ tq)) 0 0 (va_A (wd_GR_nearest cI cZ cJ tq) sz) := by
  refine Met.ofW (cc := b_GR_nearest) (maxL := 3) (ret := (some .int)) (by decide) rfl ?_
  intro p e s m args below meth c s₁ B hml hv
  obtain ⟨rfl, hsz, hP, hK, hD0, hG⟩ := hv
  have hx := B.exec
  have hb := B.bytes
  have hr := B.returns
  have htw : ∀ w ∈ W_all, w.before [.int x0, .int x1, .int x2].toArray s = true := fun w h => atoms_spec (ws := ws_GR_nearest) B.pre w (List.mem_cons_of_mem _ h)
  have hown : s.vm.findClass R_GR = some m.cls := findClass_of_methodNamed B.named
  have hlocks := B.notSynchronized
  subst hsz
  have hD := hD0.self (sz := s.heap.size)
  generalize hAe : va_A (wd_GR_nearest cI cZ cJ tq) s.heap.size = A at hD hG ⊢
  have hA : ∀ q : Nat, s.heap.size ≤ q → A q := fun q h => by rw [← hAe]; exact Or.inr h
  have hS : va_S A s.heap s.heap [] := va_S.rf
  have C0 : cx p s m meth c [.int x0, .int x1, .int x2].toArray b_GR_nearest (some .int) 3 R_GR D cI cZ cJ tq A := ⟨hx, hb, hr, hml, hown, htw, hlocks, hK, hG⟩
  have hl := lv_entry ([.int x0, .int x1, .int x2]) (n := 3) (Nat.le_of_ble_eq_true rfl)
  rw [lg_entry_eq]
  generalize (lg_sl ([.int x0, .int x1, .int x2]) ++ List.replicate (3 - (lg_sl ([.int x0, .int x1, .int x2])).length) Slot.unset).toArray = ls at hl ⊢
  have hl : lv_has ls 3 [(0, .int x0), (1, .int x1), (2, .int x2)] := hl
  have hP : va_P D classes (wd_GR_nearest cI cZ cJ tq) s.heap := hP
  clear hAe
  unfold F_GR_nearest at hf
  refine lv_iload_n hx hb d_GR_nearest_0 rfl (lv_at hl 1 rfl) ?_
  refine lv_iload_n hx hb d_GR_nearest_1 rfl (lv_at hl 2 rfl) ?_
  refine lv_iload_n hx hb d_GR_nearest_2 rfl (lv_at hl 0 rfl) ?_
  refine va_mmin hx hb (hml.trans hl.1.symm) hown (htw _ in295) (htw _ in296) (htw _ in98) (htw _ in297) (Nat.le_of_ble_eq_true rfl) (Nat.le_of_ble_eq_true rfl) (Nat.le_of_ble_eq_true rfl) (Nat.le_of_ble_eq_true rfl) d_GR_nearest_3 ?_
  refine va_mmax hx hb (hml.trans hl.1.symm) hown (htw _ in298) (htw _ in97) (htw _ in98) (htw _ in99) (Nat.le_of_ble_eq_true rfl) (Nat.le_of_ble_eq_true rfl) (Nat.le_of_ble_eq_true rfl) (Nat.le_of_ble_eq_true rfl) d_GR_nearest_6 ?_
  have e0 := Option.some.inj hf
  subst e0
  exact W.iret (v := (maI x1 (miI x2 x0))) hx hb hr (fun t ht hW => ⟨⟨_, (), rfl, rfl, by rw [ht]; exact hP, va_K.moved hW.alike hK, hD⟩, hS.F ht⟩) hS.2.2 d_GR_nearest_9 hlocks
-- GR_mostTold
abbrev RM_GR_mostTold : Room := { frames := 0, cells := 0, slots := 0, locals := 0 }
def ws_GR_mostTold : List Cond := .code y_GR_mostTold b_GR_mostTold 2 (some .int) :: W_all
def wd_GR_mostTold (cI cZ cJ : ClassId) (tq : Nat → Nat)  : va_W := []
def F_GR_mostTold (x0 : Int32) (x1 : Int32) : Option (Int32) :=
  (some ((x1 * (((7 : Int32) * (x0 + (1 : Int32))) + (2 : Int32))) + (1 : Int32)))
set_option maxHeartbeats 4000000 in
set_option maxRecDepth 100000 in
theorem c_GR_mostTold (l : Launch) (D : va_G) (cI cZ cJ : ClassId) (tq : Nat → Nat) (sz : Nat) (x0 : Int32) (x1 : Int32) (o_r : Int32) (hf : F_GR_mostTold x0 x1 = some o_r) : Met l y_GR_mostTold ws_GR_mostTold RM_GR_mostTold (va_Pc [.int x0, .int x1] (Pg D cI cZ cJ tq (wd_GR_mostTold cI cZ cJ tq) sz)) (qI D cI cZ cJ (va_A (wd_GR_mostTold cI cZ cJ tq) sz) o_r (wd_GR_mostTold cI cZ cJ tq)) 0 0 (va_A (wd_GR_mostTold cI cZ cJ tq) sz) := by
  refine Met.ofW (cc := b_GR_mostTold) (maxL := 2) (ret := (some .int)) (by decide) rfl ?_
  intro p e s m args below meth c s₁ B hml hv
  obtain ⟨rfl, hsz, hP, hK, hD0, hG⟩ := hv
  have hx := B.exec
  have hb := B.bytes
  have hr := B.returns
  have htw : ∀ w ∈ W_all, w.before [.int x0, .int x1].toArray s = true := fun w h => atoms_spec (ws := ws_GR_mostTold) B.pre w (List.mem_cons_of_mem _ h)
  have hown : s.vm.findClass R_GR = some m.cls := findClass_of_methodNamed B.named
  have hlocks := B.notSynchronized
  subst hsz
  have hD := hD0.self (sz := s.heap.size)
  generalize hAe : va_A (wd_GR_mostTold cI cZ cJ tq) s.heap.size = A at hD hG ⊢
  have hA : ∀ q : Nat, s.heap.size ≤ q → A q := fun q h => by rw [← hAe]; exact Or.inr h
  have hS : va_S A s.heap s.heap [] := va_S.rf
  have C0 : cx p s m meth c [.int x0, .int x1].toArray b_GR_mostTold (some .int) 2 R_GR D cI cZ cJ tq A := ⟨hx, hb, hr, hml, hown, htw, hlocks, hK, hG⟩
  have hl := lv_entry ([.int x0, .int x1]) (n := 2) (Nat.le_of_ble_eq_true rfl)
  rw [lg_entry_eq]
  generalize (lg_sl ([.int x0, .int x1]) ++ List.replicate (2 - (lg_sl ([.int x0, .int x1])).length) Slot.unset).toArray = ls at hl ⊢
  have hl : lv_has ls 2 [(0, .int x0), (1, .int x1)] := hl
  have hP : va_P D classes (wd_GR_mostTold cI cZ cJ tq) s.heap := hP
  clear hAe
  unfold F_GR_mostTold at hf
  refine lv_iload_n hx hb d_GR_mostTold_0 rfl (lv_at hl 1 rfl) ?_
  refine lv_bipush (v := 7) hx hb d_GR_mostTold_1 (by decide) ?_
  refine lv_iload_n hx hb d_GR_mostTold_3 rfl (lv_at hl 0 rfl) ?_
  refine lv_iconst (v := 1) hx hb d_GR_mostTold_4 (by decide) ?_
  refine lv_iadd hx hb d_GR_mostTold_5 ?_
  refine lv_imul hx hb d_GR_mostTold_6 ?_
  refine lv_iconst (v := 2) hx hb d_GR_mostTold_7 (by decide) ?_
  refine lv_iadd hx hb d_GR_mostTold_8 ?_
  refine lv_imul hx hb d_GR_mostTold_9 ?_
  refine lv_iconst (v := 1) hx hb d_GR_mostTold_10 (by decide) ?_
  refine lv_iadd hx hb d_GR_mostTold_11 ?_
  have e0 := Option.some.inj hf
  subst e0
  exact W.iret (v := ((x1 * (((7 : Int32) * (x0 + (1 : Int32))) + (2 : Int32))) + (1 : Int32))) hx hb hr (fun t ht hW => ⟨⟨_, (), rfl, rfl, by rw [ht]; exact hP, va_K.moved hW.alike hK, hD⟩, hS.F ht⟩) hS.2.2 d_GR_mostTold_12 hlocks
-- JInt_bitCount
abbrev RM_JInt_bitCount : Room := { frames := 0, cells := 0, slots := 0, locals := 0 }
def ws_JInt_bitCount : List Cond := .code y_JInt_bitCount b_JInt_bitCount 1 (some .int) :: W_all
def wd_JInt_bitCount (cI cZ cJ : ClassId) (tq : Nat → Nat)  : va_W := []
def F_JInt_bitCount (x0 : Int32) : Option (Int32) :=
  (some ((((((((x0 - ((ushr x0 1) &&& (1431655765 : Int32))) &&& (858993459 : Int32)) + ((ushr (x0 - ((ushr x0 1) &&& (1431655765 : Int32))) 2) &&& (858993459 : Int32))) + (ushr (((x0 - ((ushr x0 1) &&& (1431655765 : Int32))) &&& (858993459 : Int32)) + ((ushr (x0 - ((ushr x0 1) &&& (1431655765 : Int32))) 2) &&& (858993459 : Int32))) 4)) &&& (252645135 : Int32)) + (ushr (((((x0 - ((ushr x0 1) &&& (1431655765 : Int32))) &&& (858993459 : Int32)) + ((ushr (x0 - ((ushr x0 1) &&& (1431655765 : Int32))) 2) &&& (858993459 : Int32))) + (ushr (((x0 - ((ushr x0 1) &&& (1431655765 : Int32))) &&& (858993459 : Int32)) + ((ushr (x0 - ((ushr x0 1) &&& (1431655765 : Int32))) 2) &&& (858993459 : Int32))) 4)) &&& (252645135 : Int32)) 8)) + (ushr ((((((x0 - ((ushr x0 1) &&& (1431655765 : Int32))) &&& (858993459 : Int32)) + ((ushr (x0 - ((ushr x0 1) &&& (1431655765 : Int32))) 2) &&& (858993459 : Int32))) + (ushr (((x0 - ((ushr x0 1) &&& (1431655765 : Int32))) &&& (858993459 : Int32)) + ((ushr (x0 - ((ushr x0 1) &&& (1431655765 : Int32))) 2) &&& (858993459 : Int32))) 4)) &&& (252645135 : Int32)) + (ushr (((((x0 - ((ushr x0 1) &&& (1431655765 : Int32))) &&& (858993459 : Int32)) + ((ushr (x0 - ((ushr x0 1) &&& (1431655765 : Int32))) 2) &&& (858993459 : Int32))) + (ushr (((x0 - ((ushr x0 1) &&& (1431655765 : Int32))) &&& (858993459 : Int32)) + ((ushr (x0 - ((ushr x0 1) &&& (1431655765 : Int32))) 2) &&& (858993459 : Int32))) 4)) &&& (252645135 : Int32)) 8)) 16)) &&& (63 : Int32)))
set_option maxHeartbeats 4000000 in
set_option maxRecDepth 100000 in
theorem c_JInt_bitCount (l : Launch) (D : va_G) (cI cZ cJ : ClassId) (tq : Nat → Nat) (sz : Nat) (x0 : Int32) (o_r : Int32) (hf : F_JInt_bitCount x0 = some o_r) : Met l y_JInt_bitCount ws_JInt_bitCount RM_JInt_bitCount (va_Pc [.int x0] (Pg D cI cZ cJ tq (wd_JInt_bitCount cI cZ cJ tq) sz)) (qI D cI cZ cJ (va_A (wd_JInt_bitCount cI cZ cJ tq) sz) o_r (wd_JInt_bitCount cI cZ cJ tq)) 0 0 (va_A (wd_JInt_bitCount cI cZ cJ tq) sz) := by
  refine Met.ofW (cc := b_JInt_bitCount) (maxL := 1) (ret := (some .int)) (by decide) rfl ?_
  intro p e s m args below meth c s₁ B hml hv
  obtain ⟨rfl, hsz, hP, hK, hD0, hG⟩ := hv
  have hx := B.exec
  have hb := B.bytes
  have hr := B.returns
  have htw : ∀ w ∈ W_all, w.before [.int x0].toArray s = true := fun w h => atoms_spec (ws := ws_JInt_bitCount) B.pre w (List.mem_cons_of_mem _ h)
  have hown : s.vm.findClass R_JInt = some m.cls := findClass_of_methodNamed B.named
  have hlocks := B.notSynchronized
  subst hsz
  have hD := hD0.self (sz := s.heap.size)
  generalize hAe : va_A (wd_JInt_bitCount cI cZ cJ tq) s.heap.size = A at hD hG ⊢
  have hA : ∀ q : Nat, s.heap.size ≤ q → A q := fun q h => by rw [← hAe]; exact Or.inr h
  have hS : va_S A s.heap s.heap [] := va_S.rf
  have C0 : cx p s m meth c [.int x0].toArray b_JInt_bitCount (some .int) 1 R_JInt D cI cZ cJ tq A := ⟨hx, hb, hr, hml, hown, htw, hlocks, hK, hG⟩
  have hl := lv_entry ([.int x0]) (n := 1) (Nat.le_of_ble_eq_true rfl)
  rw [lg_entry_eq]
  generalize (lg_sl ([.int x0]) ++ List.replicate (1 - (lg_sl ([.int x0])).length) Slot.unset).toArray = ls at hl ⊢
  have hl : lv_has ls 1 [(0, .int x0)] := hl
  have hP : va_P D classes (wd_JInt_bitCount cI cZ cJ tq) s.heap := hP
  clear hAe
  unfold F_JInt_bitCount at hf
  refine lv_iload_n hx hb d_JInt_bitCount_0 rfl (lv_at hl 0 rfl) ?_
  refine lv_iload_n hx hb d_JInt_bitCount_1 rfl (lv_at hl 0 rfl) ?_
  refine lv_iconst (v := 1) hx hb d_JInt_bitCount_2 (by decide) ?_
  refine lv_iushr (v := (ushr x0 1)) hx hb d_JInt_bitCount_3 rfl ?_
  refine lv_ldcw (v := 1431655765) hx hb hown (htw _ in299) d_JInt_bitCount_4 ?_
  refine lv_iand hx hb d_JInt_bitCount_7 ?_
  refine lv_isub hx hb d_JInt_bitCount_8 ?_
  refine lv_istore_n (lv' := [(0, .int (x0 - ((ushr x0 1) &&& (1431655765 : Int32))))]) hx hb d_JInt_bitCount_9 rfl hl (by decide) rfl (fun ls hl => ?_)
  refine lv_iload_n hx hb d_JInt_bitCount_10 rfl (lv_at hl 0 rfl) ?_
  refine lv_ldcw (v := 858993459) hx hb hown (htw _ in300) d_JInt_bitCount_11 ?_
  refine lv_iand hx hb d_JInt_bitCount_14 ?_
  refine lv_iload_n hx hb d_JInt_bitCount_15 rfl (lv_at hl 0 rfl) ?_
  refine lv_iconst (v := 2) hx hb d_JInt_bitCount_16 (by decide) ?_
  refine lv_iushr (v := (ushr (x0 - ((ushr x0 1) &&& (1431655765 : Int32))) 2)) hx hb d_JInt_bitCount_17 rfl ?_
  refine lv_ldcw (v := 858993459) hx hb hown (htw _ in300) d_JInt_bitCount_18 ?_
  refine lv_iand hx hb d_JInt_bitCount_21 ?_
  refine lv_iadd hx hb d_JInt_bitCount_22 ?_
  refine lv_istore_n (lv' := [(0, .int (((x0 - ((ushr x0 1) &&& (1431655765 : Int32))) &&& (858993459 : Int32)) + ((ushr (x0 - ((ushr x0 1) &&& (1431655765 : Int32))) 2) &&& (858993459 : Int32))))]) hx hb d_JInt_bitCount_23 rfl hl (by decide) rfl (fun ls hl => ?_)
  refine lv_iload_n hx hb d_JInt_bitCount_24 rfl (lv_at hl 0 rfl) ?_
  refine lv_iload_n hx hb d_JInt_bitCount_25 rfl (lv_at hl 0 rfl) ?_
  refine lv_iconst (v := 4) hx hb d_JInt_bitCount_26 (by decide) ?_
  refine lv_iushr (v := (ushr (((x0 - ((ushr x0 1) &&& (1431655765 : Int32))) &&& (858993459 : Int32)) + ((ushr (x0 - ((ushr x0 1) &&& (1431655765 : Int32))) 2) &&& (858993459 : Int32))) 4)) hx hb d_JInt_bitCount_27 rfl ?_
  refine lv_iadd hx hb d_JInt_bitCount_28 ?_
  refine lv_ldcw (v := 252645135) hx hb hown (htw _ in301) d_JInt_bitCount_29 ?_
  refine lv_iand hx hb d_JInt_bitCount_32 ?_
  refine lv_istore_n (lv' := [(0, .int (((((x0 - ((ushr x0 1) &&& (1431655765 : Int32))) &&& (858993459 : Int32)) + ((ushr (x0 - ((ushr x0 1) &&& (1431655765 : Int32))) 2) &&& (858993459 : Int32))) + (ushr (((x0 - ((ushr x0 1) &&& (1431655765 : Int32))) &&& (858993459 : Int32)) + ((ushr (x0 - ((ushr x0 1) &&& (1431655765 : Int32))) 2) &&& (858993459 : Int32))) 4)) &&& (252645135 : Int32)))]) hx hb d_JInt_bitCount_33 rfl hl (by decide) rfl (fun ls hl => ?_)
  refine lv_iload_n hx hb d_JInt_bitCount_34 rfl (lv_at hl 0 rfl) ?_
  refine lv_iload_n hx hb d_JInt_bitCount_35 rfl (lv_at hl 0 rfl) ?_
  refine lv_bipush (v := 8) hx hb d_JInt_bitCount_36 (by decide) ?_
  refine lv_iushr (v := (ushr (((((x0 - ((ushr x0 1) &&& (1431655765 : Int32))) &&& (858993459 : Int32)) + ((ushr (x0 - ((ushr x0 1) &&& (1431655765 : Int32))) 2) &&& (858993459 : Int32))) + (ushr (((x0 - ((ushr x0 1) &&& (1431655765 : Int32))) &&& (858993459 : Int32)) + ((ushr (x0 - ((ushr x0 1) &&& (1431655765 : Int32))) 2) &&& (858993459 : Int32))) 4)) &&& (252645135 : Int32)) 8)) hx hb d_JInt_bitCount_38 rfl ?_
  refine lv_iadd hx hb d_JInt_bitCount_39 ?_
  refine lv_istore_n (lv' := [(0, .int ((((((x0 - ((ushr x0 1) &&& (1431655765 : Int32))) &&& (858993459 : Int32)) + ((ushr (x0 - ((ushr x0 1) &&& (1431655765 : Int32))) 2) &&& (858993459 : Int32))) + (ushr (((x0 - ((ushr x0 1) &&& (1431655765 : Int32))) &&& (858993459 : Int32)) + ((ushr (x0 - ((ushr x0 1) &&& (1431655765 : Int32))) 2) &&& (858993459 : Int32))) 4)) &&& (252645135 : Int32)) + (ushr (((((x0 - ((ushr x0 1) &&& (1431655765 : Int32))) &&& (858993459 : Int32)) + ((ushr (x0 - ((ushr x0 1) &&& (1431655765 : Int32))) 2) &&& (858993459 : Int32))) + (ushr (((x0 - ((ushr x0 1) &&& (1431655765 : Int32))) &&& (858993459 : Int32)) + ((ushr (x0 - ((ushr x0 1) &&& (1431655765 : Int32))) 2) &&& (858993459 : Int32))) 4)) &&& (252645135 : Int32)) 8)))]) hx hb d_JInt_bitCount_40 rfl hl (by decide) rfl (fun ls hl => ?_)
  refine lv_iload_n hx hb d_JInt_bitCount_41 rfl (lv_at hl 0 rfl) ?_
  refine lv_iload_n hx hb d_JInt_bitCount_42 rfl (lv_at hl 0 rfl) ?_
  refine lv_bipush (v := 16) hx hb d_JInt_bitCount_43 (by decide) ?_
  refine lv_iushr (v := (ushr ((((((x0 - ((ushr x0 1) &&& (1431655765 : Int32))) &&& (858993459 : Int32)) + ((ushr (x0 - ((ushr x0 1) &&& (1431655765 : Int32))) 2) &&& (858993459 : Int32))) + (ushr (((x0 - ((ushr x0 1) &&& (1431655765 : Int32))) &&& (858993459 : Int32)) + ((ushr (x0 - ((ushr x0 1) &&& (1431655765 : Int32))) 2) &&& (858993459 : Int32))) 4)) &&& (252645135 : Int32)) + (ushr (((((x0 - ((ushr x0 1) &&& (1431655765 : Int32))) &&& (858993459 : Int32)) + ((ushr (x0 - ((ushr x0 1) &&& (1431655765 : Int32))) 2) &&& (858993459 : Int32))) + (ushr (((x0 - ((ushr x0 1) &&& (1431655765 : Int32))) &&& (858993459 : Int32)) + ((ushr (x0 - ((ushr x0 1) &&& (1431655765 : Int32))) 2) &&& (858993459 : Int32))) 4)) &&& (252645135 : Int32)) 8)) 16)) hx hb d_JInt_bitCount_45 rfl ?_
  refine lv_iadd hx hb d_JInt_bitCount_46 ?_
  refine lv_istore_n (lv' := [(0, .int (((((((x0 - ((ushr x0 1) &&& (1431655765 : Int32))) &&& (858993459 : Int32)) + ((ushr (x0 - ((ushr x0 1) &&& (1431655765 : Int32))) 2) &&& (858993459 : Int32))) + (ushr (((x0 - ((ushr x0 1) &&& (1431655765 : Int32))) &&& (858993459 : Int32)) + ((ushr (x0 - ((ushr x0 1) &&& (1431655765 : Int32))) 2) &&& (858993459 : Int32))) 4)) &&& (252645135 : Int32)) + (ushr (((((x0 - ((ushr x0 1) &&& (1431655765 : Int32))) &&& (858993459 : Int32)) + ((ushr (x0 - ((ushr x0 1) &&& (1431655765 : Int32))) 2) &&& (858993459 : Int32))) + (ushr (((x0 - ((ushr x0 1) &&& (1431655765 : Int32))) &&& (858993459 : Int32)) + ((ushr (x0 - ((ushr x0 1) &&& (1431655765 : Int32))) 2) &&& (858993459 : Int32))) 4)) &&& (252645135 : Int32)) 8)) + (ushr ((((((x0 - ((ushr x0 1) &&& (1431655765 : Int32))) &&& (858993459 : Int32)) + ((ushr (x0 - ((ushr x0 1) &&& (1431655765 : Int32))) 2) &&& (858993459 : Int32))) + (ushr (((x0 - ((ushr x0 1) &&& (1431655765 : Int32))) &&& (858993459 : Int32)) + ((ushr (x0 - ((ushr x0 1) &&& (1431655765 : Int32))) 2) &&& (858993459 : Int32))) 4)) &&& (252645135 : Int32)) + (ushr (((((x0 - ((ushr x0 1) &&& (1431655765 : Int32))) &&& (858993459 : Int32)) + ((ushr (x0 - ((ushr x0 1) &&& (1431655765 : Int32))) 2) &&& (858993459 : Int32))) + (ushr (((x0 - ((ushr x0 1) &&& (1431655765 : Int32))) &&& (858993459 : Int32)) + ((ushr (x0 - ((ushr x0 1) &&& (1431655765 : Int32))) 2) &&& (858993459 : Int32))) 4)) &&& (252645135 : Int32)) 8)) 16)))]) hx hb d_JInt_bitCount_47 rfl hl (by decide) rfl (fun ls hl => ?_)
  refine lv_iload_n hx hb d_JInt_bitCount_48 rfl (lv_at hl 0 rfl) ?_
  refine lv_bipush (v := 63) hx hb d_JInt_bitCount_49 (by decide) ?_
  refine lv_iand hx hb d_JInt_bitCount_51 ?_
  have e0 := Option.some.inj hf
  subst e0
  exact W.iret (v := ((((((((x0 - ((ushr x0 1) &&& (1431655765 : Int32))) &&& (858993459 : Int32)) + ((ushr (x0 - ((ushr x0 1) &&& (1431655765 : Int32))) 2) &&& (858993459 : Int32))) + (ushr (((x0 - ((ushr x0 1) &&& (1431655765 : Int32))) &&& (858993459 : Int32)) + ((ushr (x0 - ((ushr x0 1) &&& (1431655765 : Int32))) 2) &&& (858993459 : Int32))) 4)) &&& (252645135 : Int32)) + (ushr (((((x0 - ((ushr x0 1) &&& (1431655765 : Int32))) &&& (858993459 : Int32)) + ((ushr (x0 - ((ushr x0 1) &&& (1431655765 : Int32))) 2) &&& (858993459 : Int32))) + (ushr (((x0 - ((ushr x0 1) &&& (1431655765 : Int32))) &&& (858993459 : Int32)) + ((ushr (x0 - ((ushr x0 1) &&& (1431655765 : Int32))) 2) &&& (858993459 : Int32))) 4)) &&& (252645135 : Int32)) 8)) + (ushr ((((((x0 - ((ushr x0 1) &&& (1431655765 : Int32))) &&& (858993459 : Int32)) + ((ushr (x0 - ((ushr x0 1) &&& (1431655765 : Int32))) 2) &&& (858993459 : Int32))) + (ushr (((x0 - ((ushr x0 1) &&& (1431655765 : Int32))) &&& (858993459 : Int32)) + ((ushr (x0 - ((ushr x0 1) &&& (1431655765 : Int32))) 2) &&& (858993459 : Int32))) 4)) &&& (252645135 : Int32)) + (ushr (((((x0 - ((ushr x0 1) &&& (1431655765 : Int32))) &&& (858993459 : Int32)) + ((ushr (x0 - ((ushr x0 1) &&& (1431655765 : Int32))) 2) &&& (858993459 : Int32))) + (ushr (((x0 - ((ushr x0 1) &&& (1431655765 : Int32))) &&& (858993459 : Int32)) + ((ushr (x0 - ((ushr x0 1) &&& (1431655765 : Int32))) 2) &&& (858993459 : Int32))) 4)) &&& (252645135 : Int32)) 8)) 16)) &&& (63 : Int32))) hx hb hr (fun t ht hW => ⟨⟨_, (), rfl, rfl, by rw [ht]; exact hP, va_K.moved hW.alike hK, hD⟩, hS.F ht⟩) hS.2.2 d_JInt_bitCount_52 hlocks
-- GR_mayBeAt
abbrev RM_GR_mayBeAt : Room := { frames := 0, cells := 0, slots := 0, locals := 0 }
def ws_GR_mayBeAt : List Cond := .code y_GR_mayBeAt b_GR_mayBeAt 3 (some .boolean) :: W_all
def wd_GR_mayBeAt (cI cZ cJ : ClassId) (tq : Nat → Nat)  : va_W := []
def F_GR_mayBeAt_10 (x0 : Int32) (x1 : Int32) (z0 : Int32) : Option (Int32) :=
  (if x1 < (-8 : Int32) then (some 0) else (if 0 < x1 then (some 0) else (if x0 < (-8 : Int32) then (some 0) else (if z0 < x0 then (some 0) else (some 1)))))
def F_GR_mayBeAt (x0 : Int32) (x1 : Int32) : Option (Int32) :=
  (if x1 = 0 then (F_GR_mayBeAt_10 x0 x1 (-1)) else (F_GR_mayBeAt_10 x0 x1 8))
set_option maxHeartbeats 4000000 in
set_option maxRecDepth 100000 in
theorem w_GR_mayBeAt_10 {p : Program} {l : Launch} {e : Env} {s : State} {m : MethodId} {args : Array Value} {below : List Frame} {meth : Method} {c : Code} {D : va_G} {cI cZ cJ : ClassId} {tq : Nat → Nat} {A : Nat → Prop} (o_r : Int32) (C0 : cx p s m meth c args b_GR_mayBeAt (some .boolean) 3 R_GR D cI cZ cJ tq A) (hA : ∀ q : Nat, s.heap.size ≤ q → A q) : ∀ (x0 : Int32) (x1 : Int32) (z0 : Int32) (H : Heap) (locs : List Loc) (ls : Array Slot), va_P D classes (wd_GR_mayBeAt cI cZ cJ tq ) H → va_D A (wd_GR_mayBeAt cI cZ cJ tq ) → va_S A s.heap H locs → lv_has ls 3 [(0, .int x0), (1, .int x1)] → F_GR_mayBeAt_10 x0 x1 z0 = some o_r → W p l e RM_GR_mayBeAt s m args below meth c H locs 0 0 (MQ below (qI D cI cZ cJ A o_r (wd_GR_mayBeAt cI cZ cJ tq)) args s 0 0 A) (F0 m 10 ls [.int z0]) := by
  obtain ⟨hx, hb, hr, hml, hown, htw, hlocks, hK, hG⟩ := id C0
  intro x0 x1 z0 H locs ls hP hD hS hl hf
  unfold F_GR_mayBeAt_10 at hf
  refine lv_istore_n (lv' := [(2, .int z0), (0, .int x0), (1, .int x1)]) hx hb d_GR_mayBeAt_10 rfl hl (by decide) rfl (fun ls hl => ?_)
  refine lv_iload_n hx hb d_GR_mayBeAt_11 rfl (lv_at hl 2 rfl) ?_
  refine lv_bipush (v := (-8)) hx hb d_GR_mayBeAt_12 (by decide) ?_
  refine lv_icmp_lt (tgt := 36) hx hb d_GR_mayBeAt_14 (by decide) (fun c14 => ?_) (fun c14 => ?_)
  · have hf := it_t hf c14
    refine lv_iconst (v := 0) hx hb d_GR_mayBeAt_36 (by decide) ?_
    have e0 := Option.some.inj hf
    subst e0
    exact W.zret (v := 0) hx hb hr rfl (fun t ht hW => ⟨⟨_, (), rfl, rfl, by rw [ht]; exact hP, va_K.moved hW.alike hK, hD⟩, hS.F ht⟩) hS.2.2 d_GR_mayBeAt_37 hlocks
  · have hf := it_f hf c14
    refine lv_iload_n hx hb d_GR_mayBeAt_17 rfl (lv_at hl 2 rfl) ?_
    refine lv_if_gt (tgt := 36) hx hb d_GR_mayBeAt_18 (by decide) (fun c18 => ?_) (fun c18 => ?_)
    · have hf := it_t hf c18
      refine lv_iconst (v := 0) hx hb d_GR_mayBeAt_36 (by decide) ?_
      have e0 := Option.some.inj hf
      subst e0
      exact W.zret (v := 0) hx hb hr rfl (fun t ht hW => ⟨⟨_, (), rfl, rfl, by rw [ht]; exact hP, va_K.moved hW.alike hK, hD⟩, hS.F ht⟩) hS.2.2 d_GR_mayBeAt_37 hlocks
    · have hf := it_f hf c18
      refine lv_iload_n hx hb d_GR_mayBeAt_21 rfl (lv_at hl 1 rfl) ?_
      refine lv_bipush (v := (-8)) hx hb d_GR_mayBeAt_22 (by decide) ?_
      refine lv_icmp_lt (tgt := 36) hx hb d_GR_mayBeAt_24 (by decide) (fun c24 => ?_) (fun c24 => ?_)
      · have hf := it_t hf c24
        refine lv_iconst (v := 0) hx hb d_GR_mayBeAt_36 (by decide) ?_
        have e0 := Option.some.inj hf
        subst e0
        exact W.zret (v := 0) hx hb hr rfl (fun t ht hW => ⟨⟨_, (), rfl, rfl, by rw [ht]; exact hP, va_K.moved hW.alike hK, hD⟩, hS.F ht⟩) hS.2.2 d_GR_mayBeAt_37 hlocks
      · have hf := it_f hf c24
        refine lv_iload_n hx hb d_GR_mayBeAt_27 rfl (lv_at hl 1 rfl) ?_
        refine lv_iload_n hx hb d_GR_mayBeAt_28 rfl (lv_at hl 0 rfl) ?_
        refine lv_icmp_gt (tgt := 36) hx hb d_GR_mayBeAt_29 (by decide) (fun c29 => ?_) (fun c29 => ?_)
        · have hf := it_t hf c29
          refine lv_iconst (v := 0) hx hb d_GR_mayBeAt_36 (by decide) ?_
          have e0 := Option.some.inj hf
          subst e0
          exact W.zret (v := 0) hx hb hr rfl (fun t ht hW => ⟨⟨_, (), rfl, rfl, by rw [ht]; exact hP, va_K.moved hW.alike hK, hD⟩, hS.F ht⟩) hS.2.2 d_GR_mayBeAt_37 hlocks
        · have hf := it_f hf c29
          refine lv_iconst (v := 1) hx hb d_GR_mayBeAt_32 (by decide) ?_
          refine lv_goto (tgt := 37) hx hb d_GR_mayBeAt_33 (by decide) ?_
          have e0 := Option.some.inj hf
          subst e0
          exact W.zret (v := 1) hx hb hr rfl (fun t ht hW => ⟨⟨_, (), rfl, rfl, by rw [ht]; exact hP, va_K.moved hW.alike hK, hD⟩, hS.F ht⟩) hS.2.2 d_GR_mayBeAt_37 hlocks
set_option maxHeartbeats 4000000 in
set_option maxRecDepth 100000 in
theorem c_GR_mayBeAt (l : Launch) (D : va_G) (cI cZ cJ : ClassId) (tq : Nat → Nat) (sz : Nat) (x0 : Int32) (x1 : Int32) (o_r : Int32) (hf : F_GR_mayBeAt x0 x1 = some o_r) : Met l y_GR_mayBeAt ws_GR_mayBeAt RM_GR_mayBeAt (va_Pc [.int x0, .int x1] (Pg D cI cZ cJ tq (wd_GR_mayBeAt cI cZ cJ tq) sz)) (qI D cI cZ cJ (va_A (wd_GR_mayBeAt cI cZ cJ tq) sz) o_r (wd_GR_mayBeAt cI cZ cJ tq)) 0 0 (va_A (wd_GR_mayBeAt cI cZ cJ tq) sz) := by
  refine Met.ofW (cc := b_GR_mayBeAt) (maxL := 3) (ret := (some .boolean)) (by decide) rfl ?_
  intro p e s m args below meth c s₁ B hml hv
  obtain ⟨rfl, hsz, hP, hK, hD0, hG⟩ := hv
  have hx := B.exec
  have hb := B.bytes
  have hr := B.returns
  have htw : ∀ w ∈ W_all, w.before [.int x0, .int x1].toArray s = true := fun w h => atoms_spec (ws := ws_GR_mayBeAt) B.pre w (List.mem_cons_of_mem _ h)
  have hown : s.vm.findClass R_GR = some m.cls := findClass_of_methodNamed B.named
  have hlocks := B.notSynchronized
  subst hsz
  have hD := hD0.self (sz := s.heap.size)
  generalize hAe : va_A (wd_GR_mayBeAt cI cZ cJ tq) s.heap.size = A at hD hG ⊢
  have hA : ∀ q : Nat, s.heap.size ≤ q → A q := fun q h => by rw [← hAe]; exact Or.inr h
  have hS : va_S A s.heap s.heap [] := va_S.rf
  have C0 : cx p s m meth c [.int x0, .int x1].toArray b_GR_mayBeAt (some .boolean) 3 R_GR D cI cZ cJ tq A := ⟨hx, hb, hr, hml, hown, htw, hlocks, hK, hG⟩
  have hl := lv_entry ([.int x0, .int x1]) (n := 3) (Nat.le_of_ble_eq_true rfl)
  rw [lg_entry_eq]
  generalize (lg_sl ([.int x0, .int x1]) ++ List.replicate (3 - (lg_sl ([.int x0, .int x1])).length) Slot.unset).toArray = ls at hl ⊢
  have hl : lv_has ls 3 [(0, .int x0), (1, .int x1)] := hl
  have hP : va_P D classes (wd_GR_mayBeAt cI cZ cJ tq) s.heap := hP
  clear hAe
  unfold F_GR_mayBeAt at hf
  refine lv_iload_n hx hb d_GR_mayBeAt_0 rfl (lv_at hl 1 rfl) ?_
  refine lv_if_ne (tgt := 8) hx hb d_GR_mayBeAt_1 (by decide) (fun c1 => ?_) (fun c1 => ?_)
  · have hf := it_f hf c1
    refine lv_bipush (v := 8) hx hb d_GR_mayBeAt_8 (by decide) ?_
    exact w_GR_mayBeAt_10 o_r C0 hA x0 x1 8 _ _ ls hP hD hS (lv_sub hl [0, 1] rfl) hf
  · have hf := it_t hf c1
    refine lv_iconst (v := (-1)) hx hb d_GR_mayBeAt_4 (by decide) ?_
    refine lv_goto (tgt := 10) hx hb d_GR_mayBeAt_5 (by decide) ?_
    exact w_GR_mayBeAt_10 o_r C0 hA x0 x1 (-1) _ _ ls hP hD hS (lv_sub hl [0, 1] rfl) hf
-- GR_tell
abbrev RM_GR_tell : Room := { frames := 6, cells := 0, slots := 0, locals := 141 }
def ws_GR_tell : List Cond := .code y_GR_tell b_GR_tell 1 (some .int) :: W_all
def wd_GR_tell (cI cZ cJ : ClassId) (tq : Nat → Nat) (h0 : Nat) (h_teller : Nat) (h_tape : Nat) (h_teller_seen : Nat) (h_teller_seen_rows : Nat) (h_ways : Nat) (h_skips : Nat) (h_skips_rows : Nat) (h_ink : Nat) (h_ink_rows : Nat) (h_tape_entries : Nat) (h_places : Nat) (h_places_now : Nat) (h_teller_line : Nat) (h_inflow : Nat) (h_reader : Nat) (f_width : Int32) (f_height : Int32) (f_template : Int32) (f_passed : Int32) (f_teller_copyCount : Int32) (f_tape_count : Int32) (f_teller_seen_width : Int32) (n_teller_seen_rows : Nat) (g_teller_seen_rows : Nat → Int32) (f_ways_typical : Int32) (f_ways_byFax : Int32) (f_ways_open : Int32) (f_skips_width : Int32) (n_skips_rows : Nat) (g_skips_rows : Nat → Int32) (f_ink_width : Int32) (n_ink_rows : Nat) (g_ink_rows : Nat → Int32) (n_tape_entries : Nat) (g_tape_entries : Nat → Int32) (f_places_template : Int32) (t_places_first : Nat) (t_places_loosePlaces : Nat) (n_places_now : Nat) (g_places_now : Nat → Int32) (f_teller_line_width : Int32) (f_teller_line_above : Int32) (f_teller_line_place : Int32) (f_teller_line_black : Int32) : va_W := [(h0, .inr (0, [.int f_width, .int f_height, .int f_template, .ref h_ink, .ref h_skips, .ref h_places, .ref h_ways, .ref h_tape, .ref h_teller, .ref h_inflow, .ref h_reader, .int f_passed])), (h_teller, .inr (7, [.ref h_ink, .ref h_skips, .ref h_teller_seen, .ref h_places, .ref h_ways, .ref h_tape, .ref h_teller_line, .int f_teller_copyCount])), (h_tape, .inr (6, [.ref h_tape_entries, .int f_tape_count])), (h_teller_seen, .inr (4, [.int f_teller_seen_width, .ref h_teller_seen_rows])), (h_teller_seen_rows, .inl (cI, n_teller_seen_rows, .inl g_teller_seen_rows)), (h_ways, .inr (8, [.int f_ways_typical, .int f_ways_byFax, .int f_ways_open])), (h_skips, .inr (4, [.int f_skips_width, .ref h_skips_rows])), (h_skips_rows, .inl (cI, n_skips_rows, .inl g_skips_rows)), (h_ink, .inr (4, [.int f_ink_width, .ref h_ink_rows])), (h_ink_rows, .inl (cI, n_ink_rows, .inl g_ink_rows)), (h_tape_entries, .inl (cI, n_tape_entries, .inl g_tape_entries)), (h_places, .inr (3, [.int f_places_template, .ref (tq t_places_first), .ref h_places_now, .ref (tq t_places_loosePlaces)])), (h_places_now, .inl (cI, n_places_now, .inl g_places_now)), (h_teller_line, .inr (1, [.int f_teller_line_width, .int f_teller_line_above, .int f_teller_line_place, .int f_teller_line_black]))]
def F_GR_tell (k : Nat) (f_passed : Int32) (f_teller_copyCount : Int32) (f_tape_count : Int32) (f_teller_seen_width : Int32) (n_teller_seen_rows : Nat) (g_teller_seen_rows : Nat → Int32) (f_ways_typical : Int32) (f_ways_byFax : Int32) (f_ways_open : Int32) (f_skips_width : Int32) (n_skips_rows : Nat) (g_skips_rows : Nat → Int32) (n_ink_rows : Nat) (g_ink_rows : Nat → Int32) (n_tape_entries : Nat) (g_tape_entries : Nat → Int32) (f_places_template : Int32) (n_places_now : Nat) (g_places_now : Nat → Int32) (f_teller_line_width : Int32) (f_teller_line_above : Int32) (f_teller_line_place : Int32) (f_teller_line_black : Int32) : Option (Int32 × Int32 × Int32 × Int32 × (Nat → Int32) × (Nat → Int32) × Int32 × Int32 × Int32) :=
  (bd7 (F_Teller_tellAll k f_teller_copyCount f_tape_count f_teller_seen_width n_teller_seen_rows g_teller_seen_rows f_ways_typical f_ways_byFax f_ways_open f_skips_width n_skips_rows g_skips_rows n_ink_rows g_ink_rows n_tape_entries g_tape_entries f_places_template n_places_now g_places_now f_teller_line_width f_teller_line_above f_teller_line_place f_teller_line_black) (fun w9_f_copyCount w9_f_tape_count w9_g_seen_rows w9_g_tape_entries w9_f_line_above w9_f_line_place w9_f_line_black => (bd1 (F_Tape_count w9_f_tape_count) (fun r16 => (some (r16, 0, w9_f_copyCount, w9_f_tape_count, w9_g_seen_rows, w9_g_tape_entries, w9_f_line_above, w9_f_line_place, w9_f_line_black))))))
set_option maxHeartbeats 4000000 in
set_option maxRecDepth 100000 in
theorem c_GR_tell (l : Launch) (D : va_G) (cI cZ cJ : ClassId) (tq : Nat → Nat) (k : Nat) (h0 : Nat) (h_teller : Nat) (h_tape : Nat) (h_teller_seen : Nat) (h_teller_seen_rows : Nat) (h_ways : Nat) (h_skips : Nat) (h_skips_rows : Nat) (h_ink : Nat) (h_ink_rows : Nat) (h_tape_entries : Nat) (h_places : Nat) (h_places_now : Nat) (h_teller_line : Nat) (h_inflow : Nat) (h_reader : Nat) (sz : Nat) (f_width : Int32) (f_height : Int32) (f_template : Int32) (f_passed : Int32) (f_teller_copyCount : Int32) (f_tape_count : Int32) (f_teller_seen_width : Int32) (n_teller_seen_rows : Nat) (g_teller_seen_rows : Nat → Int32) (f_ways_typical : Int32) (f_ways_byFax : Int32) (f_ways_open : Int32) (f_skips_width : Int32) (n_skips_rows : Nat) (g_skips_rows : Nat → Int32) (f_ink_width : Int32) (n_ink_rows : Nat) (g_ink_rows : Nat → Int32) (n_tape_entries : Nat) (g_tape_entries : Nat → Int32) (f_places_template : Int32) (t_places_first : Nat) (t_places_loosePlaces : Nat) (n_places_now : Nat) (g_places_now : Nat → Int32) (f_teller_line_width : Int32) (f_teller_line_above : Int32) (f_teller_line_place : Int32) (f_teller_line_black : Int32) (o_r : Int32) (o_f_passed : Int32) (o_f_teller_copyCount : Int32) (o_f_tape_count : Int32) (o_g_teller_seen_rows : Nat → Int32) (o_g_tape_entries : Nat → Int32) (o_f_teller_line_above : Int32) (o_f_teller_line_place : Int32) (o_f_teller_line_black : Int32) (hf : F_GR_tell k f_passed f_teller_copyCount f_tape_count f_teller_seen_width n_teller_seen_rows g_teller_seen_rows f_ways_typical f_ways_byFax f_ways_open f_skips_width n_skips_rows g_skips_rows n_ink_rows g_ink_rows n_tape_entries g_tape_entries f_places_template n_places_now g_places_now f_teller_line_width f_teller_line_above f_teller_line_place f_teller_line_black = some (o_r, o_f_passed, o_f_teller_copyCount, o_f_tape_count, o_g_teller_seen_rows, o_g_tape_entries, o_f_teller_line_above, o_f_teller_line_place, o_f_teller_line_black)) : Met l y_GR_tell ws_GR_tell RM_GR_tell (va_Pc [.ref h0] (Pg D cI cZ cJ tq (wd_GR_tell cI cZ cJ tq h0 h_teller h_tape h_teller_seen h_teller_seen_rows h_ways h_skips h_skips_rows h_ink h_ink_rows h_tape_entries h_places h_places_now h_teller_line h_inflow h_reader f_width f_height f_template f_passed f_teller_copyCount f_tape_count f_teller_seen_width n_teller_seen_rows g_teller_seen_rows f_ways_typical f_ways_byFax f_ways_open f_skips_width n_skips_rows g_skips_rows f_ink_width n_ink_rows g_ink_rows n_tape_entries g_tape_entries f_places_template t_places_first t_places_loosePlaces n_places_now g_places_now f_teller_line_width f_teller_line_above f_teller_line_place f_teller_line_black) sz)) (qI D cI cZ cJ (va_A (wd_GR_tell cI cZ cJ tq h0 h_teller h_tape h_teller_seen h_teller_seen_rows h_ways h_skips h_skips_rows h_ink h_ink_rows h_tape_entries h_places h_places_now h_teller_line h_inflow h_reader f_width f_height f_template f_passed f_teller_copyCount f_tape_count f_teller_seen_width n_teller_seen_rows g_teller_seen_rows f_ways_typical f_ways_byFax f_ways_open f_skips_width n_skips_rows g_skips_rows f_ink_width n_ink_rows g_ink_rows n_tape_entries g_tape_entries f_places_template t_places_first t_places_loosePlaces n_places_now g_places_now f_teller_line_width f_teller_line_above f_teller_line_place f_teller_line_black) sz) o_r (wd_GR_tell cI cZ cJ tq h0 h_teller h_tape h_teller_seen h_teller_seen_rows h_ways h_skips h_skips_rows h_ink h_ink_rows h_tape_entries h_places h_places_now h_teller_line h_inflow h_reader f_width f_height f_template o_f_passed o_f_teller_copyCount o_f_tape_count f_teller_seen_width n_teller_seen_rows o_g_teller_seen_rows f_ways_typical f_ways_byFax f_ways_open f_skips_width n_skips_rows g_skips_rows f_ink_width n_ink_rows g_ink_rows n_tape_entries o_g_tape_entries f_places_template t_places_first t_places_loosePlaces n_places_now g_places_now f_teller_line_width o_f_teller_line_above o_f_teller_line_place o_f_teller_line_black)) 0 0 (va_A (wd_GR_tell cI cZ cJ tq h0 h_teller h_tape h_teller_seen h_teller_seen_rows h_ways h_skips h_skips_rows h_ink h_ink_rows h_tape_entries h_places h_places_now h_teller_line h_inflow h_reader f_width f_height f_template f_passed f_teller_copyCount f_tape_count f_teller_seen_width n_teller_seen_rows g_teller_seen_rows f_ways_typical f_ways_byFax f_ways_open f_skips_width n_skips_rows g_skips_rows f_ink_width n_ink_rows g_ink_rows n_tape_entries g_tape_entries f_places_template t_places_first t_places_loosePlaces n_places_now g_places_now f_teller_line_width f_teller_line_above f_teller_line_place f_teller_line_black) sz) := by
  refine Met.ofW (cc := b_GR_tell) (maxL := 1) (ret := (some .int)) (by decide) rfl ?_
  intro p e s m args below meth c s₁ B hml hv
  obtain ⟨rfl, hsz, hP, hK, hD0, hG⟩ := hv
  have hx := B.exec
  have hb := B.bytes
  have hr := B.returns
  have htw : ∀ w ∈ W_all, w.before [.ref h0].toArray s = true := fun w h => atoms_spec (ws := ws_GR_tell) B.pre w (List.mem_cons_of_mem _ h)
  have hown : s.vm.findClass R_GR = some m.cls := findClass_of_methodNamed B.named
  have hlocks := B.notSynchronized
  subst hsz
  have hD := hD0.self (sz := s.heap.size)
  generalize hAe : va_A (wd_GR_tell cI cZ cJ tq h0 h_teller h_tape h_teller_seen h_teller_seen_rows h_ways h_skips h_skips_rows h_ink h_ink_rows h_tape_entries h_places h_places_now h_teller_line h_inflow h_reader f_width f_height f_template f_passed f_teller_copyCount f_tape_count f_teller_seen_width n_teller_seen_rows g_teller_seen_rows f_ways_typical f_ways_byFax f_ways_open f_skips_width n_skips_rows g_skips_rows f_ink_width n_ink_rows g_ink_rows n_tape_entries g_tape_entries f_places_template t_places_first t_places_loosePlaces n_places_now g_places_now f_teller_line_width f_teller_line_above f_teller_line_place f_teller_line_black) s.heap.size = A at hD hG ⊢
  have hA : ∀ q : Nat, s.heap.size ≤ q → A q := fun q h => by rw [← hAe]; exact Or.inr h
  have hS : va_S A s.heap s.heap [] := va_S.rf
  have C0 : cx p s m meth c [.ref h0].toArray b_GR_tell (some .int) 1 R_GR D cI cZ cJ tq A := ⟨hx, hb, hr, hml, hown, htw, hlocks, hK, hG⟩
  have hl := lv_entry ([.ref h0]) (n := 1) (Nat.le_of_ble_eq_true rfl)
  rw [lg_entry_eq]
  generalize (lg_sl ([.ref h0]) ++ List.replicate (1 - (lg_sl ([.ref h0])).length) Slot.unset).toArray = ls at hl ⊢
  have hl : lv_has ls 1 [(0, .ref h0)] := hl
  have hP : va_P D classes (wd_GR_tell cI cZ cJ tq h0 h_teller h_tape h_teller_seen h_teller_seen_rows h_ways h_skips h_skips_rows h_ink h_ink_rows h_tape_entries h_places h_places_now h_teller_line h_inflow h_reader f_width f_height f_template f_passed f_teller_copyCount f_tape_count f_teller_seen_width n_teller_seen_rows g_teller_seen_rows f_ways_typical f_ways_byFax f_ways_open f_skips_width n_skips_rows g_skips_rows f_ink_width n_ink_rows g_ink_rows n_tape_entries g_tape_entries f_places_template t_places_first t_places_loosePlaces n_places_now g_places_now f_teller_line_width f_teller_line_above f_teller_line_place f_teller_line_black) s.heap := hP
  clear hAe
  unfold F_GR_tell at hf
  refine lv_aload_n hx hb d_GR_tell_0 rfl (lv_at hl 0 rfl) ?_
  refine lv_iconst (v := 0) hx hb d_GR_tell_1 (by decide) ?_
  refine va_put (D := D) (ci := 0) (v := .int 0) (ty := .int) (C := R_GR) (T := F_GR) (N := 12) hx hb htw i_GR t_GR t_GR_ok n_GR hown hK hP hD hS 0 rfl rfl 11 (by decide) (htw _ in302) (fun _ h9 => h9) rfl (by decide +kernel) rfl rfl (Nat.le_of_ble_eq_true rfl) d_GR_tell_2 (fun H locs hP hD hS => ?_)
  have hP : va_P D classes (wd_GR_tell cI cZ cJ tq h0 h_teller h_tape h_teller_seen h_teller_seen_rows h_ways h_skips h_skips_rows h_ink h_ink_rows h_tape_entries h_places h_places_now h_teller_line h_inflow h_reader f_width f_height f_template 0 f_teller_copyCount f_tape_count f_teller_seen_width n_teller_seen_rows g_teller_seen_rows f_ways_typical f_ways_byFax f_ways_open f_skips_width n_skips_rows g_skips_rows f_ink_width n_ink_rows g_ink_rows n_tape_entries g_tape_entries f_places_template t_places_first t_places_loosePlaces n_places_now g_places_now f_teller_line_width f_teller_line_above f_teller_line_place f_teller_line_black) H := hP
  have hD : va_D A (wd_GR_tell cI cZ cJ tq h0 h_teller h_tape h_teller_seen h_teller_seen_rows h_ways h_skips h_skips_rows h_ink h_ink_rows h_tape_entries h_places h_places_now h_teller_line h_inflow h_reader f_width f_height f_template 0 f_teller_copyCount f_tape_count f_teller_seen_width n_teller_seen_rows g_teller_seen_rows f_ways_typical f_ways_byFax f_ways_open f_skips_width n_skips_rows g_skips_rows f_ink_width n_ink_rows g_ink_rows n_tape_entries g_tape_entries f_places_template t_places_first t_places_loosePlaces n_places_now g_places_now f_teller_line_width f_teller_line_above f_teller_line_place f_teller_line_black) := hD
  refine lv_aload_n hx hb d_GR_tell_5 rfl (lv_at hl 0 rfl) ?_
  refine va_get (D := D) (ci := 0) (v := .ref h_teller) (C := R_GR) (T := F_GR) (N := 12) hx hb htw i_GR hown hK hP 0 rfl rfl 8 (by decide) (htw _ in303) (fun _ h9 => h9) rfl d_GR_tell_6 ?_
  obtain ⟨w9_f_copyCount, w9_f_tape_count, w9_g_seen_rows, w9_g_tape_entries, w9_f_line_above, w9_f_line_place, w9_f_line_black, e9, hf⟩ := bd7_some hf
  refine g_callv (wc := (wd_Teller_tellAll cI cZ cJ tq h_teller h_tape h_teller_seen h_teller_seen_rows h_ways h_skips h_skips_rows h_ink h_ink_rows h_tape_entries h_places h_places_now h_teller_line f_teller_copyCount f_tape_count f_teller_seen_width n_teller_seen_rows g_teller_seen_rows f_ways_typical f_ways_byFax f_ways_open f_skips_width n_skips_rows g_skips_rows f_ink_width n_ink_rows g_ink_rows n_tape_entries g_tape_entries f_places_template t_places_first t_places_loosePlaces n_places_now g_places_now f_teller_line_width f_teller_line_above f_teller_line_place f_teller_line_black)) (w1 := (wd_Teller_tellAll cI cZ cJ tq h_teller h_tape h_teller_seen h_teller_seen_rows h_ways h_skips h_skips_rows h_ink h_ink_rows h_tape_entries h_places h_places_now h_teller_line w9_f_copyCount w9_f_tape_count f_teller_seen_width n_teller_seen_rows w9_g_seen_rows f_ways_typical f_ways_byFax f_ways_open f_skips_width n_skips_rows g_skips_rows f_ink_width n_ink_rows g_ink_rows n_tape_entries w9_g_tape_entries f_places_template t_places_first t_places_loosePlaces n_places_now g_places_now f_teller_line_width w9_f_line_above w9_f_line_place w9_f_line_black)) (ws' := (wd_GR_tell cI cZ cJ tq h0 h_teller h_tape h_teller_seen h_teller_seen_rows h_ways h_skips h_skips_rows h_ink h_ink_rows h_tape_entries h_places h_places_now h_teller_line h_inflow h_reader f_width f_height f_template 0 w9_f_copyCount w9_f_tape_count f_teller_seen_width n_teller_seen_rows w9_g_seen_rows f_ways_typical f_ways_byFax f_ways_open f_skips_width n_skips_rows g_skips_rows f_ink_width n_ink_rows g_ink_rows n_tape_entries w9_g_tape_entries f_places_template t_places_first t_places_loosePlaces n_places_now g_places_now f_teller_line_width w9_f_line_above w9_f_line_place w9_f_line_black)) (va_runV (As := []) (rest := []) ⟨hx, hb, hml, hown, htw⟩ (c_Teller_tellAll l D cI cZ cJ tq k h_teller h_tape h_teller_seen h_teller_seen_rows h_ways h_skips h_skips_rows h_ink h_ink_rows h_tape_entries h_places h_places_now h_teller_line _ f_teller_copyCount f_tape_count f_teller_seen_width n_teller_seen_rows g_teller_seen_rows f_ways_typical f_ways_byFax f_ways_open f_skips_width n_skips_rows g_skips_rows f_ink_width n_ink_rows g_ink_rows n_tape_entries g_tape_entries f_places_template t_places_first t_places_loosePlaces n_places_now g_places_now f_teller_line_width f_teller_line_above f_teller_line_place f_teller_line_black w9_f_copyCount w9_f_tape_count w9_g_seen_rows w9_g_tape_entries w9_f_line_above w9_f_line_place w9_f_line_black e9) (cwV 0 htw (gd_V in305 in306 in307 in246 in304) rfl rfl rfl (by decide +kernel) ⟨Nat.le_of_ble_eq_true rfl, Nat.le_of_ble_eq_true rfl⟩) (preV_of (ci := 7) (q0 := 1) hG hS (va_free (wc := (wd_Teller_tellAll cI cZ cJ tq h_teller h_tape h_teller_seen h_teller_seen_rows h_ways h_skips h_skips_rows h_ink h_ink_rows h_tape_entries h_places h_places_now h_teller_line f_teller_copyCount f_tape_count f_teller_seen_width n_teller_seen_rows g_teller_seen_rows f_ways_typical f_ways_byFax f_ways_open f_skips_width n_skips_rows g_skips_rows f_ink_width n_ink_rows g_ink_rows n_tape_entries g_tape_entries f_places_template t_places_first t_places_loosePlaces n_places_now g_places_now f_teller_line_width f_teller_line_above f_teller_line_place f_teller_line_black)) hD hS hA [1, 2, 3, 4, 5, 6, 7, 8, 9, 10, 11, 12, 13] rfl) hK hP rfl rfl (hP.sub (ws' := (wd_Teller_tellAll cI cZ cJ tq h_teller h_tape h_teller_seen h_teller_seen_rows h_ways h_skips h_skips_rows h_ink h_ink_rows h_tape_entries h_places h_places_now h_teller_line f_teller_copyCount f_tape_count f_teller_seen_width n_teller_seen_rows g_teller_seen_rows f_ways_typical f_ways_byFax f_ways_open f_skips_width n_skips_rows g_skips_rows f_ink_width n_ink_rows g_ink_rows n_tape_entries g_tape_entries f_places_template t_places_first t_places_loosePlaces n_places_now g_places_now f_teller_line_width f_teller_line_above f_teller_line_place f_teller_line_black)) [1, 2, 3, 4, 5, 6, 7, 8, 9, 10, 11, 12, 13] rfl) (hD.sub (ws' := (wd_Teller_tellAll cI cZ cJ tq h_teller h_tape h_teller_seen h_teller_seen_rows h_ways h_skips h_skips_rows h_ink h_ink_rows h_tape_entries h_places h_places_now h_teller_line f_teller_copyCount f_tape_count f_teller_seen_width n_teller_seen_rows g_teller_seen_rows f_ways_typical f_ways_byFax f_ways_open f_skips_width n_skips_rows g_skips_rows f_ink_width n_ink_rows g_ink_rows n_tape_entries g_tape_entries f_places_template t_places_first t_places_loosePlaces n_places_now g_places_now f_teller_line_width f_teller_line_above f_teller_line_place f_teller_line_black)) [1, 2, 3, 4, 5, 6, 7, 8, 9, 10, 11, 12, 13] (by decide) rfl)) rfl rfl hl.1 rfl (lv_room (Nat.le_of_ble_eq_true rfl)) d_GR_tell_9 ⟨Nat.le_of_ble_eq_true rfl, Nat.le_of_ble_eq_true rfl⟩) hP hD hS hA [1, 2, 3, 4, 5, 6, 7, 8, 9, 10, 11, 12, 13] [0] [0, 1, 2, 3, 4, 5, 6, 7, 8, 9, 10, 11, 12, 13] rfl rfl (by decide) (by decide) (by decide) rfl (fun H locs hP hD hS => ?_)
  refine lv_aload_n hx hb d_GR_tell_12 rfl (lv_at hl 0 rfl) ?_
  refine va_get (D := D) (ci := 0) (v := .ref h_tape) (C := R_GR) (T := F_GR) (N := 12) hx hb htw i_GR hown hK hP 0 rfl rfl 7 (by decide) (htw _ in308) (fun _ h9 => h9) rfl d_GR_tell_13 ?_
  obtain ⟨r16, e16, hf⟩ := bd1_some hf
  refine g_calli (wc := (wd_Tape_count cI cZ cJ tq h_tape h_tape_entries w9_f_tape_count)) (w1 := (wd_Tape_count cI cZ cJ tq h_tape h_tape_entries w9_f_tape_count)) (ws' := (wd_GR_tell cI cZ cJ tq h0 h_teller h_tape h_teller_seen h_teller_seen_rows h_ways h_skips h_skips_rows h_ink h_ink_rows h_tape_entries h_places h_places_now h_teller_line h_inflow h_reader f_width f_height f_template 0 w9_f_copyCount w9_f_tape_count f_teller_seen_width n_teller_seen_rows w9_g_seen_rows f_ways_typical f_ways_byFax f_ways_open f_skips_width n_skips_rows g_skips_rows f_ink_width n_ink_rows g_ink_rows n_tape_entries w9_g_tape_entries f_places_template t_places_first t_places_loosePlaces n_places_now g_places_now f_teller_line_width w9_f_line_above w9_f_line_place w9_f_line_black)) (va_runV (As := []) (rest := []) ⟨hx, hb, hml, hown, htw⟩ (c_Tape_count l D cI cZ cJ tq h_tape h_tape_entries _ w9_f_tape_count r16 e16) (cwV 0 htw (gd_V in310 in311 in312 in201 in309) rfl rfl rfl (by decide +kernel) ⟨Nat.le_of_ble_eq_true rfl, Nat.le_of_ble_eq_true rfl⟩) (preV_of (ci := 6) (q0 := 2) hG hS (va_free (wc := (wd_Tape_count cI cZ cJ tq h_tape h_tape_entries w9_f_tape_count)) hD hS hA [2] rfl) hK hP rfl rfl (hP.sub (ws' := (wd_Tape_count cI cZ cJ tq h_tape h_tape_entries w9_f_tape_count)) [2] rfl) (hD.sub (ws' := (wd_Tape_count cI cZ cJ tq h_tape h_tape_entries w9_f_tape_count)) [2] (by decide) rfl)) rfl rfl hl.1 rfl (lv_room (Nat.le_of_ble_eq_true rfl)) d_GR_tell_16 ⟨Nat.le_of_ble_eq_true rfl, Nat.le_of_ble_eq_true rfl⟩) hP hD hS hA [2] [0, 1, 3, 4, 5, 6, 7, 8, 9, 10, 11, 12, 13] [0, 1, 13, 2, 3, 4, 5, 6, 7, 8, 9, 10, 11, 12] rfl rfl (by decide) (by decide) (by decide) rfl (fun H locs hP hD hS => ?_)
  obtain ⟨e0, e1, e2, e3, e4, e5, e6, e7, e8⟩ := so9 hf
  subst e0; subst e1; subst e2; subst e3; subst e4; subst e5; subst e6; subst e7; subst e8
  exact W.iret (v := r16) hx hb hr (fun t ht hW => ⟨⟨_, (), rfl, rfl, by rw [ht]; exact hP, va_K.moved hW.alike hK, hD⟩, hS.F ht⟩) hS.2.2 d_GR_tell_19 hlocks
-- GR_copies
abbrev RM_GR_copies : Room := { frames := 1, cells := 0, slots := 0, locals := 20 }
def ws_GR_copies : List Cond := .code y_GR_copies b_GR_copies 1 (some .int) :: W_all
def wd_GR_copies (cI cZ cJ : ClassId) (tq : Nat → Nat) (h0 : Nat) (h_teller : Nat) (h_ink : Nat) (h_skips : Nat) (h_places : Nat) (h_ways : Nat) (h_tape : Nat) (h_inflow : Nat) (h_reader : Nat) (h_teller_seen : Nat) (h_teller_line : Nat) (f_width : Int32) (f_height : Int32) (f_template : Int32) (f_passed : Int32) (f_teller_copyCount : Int32) : va_W := [(h0, .inr (0, [.int f_width, .int f_height, .int f_template, .ref h_ink, .ref h_skips, .ref h_places, .ref h_ways, .ref h_tape, .ref h_teller, .ref h_inflow, .ref h_reader, .int f_passed])), (h_teller, .inr (7, [.ref h_ink, .ref h_skips, .ref h_teller_seen, .ref h_places, .ref h_ways, .ref h_tape, .ref h_teller_line, .int f_teller_copyCount]))]
def F_GR_copies (f_teller_copyCount : Int32) : Option (Int32) :=
  (bd1 (F_Teller_copyCount f_teller_copyCount) (fun r4 => (some r4)))
set_option maxHeartbeats 4000000 in
set_option maxRecDepth 100000 in
theorem c_GR_copies (l : Launch) (D : va_G) (cI cZ cJ : ClassId) (tq : Nat → Nat) (h0 : Nat) (h_teller : Nat) (h_ink : Nat) (h_skips : Nat) (h_places : Nat) (h_ways : Nat) (h_tape : Nat) (h_inflow : Nat) (h_reader : Nat) (h_teller_seen : Nat) (h_teller_line : Nat) (sz : Nat) (f_width : Int32) (f_height : Int32) (f_template : Int32) (f_passed : Int32) (f_teller_copyCount : Int32) (o_r : Int32) (hf : F_GR_copies f_teller_copyCount = some o_r) : Met l y_GR_copies ws_GR_copies RM_GR_copies (va_Pc [.ref h0] (Pg D cI cZ cJ tq (wd_GR_copies cI cZ cJ tq h0 h_teller h_ink h_skips h_places h_ways h_tape h_inflow h_reader h_teller_seen h_teller_line f_width f_height f_template f_passed f_teller_copyCount) sz)) (qI D cI cZ cJ (va_A (wd_GR_copies cI cZ cJ tq h0 h_teller h_ink h_skips h_places h_ways h_tape h_inflow h_reader h_teller_seen h_teller_line f_width f_height f_template f_passed f_teller_copyCount) sz) o_r (wd_GR_copies cI cZ cJ tq h0 h_teller h_ink h_skips h_places h_ways h_tape h_inflow h_reader h_teller_seen h_teller_line f_width f_height f_template f_passed f_teller_copyCount)) 0 0 (va_A (wd_GR_copies cI cZ cJ tq h0 h_teller h_ink h_skips h_places h_ways h_tape h_inflow h_reader h_teller_seen h_teller_line f_width f_height f_template f_passed f_teller_copyCount) sz) := by
  refine Met.ofW (cc := b_GR_copies) (maxL := 1) (ret := (some .int)) (by decide) rfl ?_
  intro p e s m args below meth c s₁ B hml hv
  obtain ⟨rfl, hsz, hP, hK, hD0, hG⟩ := hv
  have hx := B.exec
  have hb := B.bytes
  have hr := B.returns
  have htw : ∀ w ∈ W_all, w.before [.ref h0].toArray s = true := fun w h => atoms_spec (ws := ws_GR_copies) B.pre w (List.mem_cons_of_mem _ h)
  have hown : s.vm.findClass R_GR = some m.cls := findClass_of_methodNamed B.named
  have hlocks := B.notSynchronized
  subst hsz
  have hD := hD0.self (sz := s.heap.size)
  generalize hAe : va_A (wd_GR_copies cI cZ cJ tq h0 h_teller h_ink h_skips h_places h_ways h_tape h_inflow h_reader h_teller_seen h_teller_line f_width f_height f_template f_passed f_teller_copyCount) s.heap.size = A at hD hG ⊢
  have hA : ∀ q : Nat, s.heap.size ≤ q → A q := fun q h => by rw [← hAe]; exact Or.inr h
  have hS : va_S A s.heap s.heap [] := va_S.rf
  have C0 : cx p s m meth c [.ref h0].toArray b_GR_copies (some .int) 1 R_GR D cI cZ cJ tq A := ⟨hx, hb, hr, hml, hown, htw, hlocks, hK, hG⟩
  have hl := lv_entry ([.ref h0]) (n := 1) (Nat.le_of_ble_eq_true rfl)
  rw [lg_entry_eq]
  generalize (lg_sl ([.ref h0]) ++ List.replicate (1 - (lg_sl ([.ref h0])).length) Slot.unset).toArray = ls at hl ⊢
  have hl : lv_has ls 1 [(0, .ref h0)] := hl
  have hP : va_P D classes (wd_GR_copies cI cZ cJ tq h0 h_teller h_ink h_skips h_places h_ways h_tape h_inflow h_reader h_teller_seen h_teller_line f_width f_height f_template f_passed f_teller_copyCount) s.heap := hP
  clear hAe
  unfold F_GR_copies at hf
  refine lv_aload_n hx hb d_GR_copies_0 rfl (lv_at hl 0 rfl) ?_
  refine va_get (D := D) (ci := 0) (v := .ref h_teller) (C := R_GR) (T := F_GR) (N := 12) hx hb htw i_GR hown hK hP 0 rfl rfl 8 (by decide) (htw _ in303) (fun _ h9 => h9) rfl d_GR_copies_1 ?_
  obtain ⟨r4, e4, hf⟩ := bd1_some hf
  refine g_calli (wc := (wd_Teller_copyCount cI cZ cJ tq h_teller h_ink h_skips h_teller_seen h_places h_ways h_tape h_teller_line f_teller_copyCount)) (w1 := (wd_Teller_copyCount cI cZ cJ tq h_teller h_ink h_skips h_teller_seen h_places h_ways h_tape h_teller_line f_teller_copyCount)) (ws' := (wd_GR_copies cI cZ cJ tq h0 h_teller h_ink h_skips h_places h_ways h_tape h_inflow h_reader h_teller_seen h_teller_line f_width f_height f_template f_passed f_teller_copyCount)) (va_runV (As := []) (rest := []) ⟨hx, hb, hml, hown, htw⟩ (c_Teller_copyCount l D cI cZ cJ tq h_teller h_ink h_skips h_teller_seen h_places h_ways h_tape h_teller_line _ f_teller_copyCount r4 e4) (cwV 0 htw (gd_V in314 in315 in316 in246 in313) rfl rfl rfl (by decide +kernel) ⟨Nat.le_of_ble_eq_true rfl, Nat.le_of_ble_eq_true rfl⟩) (preV_of (ci := 7) (q0 := 1) hG hS (va_free (wc := (wd_Teller_copyCount cI cZ cJ tq h_teller h_ink h_skips h_teller_seen h_places h_ways h_tape h_teller_line f_teller_copyCount)) hD hS hA [1] rfl) hK hP rfl rfl (hP.sub (ws' := (wd_Teller_copyCount cI cZ cJ tq h_teller h_ink h_skips h_teller_seen h_places h_ways h_tape h_teller_line f_teller_copyCount)) [1] rfl) (hD.sub (ws' := (wd_Teller_copyCount cI cZ cJ tq h_teller h_ink h_skips h_teller_seen h_places h_ways h_tape h_teller_line f_teller_copyCount)) [1] (by decide) rfl)) rfl rfl hl.1 rfl (lv_room (Nat.le_of_ble_eq_true rfl)) d_GR_copies_4 ⟨Nat.le_of_ble_eq_true rfl, Nat.le_of_ble_eq_true rfl⟩) hP hD hS hA [1] [0] [0, 1] rfl rfl (by decide) (by decide) (by decide) rfl (fun H locs hP hD hS => ?_)
  have e0 := Option.some.inj hf
  subst e0
  exact W.iret (v := r4) hx hb hr (fun t ht hW => ⟨⟨_, (), rfl, rfl, by rw [ht]; exact hP, va_K.moved hW.alike hK, hD⟩, hS.F ht⟩) hS.2.2 d_GR_copies_7 hlocks
-- GR_read
abbrev RM_GR_read : Room := { frames := 6, cells := 0, slots := 0, locals := 139 }
def ws_GR_read : List Cond := .code y_GR_read b_GR_read 1 (some .int) :: W_all
def wd_GR_read (cI cZ cJ : ClassId) (tq : Nat → Nat) (h0 : Nat) (h_reader : Nat) (h_reader_samples : Nat) (h_reader_samples_rows : Nat) (h_inflow : Nat) (h_ways : Nat) (h_inflow_words : Nat) (h_skips : Nat) (h_skips_rows : Nat) (h_reader_line : Nat) (h_ink : Nat) (h_places : Nat) (h_tape : Nat) (h_teller : Nat) (f_width : Int32) (f_height : Int32) (f_template : Int32) (f_passed : Int32) (f_reader_width : Int32) (f_reader_height : Int32) (f_reader_bitsRead : Int32) (f_reader_rowsRead : Int32) (f_reader_copyBefore : Int32) (f_reader_ended : Int32) (f_reader_refusal : Int32) (f_reader_current : Int32) (f_reader_currentIsCopy : Int32) (f_reader_samples_width : Int32) (n_reader_samples_rows : Nat) (g_reader_samples_rows : Nat → Int32) (f_inflow_count : Int32) (f_inflow_next : Int32) (f_ways_typical : Int32) (f_ways_byFax : Int32) (f_ways_open : Int32) (n_inflow_words : Nat) (g_inflow_words : Nat → Int32) (f_skips_width : Int32) (n_skips_rows : Nat) (g_skips_rows : Nat → Int32) (f_reader_line_width : Int32) (f_reader_line_above : Int32) (f_reader_line_place : Int32) (f_reader_line_black : Int32) : va_W := [(h0, .inr (0, [.int f_width, .int f_height, .int f_template, .ref h_ink, .ref h_skips, .ref h_places, .ref h_ways, .ref h_tape, .ref h_teller, .ref h_inflow, .ref h_reader, .int f_passed])), (h_reader, .inr (5, [.int f_reader_width, .int f_reader_height, .ref h_skips, .ref h_ways, .ref h_inflow, .ref h_reader_samples, .ref h_reader_line, .int f_reader_bitsRead, .int f_reader_rowsRead, .int f_reader_copyBefore, .int f_reader_ended, .int f_reader_refusal, .int f_reader_current, .int f_reader_currentIsCopy])), (h_reader_samples, .inr (4, [.int f_reader_samples_width, .ref h_reader_samples_rows])), (h_reader_samples_rows, .inl (cI, n_reader_samples_rows, .inl g_reader_samples_rows)), (h_inflow, .inr (2, [.ref h_inflow_words, .int f_inflow_count, .int f_inflow_next])), (h_ways, .inr (8, [.int f_ways_typical, .int f_ways_byFax, .int f_ways_open])), (h_inflow_words, .inl (cI, n_inflow_words, .inl g_inflow_words)), (h_skips, .inr (4, [.int f_skips_width, .ref h_skips_rows])), (h_skips_rows, .inl (cI, n_skips_rows, .inl g_skips_rows)), (h_reader_line, .inr (1, [.int f_reader_line_width, .int f_reader_line_above, .int f_reader_line_place, .int f_reader_line_black]))]
def F_GR_read (k : Nat) (f_reader_width : Int32) (f_reader_height : Int32) (f_reader_bitsRead : Int32) (f_reader_rowsRead : Int32) (f_reader_copyBefore : Int32) (f_reader_ended : Int32) (f_reader_refusal : Int32) (f_reader_current : Int32) (f_reader_currentIsCopy : Int32) (f_reader_samples_width : Int32) (n_reader_samples_rows : Nat) (g_reader_samples_rows : Nat → Int32) (f_inflow_count : Int32) (f_inflow_next : Int32) (f_ways_typical : Int32) (f_ways_byFax : Int32) (f_ways_open : Int32) (n_inflow_words : Nat) (g_inflow_words : Nat → Int32) (f_skips_width : Int32) (n_skips_rows : Nat) (g_skips_rows : Nat → Int32) (f_reader_line_width : Int32) (f_reader_line_above : Int32) (f_reader_line_place : Int32) (f_reader_line_black : Int32) : Option (Int32 × Int32 × Int32 × Int32 × Int32 × Int32 × Int32 × Int32 × (Nat → Int32) × Int32 × Int32 × Int32 × Int32) :=
  (bd13 (F_Reader_readOn k f_reader_width f_reader_height f_reader_bitsRead f_reader_rowsRead f_reader_copyBefore f_reader_ended f_reader_refusal f_reader_current f_reader_currentIsCopy f_reader_samples_width n_reader_samples_rows g_reader_samples_rows f_inflow_count f_inflow_next f_ways_typical f_ways_byFax f_ways_open n_inflow_words g_inflow_words f_skips_width n_skips_rows g_skips_rows f_reader_line_width f_reader_line_above f_reader_line_place f_reader_line_black) (fun r4 w4_f_bitsRead w4_f_rowsRead w4_f_copyBefore w4_f_ended w4_f_refusal w4_f_current w4_f_currentIsCopy w4_g_samples_rows w4_f_inflow_next w4_f_line_above w4_f_line_place w4_f_line_black => (some (r4, w4_f_bitsRead, w4_f_rowsRead, w4_f_copyBefore, w4_f_ended, w4_f_refusal, w4_f_current, w4_f_currentIsCopy, w4_g_samples_rows, w4_f_inflow_next, w4_f_line_above, w4_f_line_place, w4_f_line_black))))
set_option maxHeartbeats 4000000 in
set_option maxRecDepth 100000 in
theorem c_GR_read (l : Launch) (D : va_G) (cI cZ cJ : ClassId) (tq : Nat → Nat) (k : Nat) (h0 : Nat) (h_reader : Nat) (h_reader_samples : Nat) (h_reader_samples_rows : Nat) (h_inflow : Nat) (h_ways : Nat) (h_inflow_words : Nat) (h_skips : Nat) (h_skips_rows : Nat) (h_reader_line : Nat) (h_ink : Nat) (h_places : Nat) (h_tape : Nat) (h_teller : Nat) (sz : Nat) (f_width : Int32) (f_height : Int32) (f_template : Int32) (f_passed : Int32) (f_reader_width : Int32) (f_reader_height : Int32) (f_reader_bitsRead : Int32) (f_reader_rowsRead : Int32) (f_reader_copyBefore : Int32) (f_reader_ended : Int32) (f_reader_refusal : Int32) (f_reader_current : Int32) (f_reader_currentIsCopy : Int32) (f_reader_samples_width : Int32) (n_reader_samples_rows : Nat) (g_reader_samples_rows : Nat → Int32) (f_inflow_count : Int32) (f_inflow_next : Int32) (f_ways_typical : Int32) (f_ways_byFax : Int32) (f_ways_open : Int32) (n_inflow_words : Nat) (g_inflow_words : Nat → Int32) (f_skips_width : Int32) (n_skips_rows : Nat) (g_skips_rows : Nat → Int32) (f_reader_line_width : Int32) (f_reader_line_above : Int32) (f_reader_line_place : Int32) (f_reader_line_black : Int32) (o_r : Int32) (o_f_reader_bitsRead : Int32) (o_f_reader_rowsRead : Int32) (o_f_reader_copyBefore : Int32) (o_f_reader_ended : Int32) (o_f_reader_refusal : Int32) (o_f_reader_current : Int32) (o_f_reader_currentIsCopy : Int32) (o_g_reader_samples_rows : Nat → Int32) (o_f_inflow_next : Int32) (o_f_reader_line_above : Int32) (o_f_reader_line_place : Int32) (o_f_reader_line_black : Int32) (hf : F_GR_read k f_reader_width f_reader_height f_reader_bitsRead f_reader_rowsRead f_reader_copyBefore f_reader_ended f_reader_refusal f_reader_current f_reader_currentIsCopy f_reader_samples_width n_reader_samples_rows g_reader_samples_rows f_inflow_count f_inflow_next f_ways_typical f_ways_byFax f_ways_open n_inflow_words g_inflow_words f_skips_width n_skips_rows g_skips_rows f_reader_line_width f_reader_line_above f_reader_line_place f_reader_line_black = some (o_r, o_f_reader_bitsRead, o_f_reader_rowsRead, o_f_reader_copyBefore, o_f_reader_ended, o_f_reader_refusal, o_f_reader_current, o_f_reader_currentIsCopy, o_g_reader_samples_rows, o_f_inflow_next, o_f_reader_line_above, o_f_reader_line_place, o_f_reader_line_black)) : Met l y_GR_read ws_GR_read RM_GR_read (va_Pc [.ref h0] (Pg D cI cZ cJ tq (wd_GR_read cI cZ cJ tq h0 h_reader h_reader_samples h_reader_samples_rows h_inflow h_ways h_inflow_words h_skips h_skips_rows h_reader_line h_ink h_places h_tape h_teller f_width f_height f_template f_passed f_reader_width f_reader_height f_reader_bitsRead f_reader_rowsRead f_reader_copyBefore f_reader_ended f_reader_refusal f_reader_current f_reader_currentIsCopy f_reader_samples_width n_reader_samples_rows g_reader_samples_rows f_inflow_count f_inflow_next f_ways_typical f_ways_byFax f_ways_open n_inflow_words g_inflow_words f_skips_width n_skips_rows g_skips_rows f_reader_line_width f_reader_line_above f_reader_line_place f_reader_line_black) sz)) (qI D cI cZ cJ (va_A (wd_GR_read cI cZ cJ tq h0 h_reader h_reader_samples h_reader_samples_rows h_inflow h_ways h_inflow_words h_skips h_skips_rows h_reader_line h_ink h_places h_tape h_teller f_width f_height f_template f_passed f_reader_width f_reader_height f_reader_bitsRead f_reader_rowsRead f_reader_copyBefore f_reader_ended f_reader_refusal f_reader_current f_reader_currentIsCopy f_reader_samples_width n_reader_samples_rows g_reader_samples_rows f_inflow_count f_inflow_next f_ways_typical f_ways_byFax f_ways_open n_inflow_words g_inflow_words f_skips_width n_skips_rows g_skips_rows f_reader_line_width f_reader_line_above f_reader_line_place f_reader_line_black) sz) o_r (wd_GR_read cI cZ cJ tq h0 h_reader h_reader_samples h_reader_samples_rows h_inflow h_ways h_inflow_words h_skips h_skips_rows h_reader_line h_ink h_places h_tape h_teller f_width f_height f_template f_passed f_reader_width f_reader_height o_f_reader_bitsRead o_f_reader_rowsRead o_f_reader_copyBefore o_f_reader_ended o_f_reader_refusal o_f_reader_current o_f_reader_currentIsCopy f_reader_samples_width n_reader_samples_rows o_g_reader_samples_rows f_inflow_count o_f_inflow_next f_ways_typical f_ways_byFax f_ways_open n_inflow_words g_inflow_words f_skips_width n_skips_rows g_skips_rows f_reader_line_width o_f_reader_line_above o_f_reader_line_place o_f_reader_line_black)) 0 0 (va_A (wd_GR_read cI cZ cJ tq h0 h_reader h_reader_samples h_reader_samples_rows h_inflow h_ways h_inflow_words h_skips h_skips_rows h_reader_line h_ink h_places h_tape h_teller f_width f_height f_template f_passed f_reader_width f_reader_height f_reader_bitsRead f_reader_rowsRead f_reader_copyBefore f_reader_ended f_reader_refusal f_reader_current f_reader_currentIsCopy f_reader_samples_width n_reader_samples_rows g_reader_samples_rows f_inflow_count f_inflow_next f_ways_typical f_ways_byFax f_ways_open n_inflow_words g_inflow_words f_skips_width n_skips_rows g_skips_rows f_reader_line_width f_reader_line_above f_reader_line_place f_reader_line_black) sz) := by
  refine Met.ofW (cc := b_GR_read) (maxL := 1) (ret := (some .int)) (by decide) rfl ?_
  intro p e s m args below meth c s₁ B hml hv
  obtain ⟨rfl, hsz, hP, hK, hD0, hG⟩ := hv
  have hx := B.exec
  have hb := B.bytes
  have hr := B.returns
  have htw : ∀ w ∈ W_all, w.before [.ref h0].toArray s = true := fun w h => atoms_spec (ws := ws_GR_read) B.pre w (List.mem_cons_of_mem _ h)
  have hown : s.vm.findClass R_GR = some m.cls := findClass_of_methodNamed B.named
  have hlocks := B.notSynchronized
  subst hsz
  have hD := hD0.self (sz := s.heap.size)
  generalize hAe : va_A (wd_GR_read cI cZ cJ tq h0 h_reader h_reader_samples h_reader_samples_rows h_inflow h_ways h_inflow_words h_skips h_skips_rows h_reader_line h_ink h_places h_tape h_teller f_width f_height f_template f_passed f_reader_width f_reader_height f_reader_bitsRead f_reader_rowsRead f_reader_copyBefore f_reader_ended f_reader_refusal f_reader_current f_reader_currentIsCopy f_reader_samples_width n_reader_samples_rows g_reader_samples_rows f_inflow_count f_inflow_next f_ways_typical f_ways_byFax f_ways_open n_inflow_words g_inflow_words f_skips_width n_skips_rows g_skips_rows f_reader_line_width f_reader_line_above f_reader_line_place f_reader_line_black) s.heap.size = A at hD hG ⊢
  have hA : ∀ q : Nat, s.heap.size ≤ q → A q := fun q h => by rw [← hAe]; exact Or.inr h
  have hS : va_S A s.heap s.heap [] := va_S.rf
  have C0 : cx p s m meth c [.ref h0].toArray b_GR_read (some .int) 1 R_GR D cI cZ cJ tq A := ⟨hx, hb, hr, hml, hown, htw, hlocks, hK, hG⟩
  have hl := lv_entry ([.ref h0]) (n := 1) (Nat.le_of_ble_eq_true rfl)
  rw [lg_entry_eq]
  generalize (lg_sl ([.ref h0]) ++ List.replicate (1 - (lg_sl ([.ref h0])).length) Slot.unset).toArray = ls at hl ⊢
  have hl : lv_has ls 1 [(0, .ref h0)] := hl
  have hP : va_P D classes (wd_GR_read cI cZ cJ tq h0 h_reader h_reader_samples h_reader_samples_rows h_inflow h_ways h_inflow_words h_skips h_skips_rows h_reader_line h_ink h_places h_tape h_teller f_width f_height f_template f_passed f_reader_width f_reader_height f_reader_bitsRead f_reader_rowsRead f_reader_copyBefore f_reader_ended f_reader_refusal f_reader_current f_reader_currentIsCopy f_reader_samples_width n_reader_samples_rows g_reader_samples_rows f_inflow_count f_inflow_next f_ways_typical f_ways_byFax f_ways_open n_inflow_words g_inflow_words f_skips_width n_skips_rows g_skips_rows f_reader_line_width f_reader_line_above f_reader_line_place f_reader_line_black) s.heap := hP
  clear hAe
  unfold F_GR_read at hf
  refine lv_aload_n hx hb d_GR_read_0 rfl (lv_at hl 0 rfl) ?_
  refine va_get (D := D) (ci := 0) (v := .ref h_reader) (C := R_GR) (T := F_GR) (N := 12) hx hb htw i_GR hown hK hP 0 rfl rfl 10 (by decide) (htw _ in317) (fun _ h9 => h9) rfl d_GR_read_1 ?_
  obtain ⟨r4, w4_f_bitsRead, w4_f_rowsRead, w4_f_copyBefore, w4_f_ended, w4_f_refusal, w4_f_current, w4_f_currentIsCopy, w4_g_samples_rows, w4_f_inflow_next, w4_f_line_above, w4_f_line_place, w4_f_line_black, e4, hf⟩ := bd13_some hf
  refine g_calli (wc := (wd_Reader_readOn cI cZ cJ tq h_reader h_reader_samples h_reader_samples_rows h_inflow h_ways h_inflow_words h_skips h_skips_rows h_reader_line f_reader_width f_reader_height f_reader_bitsRead f_reader_rowsRead f_reader_copyBefore f_reader_ended f_reader_refusal f_reader_current f_reader_currentIsCopy f_reader_samples_width n_reader_samples_rows g_reader_samples_rows f_inflow_count f_inflow_next f_ways_typical f_ways_byFax f_ways_open n_inflow_words g_inflow_words f_skips_width n_skips_rows g_skips_rows f_reader_line_width f_reader_line_above f_reader_line_place f_reader_line_black)) (w1 := (wd_Reader_readOn cI cZ cJ tq h_reader h_reader_samples h_reader_samples_rows h_inflow h_ways h_inflow_words h_skips h_skips_rows h_reader_line f_reader_width f_reader_height w4_f_bitsRead w4_f_rowsRead w4_f_copyBefore w4_f_ended w4_f_refusal w4_f_current w4_f_currentIsCopy f_reader_samples_width n_reader_samples_rows w4_g_samples_rows f_inflow_count w4_f_inflow_next f_ways_typical f_ways_byFax f_ways_open n_inflow_words g_inflow_words f_skips_width n_skips_rows g_skips_rows f_reader_line_width w4_f_line_above w4_f_line_place w4_f_line_black)) (ws' := (wd_GR_read cI cZ cJ tq h0 h_reader h_reader_samples h_reader_samples_rows h_inflow h_ways h_inflow_words h_skips h_skips_rows h_reader_line h_ink h_places h_tape h_teller f_width f_height f_template f_passed f_reader_width f_reader_height w4_f_bitsRead w4_f_rowsRead w4_f_copyBefore w4_f_ended w4_f_refusal w4_f_current w4_f_currentIsCopy f_reader_samples_width n_reader_samples_rows w4_g_samples_rows f_inflow_count w4_f_inflow_next f_ways_typical f_ways_byFax f_ways_open n_inflow_words g_inflow_words f_skips_width n_skips_rows g_skips_rows f_reader_line_width w4_f_line_above w4_f_line_place w4_f_line_black)) (va_runV (As := []) (rest := []) ⟨hx, hb, hml, hown, htw⟩ (c_Reader_readOn l D cI cZ cJ tq k h_reader h_reader_samples h_reader_samples_rows h_inflow h_ways h_inflow_words h_skips h_skips_rows h_reader_line _ f_reader_width f_reader_height f_reader_bitsRead f_reader_rowsRead f_reader_copyBefore f_reader_ended f_reader_refusal f_reader_current f_reader_currentIsCopy f_reader_samples_width n_reader_samples_rows g_reader_samples_rows f_inflow_count f_inflow_next f_ways_typical f_ways_byFax f_ways_open n_inflow_words g_inflow_words f_skips_width n_skips_rows g_skips_rows f_reader_line_width f_reader_line_above f_reader_line_place f_reader_line_black r4 w4_f_bitsRead w4_f_rowsRead w4_f_copyBefore w4_f_ended w4_f_refusal w4_f_current w4_f_currentIsCopy w4_g_samples_rows w4_f_inflow_next w4_f_line_above w4_f_line_place w4_f_line_black e4) (cwV 0 htw (gd_V in319 in320 in321 in91 in318) rfl rfl rfl (by decide +kernel) ⟨Nat.le_of_ble_eq_true rfl, Nat.le_of_ble_eq_true rfl⟩) (preV_of (ci := 5) (q0 := 1) hG hS (va_free (wc := (wd_Reader_readOn cI cZ cJ tq h_reader h_reader_samples h_reader_samples_rows h_inflow h_ways h_inflow_words h_skips h_skips_rows h_reader_line f_reader_width f_reader_height f_reader_bitsRead f_reader_rowsRead f_reader_copyBefore f_reader_ended f_reader_refusal f_reader_current f_reader_currentIsCopy f_reader_samples_width n_reader_samples_rows g_reader_samples_rows f_inflow_count f_inflow_next f_ways_typical f_ways_byFax f_ways_open n_inflow_words g_inflow_words f_skips_width n_skips_rows g_skips_rows f_reader_line_width f_reader_line_above f_reader_line_place f_reader_line_black)) hD hS hA [1, 2, 3, 4, 5, 6, 7, 8, 9] rfl) hK hP rfl rfl (hP.sub (ws' := (wd_Reader_readOn cI cZ cJ tq h_reader h_reader_samples h_reader_samples_rows h_inflow h_ways h_inflow_words h_skips h_skips_rows h_reader_line f_reader_width f_reader_height f_reader_bitsRead f_reader_rowsRead f_reader_copyBefore f_reader_ended f_reader_refusal f_reader_current f_reader_currentIsCopy f_reader_samples_width n_reader_samples_rows g_reader_samples_rows f_inflow_count f_inflow_next f_ways_typical f_ways_byFax f_ways_open n_inflow_words g_inflow_words f_skips_width n_skips_rows g_skips_rows f_reader_line_width f_reader_line_above f_reader_line_place f_reader_line_black)) [1, 2, 3, 4, 5, 6, 7, 8, 9] rfl) (hD.sub (ws' := (wd_Reader_readOn cI cZ cJ tq h_reader h_reader_samples h_reader_samples_rows h_inflow h_ways h_inflow_words h_skips h_skips_rows h_reader_line f_reader_width f_reader_height f_reader_bitsRead f_reader_rowsRead f_reader_copyBefore f_reader_ended f_reader_refusal f_reader_current f_reader_currentIsCopy f_reader_samples_width n_reader_samples_rows g_reader_samples_rows f_inflow_count f_inflow_next f_ways_typical f_ways_byFax f_ways_open n_inflow_words g_inflow_words f_skips_width n_skips_rows g_skips_rows f_reader_line_width f_reader_line_above f_reader_line_place f_reader_line_black)) [1, 2, 3, 4, 5, 6, 7, 8, 9] (by decide) rfl)) rfl rfl hl.1 rfl (lv_room (Nat.le_of_ble_eq_true rfl)) d_GR_read_4 ⟨Nat.le_of_ble_eq_true rfl, Nat.le_of_ble_eq_true rfl⟩) hP hD hS hA [1, 2, 3, 4, 5, 6, 7, 8, 9] [0] [0, 1, 2, 3, 4, 5, 6, 7, 8, 9] rfl rfl (by decide) (by decide) (by decide) rfl (fun H locs hP hD hS => ?_)
  obtain ⟨e0, e1, e2, e3, e4, e5, e6, e7, e8, e9, e10, e11, e12⟩ := so13 hf
  subst e0; subst e1; subst e2; subst e3; subst e4; subst e5; subst e6; subst e7; subst e8; subst e9; subst e10; subst e11; subst e12
  exact W.iret (v := r4) hx hb hr (fun t ht hW => ⟨⟨_, (), rfl, rfl, by rw [ht]; exact hP, va_K.moved hW.alike hK, hD⟩, hS.F ht⟩) hS.2.2 d_GR_read_7 hlocks
-- GR_begin
abbrev RM_GR_begin : Room := { frames := 2, cells := 0, slots := 0, locals := 41 }
def ws_GR_begin : List Cond := .code y_GR_begin b_GR_begin 2 (some .int) :: W_all
def wd_GR_begin (cI cZ cJ : ClassId) (tq : Nat → Nat) (h0 : Nat) (h_inflow : Nat) (h_reader : Nat) (h_reader_samples : Nat) (h_reader_samples_rows : Nat) (h_ink : Nat) (h_skips : Nat) (h_places : Nat) (h_ways : Nat) (h_tape : Nat) (h_teller : Nat) (h_inflow_words : Nat) (h_reader_line : Nat) (f_width : Int32) (f_height : Int32) (f_template : Int32) (f_passed : Int32) (f_inflow_count : Int32) (f_inflow_next : Int32) (f_reader_width : Int32) (f_reader_height : Int32) (f_reader_bitsRead : Int32) (f_reader_rowsRead : Int32) (f_reader_copyBefore : Int32) (f_reader_ended : Int32) (f_reader_refusal : Int32) (f_reader_current : Int32) (f_reader_currentIsCopy : Int32) (f_reader_samples_width : Int32) (n_reader_samples_rows : Nat) (g_reader_samples_rows : Nat → Int32) : va_W := [(h0, .inr (0, [.int f_width, .int f_height, .int f_template, .ref h_ink, .ref h_skips, .ref h_places, .ref h_ways, .ref h_tape, .ref h_teller, .ref h_inflow, .ref h_reader, .int f_passed])), (h_inflow, .inr (2, [.ref h_inflow_words, .int f_inflow_count, .int f_inflow_next])), (h_reader, .inr (5, [.int f_reader_width, .int f_reader_height, .ref h_skips, .ref h_ways, .ref h_inflow, .ref h_reader_samples, .ref h_reader_line, .int f_reader_bitsRead, .int f_reader_rowsRead, .int f_reader_copyBefore, .int f_reader_ended, .int f_reader_refusal, .int f_reader_current, .int f_reader_currentIsCopy])), (h_reader_samples, .inr (4, [.int f_reader_samples_width, .ref h_reader_samples_rows])), (h_reader_samples_rows, .inl (cI, n_reader_samples_rows, .inl g_reader_samples_rows))]
def F_GR_begin (k : Nat) (f_passed : Int32) (f_inflow_count : Int32) (f_reader_bitsRead : Int32) (f_reader_rowsRead : Int32) (f_reader_copyBefore : Int32) (f_reader_ended : Int32) (f_reader_refusal : Int32) (n_reader_samples_rows : Nat) (g_reader_samples_rows : Nat → Int32) : Option (Int32 × Int32 × Int32 × Int32 × Int32 × Int32 × Int32 × Int32 × (Nat → Int32)) :=
  (bd1 (F_Inflow_count f_inflow_count) (fun r4 => (bd1 (F_Inflow_wipe f_inflow_count) (fun w12_f_count => (bd6 (F_Reader_restart k f_reader_bitsRead f_reader_rowsRead f_reader_copyBefore f_reader_ended f_reader_refusal n_reader_samples_rows g_reader_samples_rows) (fun w24_f_bitsRead w24_f_rowsRead w24_f_copyBefore w24_f_ended w24_f_refusal w24_g_samples_rows => (some (r4, 0, w12_f_count, w24_f_bitsRead, w24_f_rowsRead, w24_f_copyBefore, w24_f_ended, w24_f_refusal, w24_g_samples_rows))))))))
set_option maxHeartbeats 4000000 in
set_option maxRecDepth 100000 in
theorem c_GR_begin (l : Launch) (D : va_G) (cI cZ cJ : ClassId) (tq : Nat → Nat) (k : Nat) (h0 : Nat) (h_inflow : Nat) (h_reader : Nat) (h_reader_samples : Nat) (h_reader_samples_rows : Nat) (h_ink : Nat) (h_skips : Nat) (h_places : Nat) (h_ways : Nat) (h_tape : Nat) (h_teller : Nat) (h_inflow_words : Nat) (h_reader_line : Nat) (sz : Nat) (f_width : Int32) (f_height : Int32) (f_template : Int32) (f_passed : Int32) (f_inflow_count : Int32) (f_inflow_next : Int32) (f_reader_width : Int32) (f_reader_height : Int32) (f_reader_bitsRead : Int32) (f_reader_rowsRead : Int32) (f_reader_copyBefore : Int32) (f_reader_ended : Int32) (f_reader_refusal : Int32) (f_reader_current : Int32) (f_reader_currentIsCopy : Int32) (f_reader_samples_width : Int32) (n_reader_samples_rows : Nat) (g_reader_samples_rows : Nat → Int32) (o_r : Int32) (o_f_passed : Int32) (o_f_inflow_count : Int32) (o_f_reader_bitsRead : Int32) (o_f_reader_rowsRead : Int32) (o_f_reader_copyBefore : Int32) (o_f_reader_ended : Int32) (o_f_reader_refusal : Int32) (o_g_reader_samples_rows : Nat → Int32) (hf : F_GR_begin k f_passed f_inflow_count f_reader_bitsRead f_reader_rowsRead f_reader_copyBefore f_reader_ended f_reader_refusal n_reader_samples_rows g_reader_samples_rows = some (o_r, o_f_passed, o_f_inflow_count, o_f_reader_bitsRead, o_f_reader_rowsRead, o_f_reader_copyBefore, o_f_reader_ended, o_f_reader_refusal, o_g_reader_samples_rows)) : Met l y_GR_begin ws_GR_begin RM_GR_begin (va_Pc [.ref h0] (Pg D cI cZ cJ tq (wd_GR_begin cI cZ cJ tq h0 h_inflow h_reader h_reader_samples h_reader_samples_rows h_ink h_skips h_places h_ways h_tape h_teller h_inflow_words h_reader_line f_width f_height f_template f_passed f_inflow_count f_inflow_next f_reader_width f_reader_height f_reader_bitsRead f_reader_rowsRead f_reader_copyBefore f_reader_ended f_reader_refusal f_reader_current f_reader_currentIsCopy f_reader_samples_width n_reader_samples_rows g_reader_samples_rows) sz)) (qI D cI cZ cJ (va_A (wd_GR_begin cI cZ cJ tq h0 h_inflow h_reader h_reader_samples h_reader_samples_rows h_ink h_skips h_places h_ways h_tape h_teller h_inflow_words h_reader_line f_width f_height f_template f_passed f_inflow_count f_inflow_next f_reader_width f_reader_height f_reader_bitsRead f_reader_rowsRead f_reader_copyBefore f_reader_ended f_reader_refusal f_reader_current f_reader_currentIsCopy f_reader_samples_width n_reader_samples_rows g_reader_samples_rows) sz) o_r (wd_GR_begin cI cZ cJ tq h0 h_inflow h_reader h_reader_samples h_reader_samples_rows h_ink h_skips h_places h_ways h_tape h_teller h_inflow_words h_reader_line f_width f_height f_template o_f_passed o_f_inflow_count f_inflow_next f_reader_width f_reader_height o_f_reader_bitsRead o_f_reader_rowsRead o_f_reader_copyBefore o_f_reader_ended o_f_reader_refusal f_reader_current f_reader_currentIsCopy f_reader_samples_width n_reader_samples_rows o_g_reader_samples_rows)) 0 0 (va_A (wd_GR_begin cI cZ cJ tq h0 h_inflow h_reader h_reader_samples h_reader_samples_rows h_ink h_skips h_places h_ways h_tape h_teller h_inflow_words h_reader_line f_width f_height f_template f_passed f_inflow_count f_inflow_next f_reader_width f_reader_height f_reader_bitsRead f_reader_rowsRead f_reader_copyBefore f_reader_ended f_reader_refusal f_reader_current f_reader_currentIsCopy f_reader_samples_width n_reader_samples_rows g_reader_samples_rows) sz) := by
  refine Met.ofW (cc := b_GR_begin) (maxL := 2) (ret := (some .int)) (by decide) rfl ?_
  intro p e s m args below meth c s₁ B hml hv
  obtain ⟨rfl, hsz, hP, hK, hD0, hG⟩ := hv
  have hx := B.exec
  have hb := B.bytes
  have hr := B.returns
  have htw : ∀ w ∈ W_all, w.before [.ref h0].toArray s = true := fun w h => atoms_spec (ws := ws_GR_begin) B.pre w (List.mem_cons_of_mem _ h)
  have hown : s.vm.findClass R_GR = some m.cls := findClass_of_methodNamed B.named
  have hlocks := B.notSynchronized
  subst hsz
  have hD := hD0.self (sz := s.heap.size)
  generalize hAe : va_A (wd_GR_begin cI cZ cJ tq h0 h_inflow h_reader h_reader_samples h_reader_samples_rows h_ink h_skips h_places h_ways h_tape h_teller h_inflow_words h_reader_line f_width f_height f_template f_passed f_inflow_count f_inflow_next f_reader_width f_reader_height f_reader_bitsRead f_reader_rowsRead f_reader_copyBefore f_reader_ended f_reader_refusal f_reader_current f_reader_currentIsCopy f_reader_samples_width n_reader_samples_rows g_reader_samples_rows) s.heap.size = A at hD hG ⊢
  have hA : ∀ q : Nat, s.heap.size ≤ q → A q := fun q h => by rw [← hAe]; exact Or.inr h
  have hS : va_S A s.heap s.heap [] := va_S.rf
  have C0 : cx p s m meth c [.ref h0].toArray b_GR_begin (some .int) 2 R_GR D cI cZ cJ tq A := ⟨hx, hb, hr, hml, hown, htw, hlocks, hK, hG⟩
  have hl := lv_entry ([.ref h0]) (n := 2) (Nat.le_of_ble_eq_true rfl)
  rw [lg_entry_eq]
  generalize (lg_sl ([.ref h0]) ++ List.replicate (2 - (lg_sl ([.ref h0])).length) Slot.unset).toArray = ls at hl ⊢
  have hl : lv_has ls 2 [(0, .ref h0)] := hl
  have hP : va_P D classes (wd_GR_begin cI cZ cJ tq h0 h_inflow h_reader h_reader_samples h_reader_samples_rows h_ink h_skips h_places h_ways h_tape h_teller h_inflow_words h_reader_line f_width f_height f_template f_passed f_inflow_count f_inflow_next f_reader_width f_reader_height f_reader_bitsRead f_reader_rowsRead f_reader_copyBefore f_reader_ended f_reader_refusal f_reader_current f_reader_currentIsCopy f_reader_samples_width n_reader_samples_rows g_reader_samples_rows) s.heap := hP
  clear hAe
  unfold F_GR_begin at hf
  refine lv_aload_n hx hb d_GR_begin_0 rfl (lv_at hl 0 rfl) ?_
  refine va_get (D := D) (ci := 0) (v := .ref h_inflow) (C := R_GR) (T := F_GR) (N := 12) hx hb htw i_GR hown hK hP 0 rfl rfl 9 (by decide) (htw _ in322) (fun _ h9 => h9) rfl d_GR_begin_1 ?_
  obtain ⟨r4, e4, hf⟩ := bd1_some hf
  refine g_calli (wc := (wd_Inflow_count cI cZ cJ tq h_inflow h_inflow_words f_inflow_count f_inflow_next)) (w1 := (wd_Inflow_count cI cZ cJ tq h_inflow h_inflow_words f_inflow_count f_inflow_next)) (ws' := (wd_GR_begin cI cZ cJ tq h0 h_inflow h_reader h_reader_samples h_reader_samples_rows h_ink h_skips h_places h_ways h_tape h_teller h_inflow_words h_reader_line f_width f_height f_template f_passed f_inflow_count f_inflow_next f_reader_width f_reader_height f_reader_bitsRead f_reader_rowsRead f_reader_copyBefore f_reader_ended f_reader_refusal f_reader_current f_reader_currentIsCopy f_reader_samples_width n_reader_samples_rows g_reader_samples_rows)) (va_runV (As := []) (rest := []) ⟨hx, hb, hml, hown, htw⟩ (c_Inflow_count l D cI cZ cJ tq h_inflow h_inflow_words _ f_inflow_count f_inflow_next r4 e4) (cwV 0 htw (gd_V in324 in325 in326 in69 in323) rfl rfl rfl (by decide +kernel) ⟨Nat.le_of_ble_eq_true rfl, Nat.le_of_ble_eq_true rfl⟩) (preV_of (ci := 2) (q0 := 1) hG hS (va_free (wc := (wd_Inflow_count cI cZ cJ tq h_inflow h_inflow_words f_inflow_count f_inflow_next)) hD hS hA [1] rfl) hK hP rfl rfl (hP.sub (ws' := (wd_Inflow_count cI cZ cJ tq h_inflow h_inflow_words f_inflow_count f_inflow_next)) [1] rfl) (hD.sub (ws' := (wd_Inflow_count cI cZ cJ tq h_inflow h_inflow_words f_inflow_count f_inflow_next)) [1] (by decide) rfl)) rfl rfl hl.1 rfl (lv_room (Nat.le_of_ble_eq_true rfl)) d_GR_begin_4 ⟨Nat.le_of_ble_eq_true rfl, Nat.le_of_ble_eq_true rfl⟩) hP hD hS hA [1] [0, 2, 3, 4] [0, 4, 1, 2, 3] rfl rfl (by decide) (by decide) (by decide) rfl (fun H locs hP hD hS => ?_)
  refine lv_istore_n (lv' := [(1, .int r4), (0, .ref h0)]) hx hb d_GR_begin_7 rfl hl (by decide) rfl (fun ls hl => ?_)
  refine lv_aload_n hx hb d_GR_begin_8 rfl (lv_at hl 1 rfl) ?_
  refine va_get (D := D) (ci := 0) (v := .ref h_inflow) (C := R_GR) (T := F_GR) (N := 12) hx hb htw i_GR hown hK hP 0 rfl rfl 9 (by decide) (htw _ in322) (fun _ h9 => h9) rfl d_GR_begin_9 ?_
  obtain ⟨w12_f_count, e12, hf⟩ := bd1_some hf
  refine g_callv (wc := (wd_Inflow_wipe cI cZ cJ tq h_inflow h_inflow_words f_inflow_count f_inflow_next)) (w1 := (wd_Inflow_wipe cI cZ cJ tq h_inflow h_inflow_words w12_f_count f_inflow_next)) (ws' := (wd_GR_begin cI cZ cJ tq h0 h_inflow h_reader h_reader_samples h_reader_samples_rows h_ink h_skips h_places h_ways h_tape h_teller h_inflow_words h_reader_line f_width f_height f_template f_passed w12_f_count f_inflow_next f_reader_width f_reader_height f_reader_bitsRead f_reader_rowsRead f_reader_copyBefore f_reader_ended f_reader_refusal f_reader_current f_reader_currentIsCopy f_reader_samples_width n_reader_samples_rows g_reader_samples_rows)) (va_runV (As := []) (rest := []) ⟨hx, hb, hml, hown, htw⟩ (c_Inflow_wipe l D cI cZ cJ tq h_inflow h_inflow_words _ f_inflow_count f_inflow_next w12_f_count e12) (cwV 0 htw (gd_V in328 in329 in330 in69 in327) rfl rfl rfl (by decide +kernel) ⟨Nat.le_of_ble_eq_true rfl, Nat.le_of_ble_eq_true rfl⟩) (preV_of (ci := 2) (q0 := 1) hG hS (va_free (wc := (wd_Inflow_wipe cI cZ cJ tq h_inflow h_inflow_words f_inflow_count f_inflow_next)) hD hS hA [1] rfl) hK hP rfl rfl (hP.sub (ws' := (wd_Inflow_wipe cI cZ cJ tq h_inflow h_inflow_words f_inflow_count f_inflow_next)) [1] rfl) (hD.sub (ws' := (wd_Inflow_wipe cI cZ cJ tq h_inflow h_inflow_words f_inflow_count f_inflow_next)) [1] (by decide) rfl)) rfl rfl hl.1 rfl (lv_room (Nat.le_of_ble_eq_true rfl)) d_GR_begin_12 ⟨Nat.le_of_ble_eq_true rfl, Nat.le_of_ble_eq_true rfl⟩) hP hD hS hA [1] [0, 2, 3, 4] [0, 4, 1, 2, 3] rfl rfl (by decide) (by decide) (by decide) rfl (fun H locs hP hD hS => ?_)
  refine lv_aload_n hx hb d_GR_begin_15 rfl (lv_at hl 1 rfl) ?_
  refine lv_iconst (v := 0) hx hb d_GR_begin_16 (by decide) ?_
  refine va_put (D := D) (ci := 0) (v := .int 0) (ty := .int) (C := R_GR) (T := F_GR) (N := 12) hx hb htw i_GR t_GR t_GR_ok n_GR hown hK hP hD hS 0 rfl rfl 11 (by decide) (htw _ in302) (fun _ h9 => h9) rfl (by decide +kernel) rfl rfl (Nat.le_of_ble_eq_true rfl) d_GR_begin_17 (fun H locs hP hD hS => ?_)
  have hP : va_P D classes (wd_GR_begin cI cZ cJ tq h0 h_inflow h_reader h_reader_samples h_reader_samples_rows h_ink h_skips h_places h_ways h_tape h_teller h_inflow_words h_reader_line f_width f_height f_template 0 w12_f_count f_inflow_next f_reader_width f_reader_height f_reader_bitsRead f_reader_rowsRead f_reader_copyBefore f_reader_ended f_reader_refusal f_reader_current f_reader_currentIsCopy f_reader_samples_width n_reader_samples_rows g_reader_samples_rows) H := hP
  have hD : va_D A (wd_GR_begin cI cZ cJ tq h0 h_inflow h_reader h_reader_samples h_reader_samples_rows h_ink h_skips h_places h_ways h_tape h_teller h_inflow_words h_reader_line f_width f_height f_template 0 w12_f_count f_inflow_next f_reader_width f_reader_height f_reader_bitsRead f_reader_rowsRead f_reader_copyBefore f_reader_ended f_reader_refusal f_reader_current f_reader_currentIsCopy f_reader_samples_width n_reader_samples_rows g_reader_samples_rows) := hD
  refine lv_aload_n hx hb d_GR_begin_20 rfl (lv_at hl 1 rfl) ?_
  refine va_get (D := D) (ci := 0) (v := .ref h_reader) (C := R_GR) (T := F_GR) (N := 12) hx hb htw i_GR hown hK hP 0 rfl rfl 10 (by decide) (htw _ in317) (fun _ h9 => h9) rfl d_GR_begin_21 ?_
  obtain ⟨w24_f_bitsRead, w24_f_rowsRead, w24_f_copyBefore, w24_f_ended, w24_f_refusal, w24_g_samples_rows, e24, hf⟩ := bd6_some hf
  refine g_callv (wc := (wd_Reader_restart cI cZ cJ tq h_reader h_reader_samples h_reader_samples_rows h_skips h_ways h_inflow h_reader_line f_reader_width f_reader_height f_reader_bitsRead f_reader_rowsRead f_reader_copyBefore f_reader_ended f_reader_refusal f_reader_current f_reader_currentIsCopy f_reader_samples_width n_reader_samples_rows g_reader_samples_rows)) (w1 := (wd_Reader_restart cI cZ cJ tq h_reader h_reader_samples h_reader_samples_rows h_skips h_ways h_inflow h_reader_line f_reader_width f_reader_height w24_f_bitsRead w24_f_rowsRead w24_f_copyBefore w24_f_ended w24_f_refusal f_reader_current f_reader_currentIsCopy f_reader_samples_width n_reader_samples_rows w24_g_samples_rows)) (ws' := (wd_GR_begin cI cZ cJ tq h0 h_inflow h_reader h_reader_samples h_reader_samples_rows h_ink h_skips h_places h_ways h_tape h_teller h_inflow_words h_reader_line f_width f_height f_template 0 w12_f_count f_inflow_next f_reader_width f_reader_height w24_f_bitsRead w24_f_rowsRead w24_f_copyBefore w24_f_ended w24_f_refusal f_reader_current f_reader_currentIsCopy f_reader_samples_width n_reader_samples_rows w24_g_samples_rows)) (va_runV (As := []) (rest := []) ⟨hx, hb, hml, hown, htw⟩ (c_Reader_restart l D cI cZ cJ tq k h_reader h_reader_samples h_reader_samples_rows h_skips h_ways h_inflow h_reader_line _ f_reader_width f_reader_height f_reader_bitsRead f_reader_rowsRead f_reader_copyBefore f_reader_ended f_reader_refusal f_reader_current f_reader_currentIsCopy f_reader_samples_width n_reader_samples_rows g_reader_samples_rows w24_f_bitsRead w24_f_rowsRead w24_f_copyBefore w24_f_ended w24_f_refusal w24_g_samples_rows e24) (cwV 0 htw (gd_V in332 in333 in334 in91 in331) rfl rfl rfl (by decide +kernel) ⟨Nat.le_of_ble_eq_true rfl, Nat.le_of_ble_eq_true rfl⟩) (preV_of (ci := 5) (q0 := 2) hG hS (va_free (wc := (wd_Reader_restart cI cZ cJ tq h_reader h_reader_samples h_reader_samples_rows h_skips h_ways h_inflow h_reader_line f_reader_width f_reader_height f_reader_bitsRead f_reader_rowsRead f_reader_copyBefore f_reader_ended f_reader_refusal f_reader_current f_reader_currentIsCopy f_reader_samples_width n_reader_samples_rows g_reader_samples_rows)) hD hS hA [2, 3, 4] rfl) hK hP rfl rfl (hP.sub (ws' := (wd_Reader_restart cI cZ cJ tq h_reader h_reader_samples h_reader_samples_rows h_skips h_ways h_inflow h_reader_line f_reader_width f_reader_height f_reader_bitsRead f_reader_rowsRead f_reader_copyBefore f_reader_ended f_reader_refusal f_reader_current f_reader_currentIsCopy f_reader_samples_width n_reader_samples_rows g_reader_samples_rows)) [2, 3, 4] rfl) (hD.sub (ws' := (wd_Reader_restart cI cZ cJ tq h_reader h_reader_samples h_reader_samples_rows h_skips h_ways h_inflow h_reader_line f_reader_width f_reader_height f_reader_bitsRead f_reader_rowsRead f_reader_copyBefore f_reader_ended f_reader_refusal f_reader_current f_reader_currentIsCopy f_reader_samples_width n_reader_samples_rows g_reader_samples_rows)) [2, 3, 4] (by decide) rfl)) rfl rfl hl.1 rfl (lv_room (Nat.le_of_ble_eq_true rfl)) d_GR_begin_24 ⟨Nat.le_of_ble_eq_true rfl, Nat.le_of_ble_eq_true rfl⟩) hP hD hS hA [2, 3, 4] [0, 1] [0, 1, 2, 3, 4] rfl rfl (by decide) (by decide) (by decide) rfl (fun H locs hP hD hS => ?_)
  refine lv_iload_n hx hb d_GR_begin_27 rfl (lv_at hl 0 rfl) ?_
  obtain ⟨e0, e1, e2, e3, e4, e5, e6, e7, e8⟩ := so9 hf
  subst e0; subst e1; subst e2; subst e3; subst e4; subst e5; subst e6; subst e7; subst e8
  exact W.iret (v := r4) hx hb hr (fun t ht hW => ⟨⟨_, (), rfl, rfl, by rw [ht]; exact hP, va_K.moved hW.alike hK, hD⟩, hS.F ht⟩) hS.2.2 d_GR_begin_28 hlocks
-- GR_told
abbrev RM_GR_told : Room := { frames := 1, cells := 0, slots := 0, locals := 20 }
def ws_GR_told : List Cond := .code y_GR_told b_GR_told 2 (some .int) :: W_all
def wd_GR_told (cI cZ cJ : ClassId) (tq : Nat → Nat) (h0 : Nat) (h_reader : Nat) (h_inflow : Nat) (h_tape : Nat) (h_places : Nat) (h_ink : Nat) (h_skips : Nat) (h_ways : Nat) (h_teller : Nat) (h_reader_samples : Nat) (h_reader_line : Nat) (h_inflow_words : Nat) (h_tape_entries : Nat) (h_places_now : Nat) (f_width : Int32) (f_height : Int32) (f_template : Int32) (f_passed : Int32) (f_reader_width : Int32) (f_reader_height : Int32) (f_reader_bitsRead : Int32) (f_reader_rowsRead : Int32) (f_reader_copyBefore : Int32) (f_reader_ended : Int32) (f_reader_refusal : Int32) (f_reader_current : Int32) (f_reader_currentIsCopy : Int32) (f_inflow_count : Int32) (f_inflow_next : Int32) (f_tape_count : Int32) (f_places_template : Int32) (t_places_first : Nat) (t_places_loosePlaces : Nat) : va_W := [(h0, .inr (0, [.int f_width, .int f_height, .int f_template, .ref h_ink, .ref h_skips, .ref h_places, .ref h_ways, .ref h_tape, .ref h_teller, .ref h_inflow, .ref h_reader, .int f_passed])), (h_reader, .inr (5, [.int f_reader_width, .int f_reader_height, .ref h_skips, .ref h_ways, .ref h_inflow, .ref h_reader_samples, .ref h_reader_line, .int f_reader_bitsRead, .int f_reader_rowsRead, .int f_reader_copyBefore, .int f_reader_ended, .int f_reader_refusal, .int f_reader_current, .int f_reader_currentIsCopy])), (h_inflow, .inr (2, [.ref h_inflow_words, .int f_inflow_count, .int f_inflow_next])), (h_tape, .inr (6, [.ref h_tape_entries, .int f_tape_count])), (h_places, .inr (3, [.int f_places_template, .ref (tq t_places_first), .ref h_places_now, .ref (tq t_places_loosePlaces)]))]
def F_GR_told (x1 : Int32) (f_width : Int32) (f_height : Int32) (f_template : Int32) (f_reader_bitsRead : Int32) (f_reader_rowsRead : Int32) (f_reader_ended : Int32) (f_inflow_count : Int32) (f_tape_count : Int32) (t_places_loosePlaces : Nat) : Option (Int32) :=
  (if x1 = 0 then (some f_width) else (if x1 = 1 then (some f_height) else (if x1 = 2 then (some f_template) else (if x1 = 3 then (bd1 (F_Places_looseCount t_places_loosePlaces) (fun r71 => (some r71))) else (if x1 = 4 then (bd1 (F_Tape_count f_tape_count) (fun r79 => (some r79))) else (if x1 = 5 then (bd1 (F_Inflow_count f_inflow_count) (fun r87 => (some r87))) else (if x1 = 6 then (bd1 (F_Reader_bitsRead f_reader_bitsRead) (fun r95 => (some r95))) else (if x1 = 7 then (bd1 (F_Reader_rowsRead f_reader_rowsRead) (fun r103 => (some r103))) else (if x1 = 8 then (bd1 (F_Reader_hasEnded f_reader_ended) (fun r111 => (if r111 = 0 then (some 0) else (some 1)))) else (some (-1)))))))))))
set_option maxHeartbeats 4000000 in
set_option maxRecDepth 100000 in
theorem c_GR_told (l : Launch) (D : va_G) (cI cZ cJ : ClassId) (tq : Nat → Nat) (h0 : Nat) (h_reader : Nat) (h_inflow : Nat) (h_tape : Nat) (h_places : Nat) (h_ink : Nat) (h_skips : Nat) (h_ways : Nat) (h_teller : Nat) (h_reader_samples : Nat) (h_reader_line : Nat) (h_inflow_words : Nat) (h_tape_entries : Nat) (h_places_now : Nat) (sz : Nat) (f_width : Int32) (f_height : Int32) (f_template : Int32) (f_passed : Int32) (f_reader_width : Int32) (f_reader_height : Int32) (f_reader_bitsRead : Int32) (f_reader_rowsRead : Int32) (f_reader_copyBefore : Int32) (f_reader_ended : Int32) (f_reader_refusal : Int32) (f_reader_current : Int32) (f_reader_currentIsCopy : Int32) (f_inflow_count : Int32) (f_inflow_next : Int32) (f_tape_count : Int32) (f_places_template : Int32) (t_places_first : Nat) (t_places_loosePlaces : Nat) (x1 : Int32) (o_r : Int32) (hf : F_GR_told x1 f_width f_height f_template f_reader_bitsRead f_reader_rowsRead f_reader_ended f_inflow_count f_tape_count t_places_loosePlaces = some o_r) : Met l y_GR_told ws_GR_told RM_GR_told (va_Pc [.ref h0, .int x1] (Pg D cI cZ cJ tq (wd_GR_told cI cZ cJ tq h0 h_reader h_inflow h_tape h_places h_ink h_skips h_ways h_teller h_reader_samples h_reader_line h_inflow_words h_tape_entries h_places_now f_width f_height f_template f_passed f_reader_width f_reader_height f_reader_bitsRead f_reader_rowsRead f_reader_copyBefore f_reader_ended f_reader_refusal f_reader_current f_reader_currentIsCopy f_inflow_count f_inflow_next f_tape_count f_places_template t_places_first t_places_loosePlaces) sz)) (qI D cI cZ cJ (va_A (wd_GR_told cI cZ cJ tq h0 h_reader h_inflow h_tape h_places h_ink h_skips h_ways h_teller h_reader_samples h_reader_line h_inflow_words h_tape_entries h_places_now f_width f_height f_template f_passed f_reader_width f_reader_height f_reader_bitsRead f_reader_rowsRead f_reader_copyBefore f_reader_ended f_reader_refusal f_reader_current f_reader_currentIsCopy f_inflow_count f_inflow_next f_tape_count f_places_template t_places_first t_places_loosePlaces) sz) o_r (wd_GR_told cI cZ cJ tq h0 h_reader h_inflow h_tape h_places h_ink h_skips h_ways h_teller h_reader_samples h_reader_line h_inflow_words h_tape_entries h_places_now f_width f_height f_template f_passed f_reader_width f_reader_height f_reader_bitsRead f_reader_rowsRead f_reader_copyBefore f_reader_ended f_reader_refusal f_reader_current f_reader_currentIsCopy f_inflow_count f_inflow_next f_tape_count f_places_template t_places_first t_places_loosePlaces)) 0 0 (va_A (wd_GR_told cI cZ cJ tq h0 h_reader h_inflow h_tape h_places h_ink h_skips h_ways h_teller h_reader_samples h_reader_line h_inflow_words h_tape_entries h_places_now f_width f_height f_template f_passed f_reader_width f_reader_height f_reader_bitsRead f_reader_rowsRead f_reader_copyBefore f_reader_ended f_reader_refusal f_reader_current f_reader_currentIsCopy f_inflow_count f_inflow_next f_tape_count f_places_template t_places_first t_places_loosePlaces) sz) := by
  refine Met.ofW (cc := b_GR_told) (maxL := 2) (ret := (some .int)) (by decide) rfl ?_
  intro p e s m args below meth c s₁ B hml hv
  obtain ⟨rfl, hsz, hP, hK, hD0, hG⟩ := hv
  have hx := B.exec
  have hb := B.bytes
  have hr := B.returns
  have htw : ∀ w ∈ W_all, w.before [.ref h0, .int x1].toArray s = true := fun w h => atoms_spec (ws := ws_GR_told) B.pre w (List.mem_cons_of_mem _ h)
  have hown : s.vm.findClass R_GR = some m.cls := findClass_of_methodNamed B.named
  have hlocks := B.notSynchronized
  subst hsz
  have hD := hD0.self (sz := s.heap.size)
  generalize hAe : va_A (wd_GR_told cI cZ cJ tq h0 h_reader h_inflow h_tape h_places h_ink h_skips h_ways h_teller h_reader_samples h_reader_line h_inflow_words h_tape_entries h_places_now f_width f_height f_template f_passed f_reader_width f_reader_height f_reader_bitsRead f_reader_rowsRead f_reader_copyBefore f_reader_ended f_reader_refusal f_reader_current f_reader_currentIsCopy f_inflow_count f_inflow_next f_tape_count f_places_template t_places_first t_places_loosePlaces) s.heap.size = A at hD hG ⊢
  have hA : ∀ q : Nat, s.heap.size ≤ q → A q := fun q h => by rw [← hAe]; exact Or.inr h
  have hS : va_S A s.heap s.heap [] := va_S.rf
  have C0 : cx p s m meth c [.ref h0, .int x1].toArray b_GR_told (some .int) 2 R_GR D cI cZ cJ tq A := ⟨hx, hb, hr, hml, hown, htw, hlocks, hK, hG⟩
  have hl := lv_entry ([.ref h0, .int x1]) (n := 2) (Nat.le_of_ble_eq_true rfl)
  rw [lg_entry_eq]
  generalize (lg_sl ([.ref h0, .int x1]) ++ List.replicate (2 - (lg_sl ([.ref h0, .int x1])).length) Slot.unset).toArray = ls at hl ⊢
  have hl : lv_has ls 2 [(0, .ref h0), (1, .int x1)] := hl
  have hP : va_P D classes (wd_GR_told cI cZ cJ tq h0 h_reader h_inflow h_tape h_places h_ink h_skips h_ways h_teller h_reader_samples h_reader_line h_inflow_words h_tape_entries h_places_now f_width f_height f_template f_passed f_reader_width f_reader_height f_reader_bitsRead f_reader_rowsRead f_reader_copyBefore f_reader_ended f_reader_refusal f_reader_current f_reader_currentIsCopy f_inflow_count f_inflow_next f_tape_count f_places_template t_places_first t_places_loosePlaces) s.heap := hP
  clear hAe
  unfold F_GR_told at hf
  refine lv_iload_n hx hb d_GR_told_0 rfl (lv_at hl 1 rfl) ?_
  by_cases s1_0 : x1 = 0
  · have hf := it_t hf s1_0
    refine lv_tableIn (off := 51) (tgt := 52) hx hb d_GR_told_1 (by rw [s1_0]; decide) (by rw [s1_0]; decide) (by rw [s1_0]; decide) (by decide) ?_
    refine lv_aload_n hx hb d_GR_told_52 rfl (lv_at hl 0 rfl) ?_
    refine va_get (D := D) (ci := 0) (v := .int f_width) (C := R_GR) (T := F_GR) (N := 12) hx hb htw i_GR hown hK hP 0 rfl rfl 0 (by decide) (htw _ in335) (fun _ h9 => h9) rfl d_GR_told_53 ?_
    have e0 := Option.some.inj hf
    subst e0
    exact W.iret (v := f_width) hx hb hr (fun t ht hW => ⟨⟨_, (), rfl, rfl, by rw [ht]; exact hP, va_K.moved hW.alike hK, hD⟩, hS.F ht⟩) hS.2.2 d_GR_told_56 hlocks
  have hf := it_f hf s1_0
  by_cases s1_1 : x1 = 1
  · have hf := it_t hf s1_1
    refine lv_tableIn (off := 56) (tgt := 57) hx hb d_GR_told_1 (by rw [s1_1]; decide) (by rw [s1_1]; decide) (by rw [s1_1]; decide) (by decide) ?_
    refine lv_aload_n hx hb d_GR_told_57 rfl (lv_at hl 0 rfl) ?_
    refine va_get (D := D) (ci := 0) (v := .int f_height) (C := R_GR) (T := F_GR) (N := 12) hx hb htw i_GR hown hK hP 0 rfl rfl 1 (by decide) (htw _ in336) (fun _ h9 => h9) rfl d_GR_told_58 ?_
    have e0 := Option.some.inj hf
    subst e0
    exact W.iret (v := f_height) hx hb hr (fun t ht hW => ⟨⟨_, (), rfl, rfl, by rw [ht]; exact hP, va_K.moved hW.alike hK, hD⟩, hS.F ht⟩) hS.2.2 d_GR_told_61 hlocks
  have hf := it_f hf s1_1
  by_cases s1_2 : x1 = 2
  · have hf := it_t hf s1_2
    refine lv_tableIn (off := 61) (tgt := 62) hx hb d_GR_told_1 (by rw [s1_2]; decide) (by rw [s1_2]; decide) (by rw [s1_2]; decide) (by decide) ?_
    refine lv_aload_n hx hb d_GR_told_62 rfl (lv_at hl 0 rfl) ?_
    refine va_get (D := D) (ci := 0) (v := .int f_template) (C := R_GR) (T := F_GR) (N := 12) hx hb htw i_GR hown hK hP 0 rfl rfl 2 (by decide) (htw _ in337) (fun _ h9 => h9) rfl d_GR_told_63 ?_
    have e0 := Option.some.inj hf
    subst e0
    exact W.iret (v := f_template) hx hb hr (fun t ht hW => ⟨⟨_, (), rfl, rfl, by rw [ht]; exact hP, va_K.moved hW.alike hK, hD⟩, hS.F ht⟩) hS.2.2 d_GR_told_66 hlocks
  have hf := it_f hf s1_2
  by_cases s1_3 : x1 = 3
  · have hf := it_t hf s1_3
    refine lv_tableIn (off := 66) (tgt := 67) hx hb d_GR_told_1 (by rw [s1_3]; decide) (by rw [s1_3]; decide) (by rw [s1_3]; decide) (by decide) ?_
    refine lv_aload_n hx hb d_GR_told_67 rfl (lv_at hl 0 rfl) ?_
    refine va_get (D := D) (ci := 0) (v := .ref h_places) (C := R_GR) (T := F_GR) (N := 12) hx hb htw i_GR hown hK hP 0 rfl rfl 5 (by decide) (htw _ in338) (fun _ h9 => h9) rfl d_GR_told_68 ?_
    obtain ⟨r71, e71, hf⟩ := bd1_some hf
    refine g_calli (wc := (wd_Places_looseCount cI cZ cJ tq h_places h_places_now f_places_template t_places_first t_places_loosePlaces)) (w1 := (wd_Places_looseCount cI cZ cJ tq h_places h_places_now f_places_template t_places_first t_places_loosePlaces)) (ws' := (wd_GR_told cI cZ cJ tq h0 h_reader h_inflow h_tape h_places h_ink h_skips h_ways h_teller h_reader_samples h_reader_line h_inflow_words h_tape_entries h_places_now f_width f_height f_template f_passed f_reader_width f_reader_height f_reader_bitsRead f_reader_rowsRead f_reader_copyBefore f_reader_ended f_reader_refusal f_reader_current f_reader_currentIsCopy f_inflow_count f_inflow_next f_tape_count f_places_template t_places_first t_places_loosePlaces)) (va_runV (As := []) (rest := []) ⟨hx, hb, hml, hown, htw⟩ (c_Places_looseCount l D cI cZ cJ tq h_places h_places_now _ f_places_template t_places_first t_places_loosePlaces r71 e71) (cwV 0 htw (gd_V in340 in341 in342 in31 in339) rfl rfl rfl (by decide +kernel) ⟨Nat.le_of_ble_eq_true rfl, Nat.le_of_ble_eq_true rfl⟩) (preV_of (ci := 3) (q0 := 4) hG hS (va_free (wc := (wd_Places_looseCount cI cZ cJ tq h_places h_places_now f_places_template t_places_first t_places_loosePlaces)) hD hS hA [4] rfl) hK hP rfl rfl (hP.sub (ws' := (wd_Places_looseCount cI cZ cJ tq h_places h_places_now f_places_template t_places_first t_places_loosePlaces)) [4] rfl) (hD.sub (ws' := (wd_Places_looseCount cI cZ cJ tq h_places h_places_now f_places_template t_places_first t_places_loosePlaces)) [4] (by decide) rfl)) rfl rfl hl.1 rfl (lv_room (Nat.le_of_ble_eq_true rfl)) d_GR_told_71 ⟨Nat.le_of_ble_eq_true rfl, Nat.le_of_ble_eq_true rfl⟩) hP hD hS hA [4] [0, 1, 2, 3] [0, 1, 2, 3, 4] rfl rfl (by decide) (by decide) (by decide) rfl (fun H locs hP hD hS => ?_)
    have e0 := Option.some.inj hf
    subst e0
    exact W.iret (v := r71) hx hb hr (fun t ht hW => ⟨⟨_, (), rfl, rfl, by rw [ht]; exact hP, va_K.moved hW.alike hK, hD⟩, hS.F ht⟩) hS.2.2 d_GR_told_74 hlocks
  have hf := it_f hf s1_3
  by_cases s1_4 : x1 = 4
  · have hf := it_t hf s1_4
    refine lv_tableIn (off := 74) (tgt := 75) hx hb d_GR_told_1 (by rw [s1_4]; decide) (by rw [s1_4]; decide) (by rw [s1_4]; decide) (by decide) ?_
    refine lv_aload_n hx hb d_GR_told_75 rfl (lv_at hl 0 rfl) ?_
    refine va_get (D := D) (ci := 0) (v := .ref h_tape) (C := R_GR) (T := F_GR) (N := 12) hx hb htw i_GR hown hK hP 0 rfl rfl 7 (by decide) (htw _ in308) (fun _ h9 => h9) rfl d_GR_told_76 ?_
    obtain ⟨r79, e79, hf⟩ := bd1_some hf
    refine g_calli (wc := (wd_Tape_count cI cZ cJ tq h_tape h_tape_entries f_tape_count)) (w1 := (wd_Tape_count cI cZ cJ tq h_tape h_tape_entries f_tape_count)) (ws' := (wd_GR_told cI cZ cJ tq h0 h_reader h_inflow h_tape h_places h_ink h_skips h_ways h_teller h_reader_samples h_reader_line h_inflow_words h_tape_entries h_places_now f_width f_height f_template f_passed f_reader_width f_reader_height f_reader_bitsRead f_reader_rowsRead f_reader_copyBefore f_reader_ended f_reader_refusal f_reader_current f_reader_currentIsCopy f_inflow_count f_inflow_next f_tape_count f_places_template t_places_first t_places_loosePlaces)) (va_runV (As := []) (rest := []) ⟨hx, hb, hml, hown, htw⟩ (c_Tape_count l D cI cZ cJ tq h_tape h_tape_entries _ f_tape_count r79 e79) (cwV 0 htw (gd_V in310 in311 in312 in201 in309) rfl rfl rfl (by decide +kernel) ⟨Nat.le_of_ble_eq_true rfl, Nat.le_of_ble_eq_true rfl⟩) (preV_of (ci := 6) (q0 := 3) hG hS (va_free (wc := (wd_Tape_count cI cZ cJ tq h_tape h_tape_entries f_tape_count)) hD hS hA [3] rfl) hK hP rfl rfl (hP.sub (ws' := (wd_Tape_count cI cZ cJ tq h_tape h_tape_entries f_tape_count)) [3] rfl) (hD.sub (ws' := (wd_Tape_count cI cZ cJ tq h_tape h_tape_entries f_tape_count)) [3] (by decide) rfl)) rfl rfl hl.1 rfl (lv_room (Nat.le_of_ble_eq_true rfl)) d_GR_told_79 ⟨Nat.le_of_ble_eq_true rfl, Nat.le_of_ble_eq_true rfl⟩) hP hD hS hA [3] [0, 1, 2, 4] [0, 1, 2, 4, 3] rfl rfl (by decide) (by decide) (by decide) rfl (fun H locs hP hD hS => ?_)
    have e0 := Option.some.inj hf
    subst e0
    exact W.iret (v := r79) hx hb hr (fun t ht hW => ⟨⟨_, (), rfl, rfl, by rw [ht]; exact hP, va_K.moved hW.alike hK, hD⟩, hS.F ht⟩) hS.2.2 d_GR_told_82 hlocks
  have hf := it_f hf s1_4
  by_cases s1_5 : x1 = 5
  · have hf := it_t hf s1_5
    refine lv_tableIn (off := 82) (tgt := 83) hx hb d_GR_told_1 (by rw [s1_5]; decide) (by rw [s1_5]; decide) (by rw [s1_5]; decide) (by decide) ?_
    refine lv_aload_n hx hb d_GR_told_83 rfl (lv_at hl 0 rfl) ?_
    refine va_get (D := D) (ci := 0) (v := .ref h_inflow) (C := R_GR) (T := F_GR) (N := 12) hx hb htw i_GR hown hK hP 0 rfl rfl 9 (by decide) (htw _ in322) (fun _ h9 => h9) rfl d_GR_told_84 ?_
    obtain ⟨r87, e87, hf⟩ := bd1_some hf
    refine g_calli (wc := (wd_Inflow_count cI cZ cJ tq h_inflow h_inflow_words f_inflow_count f_inflow_next)) (w1 := (wd_Inflow_count cI cZ cJ tq h_inflow h_inflow_words f_inflow_count f_inflow_next)) (ws' := (wd_GR_told cI cZ cJ tq h0 h_reader h_inflow h_tape h_places h_ink h_skips h_ways h_teller h_reader_samples h_reader_line h_inflow_words h_tape_entries h_places_now f_width f_height f_template f_passed f_reader_width f_reader_height f_reader_bitsRead f_reader_rowsRead f_reader_copyBefore f_reader_ended f_reader_refusal f_reader_current f_reader_currentIsCopy f_inflow_count f_inflow_next f_tape_count f_places_template t_places_first t_places_loosePlaces)) (va_runV (As := []) (rest := []) ⟨hx, hb, hml, hown, htw⟩ (c_Inflow_count l D cI cZ cJ tq h_inflow h_inflow_words _ f_inflow_count f_inflow_next r87 e87) (cwV 0 htw (gd_V in324 in325 in326 in69 in323) rfl rfl rfl (by decide +kernel) ⟨Nat.le_of_ble_eq_true rfl, Nat.le_of_ble_eq_true rfl⟩) (preV_of (ci := 2) (q0 := 2) hG hS (va_free (wc := (wd_Inflow_count cI cZ cJ tq h_inflow h_inflow_words f_inflow_count f_inflow_next)) hD hS hA [2] rfl) hK hP rfl rfl (hP.sub (ws' := (wd_Inflow_count cI cZ cJ tq h_inflow h_inflow_words f_inflow_count f_inflow_next)) [2] rfl) (hD.sub (ws' := (wd_Inflow_count cI cZ cJ tq h_inflow h_inflow_words f_inflow_count f_inflow_next)) [2] (by decide) rfl)) rfl rfl hl.1 rfl (lv_room (Nat.le_of_ble_eq_true rfl)) d_GR_told_87 ⟨Nat.le_of_ble_eq_true rfl, Nat.le_of_ble_eq_true rfl⟩) hP hD hS hA [2] [0, 1, 3, 4] [0, 1, 4, 2, 3] rfl rfl (by decide) (by decide) (by decide) rfl (fun H locs hP hD hS => ?_)
    have e0 := Option.some.inj hf
    subst e0
    exact W.iret (v := r87) hx hb hr (fun t ht hW => ⟨⟨_, (), rfl, rfl, by rw [ht]; exact hP, va_K.moved hW.alike hK, hD⟩, hS.F ht⟩) hS.2.2 d_GR_told_90 hlocks
  have hf := it_f hf s1_5
  by_cases s1_6 : x1 = 6
  · have hf := it_t hf s1_6
    refine lv_tableIn (off := 90) (tgt := 91) hx hb d_GR_told_1 (by rw [s1_6]; decide) (by rw [s1_6]; decide) (by rw [s1_6]; decide) (by decide) ?_
    refine lv_aload_n hx hb d_GR_told_91 rfl (lv_at hl 0 rfl) ?_
    refine va_get (D := D) (ci := 0) (v := .ref h_reader) (C := R_GR) (T := F_GR) (N := 12) hx hb htw i_GR hown hK hP 0 rfl rfl 10 (by decide) (htw _ in317) (fun _ h9 => h9) rfl d_GR_told_92 ?_
    obtain ⟨r95, e95, hf⟩ := bd1_some hf
    refine g_calli (wc := (wd_Reader_bitsRead cI cZ cJ tq h_reader h_skips h_ways h_inflow h_reader_samples h_reader_line f_reader_width f_reader_height f_reader_bitsRead f_reader_rowsRead f_reader_copyBefore f_reader_ended f_reader_refusal f_reader_current f_reader_currentIsCopy)) (w1 := (wd_Reader_bitsRead cI cZ cJ tq h_reader h_skips h_ways h_inflow h_reader_samples h_reader_line f_reader_width f_reader_height f_reader_bitsRead f_reader_rowsRead f_reader_copyBefore f_reader_ended f_reader_refusal f_reader_current f_reader_currentIsCopy)) (ws' := (wd_GR_told cI cZ cJ tq h0 h_reader h_inflow h_tape h_places h_ink h_skips h_ways h_teller h_reader_samples h_reader_line h_inflow_words h_tape_entries h_places_now f_width f_height f_template f_passed f_reader_width f_reader_height f_reader_bitsRead f_reader_rowsRead f_reader_copyBefore f_reader_ended f_reader_refusal f_reader_current f_reader_currentIsCopy f_inflow_count f_inflow_next f_tape_count f_places_template t_places_first t_places_loosePlaces)) (va_runV (As := []) (rest := []) ⟨hx, hb, hml, hown, htw⟩ (c_Reader_bitsRead l D cI cZ cJ tq h_reader h_skips h_ways h_inflow h_reader_samples h_reader_line _ f_reader_width f_reader_height f_reader_bitsRead f_reader_rowsRead f_reader_copyBefore f_reader_ended f_reader_refusal f_reader_current f_reader_currentIsCopy r95 e95) (cwV 0 htw (gd_V in344 in345 in346 in91 in343) rfl rfl rfl (by decide +kernel) ⟨Nat.le_of_ble_eq_true rfl, Nat.le_of_ble_eq_true rfl⟩) (preV_of (ci := 5) (q0 := 1) hG hS (va_free (wc := (wd_Reader_bitsRead cI cZ cJ tq h_reader h_skips h_ways h_inflow h_reader_samples h_reader_line f_reader_width f_reader_height f_reader_bitsRead f_reader_rowsRead f_reader_copyBefore f_reader_ended f_reader_refusal f_reader_current f_reader_currentIsCopy)) hD hS hA [1] rfl) hK hP rfl rfl (hP.sub (ws' := (wd_Reader_bitsRead cI cZ cJ tq h_reader h_skips h_ways h_inflow h_reader_samples h_reader_line f_reader_width f_reader_height f_reader_bitsRead f_reader_rowsRead f_reader_copyBefore f_reader_ended f_reader_refusal f_reader_current f_reader_currentIsCopy)) [1] rfl) (hD.sub (ws' := (wd_Reader_bitsRead cI cZ cJ tq h_reader h_skips h_ways h_inflow h_reader_samples h_reader_line f_reader_width f_reader_height f_reader_bitsRead f_reader_rowsRead f_reader_copyBefore f_reader_ended f_reader_refusal f_reader_current f_reader_currentIsCopy)) [1] (by decide) rfl)) rfl rfl hl.1 rfl (lv_room (Nat.le_of_ble_eq_true rfl)) d_GR_told_95 ⟨Nat.le_of_ble_eq_true rfl, Nat.le_of_ble_eq_true rfl⟩) hP hD hS hA [1] [0, 2, 3, 4] [0, 4, 1, 2, 3] rfl rfl (by decide) (by decide) (by decide) rfl (fun H locs hP hD hS => ?_)
    have e0 := Option.some.inj hf
    subst e0
    exact W.iret (v := r95) hx hb hr (fun t ht hW => ⟨⟨_, (), rfl, rfl, by rw [ht]; exact hP, va_K.moved hW.alike hK, hD⟩, hS.F ht⟩) hS.2.2 d_GR_told_98 hlocks
  have hf := it_f hf s1_6
  by_cases s1_7 : x1 = 7
  · have hf := it_t hf s1_7
    refine lv_tableIn (off := 98) (tgt := 99) hx hb d_GR_told_1 (by rw [s1_7]; decide) (by rw [s1_7]; decide) (by rw [s1_7]; decide) (by decide) ?_
    refine lv_aload_n hx hb d_GR_told_99 rfl (lv_at hl 0 rfl) ?_
    refine va_get (D := D) (ci := 0) (v := .ref h_reader) (C := R_GR) (T := F_GR) (N := 12) hx hb htw i_GR hown hK hP 0 rfl rfl 10 (by decide) (htw _ in317) (fun _ h9 => h9) rfl d_GR_told_100 ?_
    obtain ⟨r103, e103, hf⟩ := bd1_some hf
    refine g_calli (wc := (wd_Reader_rowsRead cI cZ cJ tq h_reader h_skips h_ways h_inflow h_reader_samples h_reader_line f_reader_width f_reader_height f_reader_bitsRead f_reader_rowsRead f_reader_copyBefore f_reader_ended f_reader_refusal f_reader_current f_reader_currentIsCopy)) (w1 := (wd_Reader_rowsRead cI cZ cJ tq h_reader h_skips h_ways h_inflow h_reader_samples h_reader_line f_reader_width f_reader_height f_reader_bitsRead f_reader_rowsRead f_reader_copyBefore f_reader_ended f_reader_refusal f_reader_current f_reader_currentIsCopy)) (ws' := (wd_GR_told cI cZ cJ tq h0 h_reader h_inflow h_tape h_places h_ink h_skips h_ways h_teller h_reader_samples h_reader_line h_inflow_words h_tape_entries h_places_now f_width f_height f_template f_passed f_reader_width f_reader_height f_reader_bitsRead f_reader_rowsRead f_reader_copyBefore f_reader_ended f_reader_refusal f_reader_current f_reader_currentIsCopy f_inflow_count f_inflow_next f_tape_count f_places_template t_places_first t_places_loosePlaces)) (va_runV (As := []) (rest := []) ⟨hx, hb, hml, hown, htw⟩ (c_Reader_rowsRead l D cI cZ cJ tq h_reader h_skips h_ways h_inflow h_reader_samples h_reader_line _ f_reader_width f_reader_height f_reader_bitsRead f_reader_rowsRead f_reader_copyBefore f_reader_ended f_reader_refusal f_reader_current f_reader_currentIsCopy r103 e103) (cwV 0 htw (gd_V in348 in349 in350 in91 in347) rfl rfl rfl (by decide +kernel) ⟨Nat.le_of_ble_eq_true rfl, Nat.le_of_ble_eq_true rfl⟩) (preV_of (ci := 5) (q0 := 1) hG hS (va_free (wc := (wd_Reader_rowsRead cI cZ cJ tq h_reader h_skips h_ways h_inflow h_reader_samples h_reader_line f_reader_width f_reader_height f_reader_bitsRead f_reader_rowsRead f_reader_copyBefore f_reader_ended f_reader_refusal f_reader_current f_reader_currentIsCopy)) hD hS hA [1] rfl) hK hP rfl rfl (hP.sub (ws' := (wd_Reader_rowsRead cI cZ cJ tq h_reader h_skips h_ways h_inflow h_reader_samples h_reader_line f_reader_width f_reader_height f_reader_bitsRead f_reader_rowsRead f_reader_copyBefore f_reader_ended f_reader_refusal f_reader_current f_reader_currentIsCopy)) [1] rfl) (hD.sub (ws' := (wd_Reader_rowsRead cI cZ cJ tq h_reader h_skips h_ways h_inflow h_reader_samples h_reader_line f_reader_width f_reader_height f_reader_bitsRead f_reader_rowsRead f_reader_copyBefore f_reader_ended f_reader_refusal f_reader_current f_reader_currentIsCopy)) [1] (by decide) rfl)) rfl rfl hl.1 rfl (lv_room (Nat.le_of_ble_eq_true rfl)) d_GR_told_103 ⟨Nat.le_of_ble_eq_true rfl, Nat.le_of_ble_eq_true rfl⟩) hP hD hS hA [1] [0, 2, 3, 4] [0, 4, 1, 2, 3] rfl rfl (by decide) (by decide) (by decide) rfl (fun H locs hP hD hS => ?_)
    have e0 := Option.some.inj hf
    subst e0
    exact W.iret (v := r103) hx hb hr (fun t ht hW => ⟨⟨_, (), rfl, rfl, by rw [ht]; exact hP, va_K.moved hW.alike hK, hD⟩, hS.F ht⟩) hS.2.2 d_GR_told_106 hlocks
  have hf := it_f hf s1_7
  by_cases s1_8 : x1 = 8
  · have hf := it_t hf s1_8
    refine lv_tableIn (off := 106) (tgt := 107) hx hb d_GR_told_1 (by rw [s1_8]; decide) (by rw [s1_8]; decide) (by rw [s1_8]; decide) (by decide) ?_
    refine lv_aload_n hx hb d_GR_told_107 rfl (lv_at hl 0 rfl) ?_
    refine va_get (D := D) (ci := 0) (v := .ref h_reader) (C := R_GR) (T := F_GR) (N := 12) hx hb htw i_GR hown hK hP 0 rfl rfl 10 (by decide) (htw _ in317) (fun _ h9 => h9) rfl d_GR_told_108 ?_
    obtain ⟨r111, e111, hf⟩ := bd1_some hf
    refine g_calli (wc := (wd_Reader_hasEnded cI cZ cJ tq h_reader h_skips h_ways h_inflow h_reader_samples h_reader_line f_reader_width f_reader_height f_reader_bitsRead f_reader_rowsRead f_reader_copyBefore f_reader_ended f_reader_refusal f_reader_current f_reader_currentIsCopy)) (w1 := (wd_Reader_hasEnded cI cZ cJ tq h_reader h_skips h_ways h_inflow h_reader_samples h_reader_line f_reader_width f_reader_height f_reader_bitsRead f_reader_rowsRead f_reader_copyBefore f_reader_ended f_reader_refusal f_reader_current f_reader_currentIsCopy)) (ws' := (wd_GR_told cI cZ cJ tq h0 h_reader h_inflow h_tape h_places h_ink h_skips h_ways h_teller h_reader_samples h_reader_line h_inflow_words h_tape_entries h_places_now f_width f_height f_template f_passed f_reader_width f_reader_height f_reader_bitsRead f_reader_rowsRead f_reader_copyBefore f_reader_ended f_reader_refusal f_reader_current f_reader_currentIsCopy f_inflow_count f_inflow_next f_tape_count f_places_template t_places_first t_places_loosePlaces)) (va_runV (As := []) (rest := []) ⟨hx, hb, hml, hown, htw⟩ (c_Reader_hasEnded l D cI cZ cJ tq h_reader h_skips h_ways h_inflow h_reader_samples h_reader_line _ f_reader_width f_reader_height f_reader_bitsRead f_reader_rowsRead f_reader_copyBefore f_reader_ended f_reader_refusal f_reader_current f_reader_currentIsCopy r111 e111) (cwV 0 htw (gd_V in352 in353 in354 in91 in351) rfl rfl rfl (by decide +kernel) ⟨Nat.le_of_ble_eq_true rfl, Nat.le_of_ble_eq_true rfl⟩) (preV_of (ci := 5) (q0 := 1) hG hS (va_free (wc := (wd_Reader_hasEnded cI cZ cJ tq h_reader h_skips h_ways h_inflow h_reader_samples h_reader_line f_reader_width f_reader_height f_reader_bitsRead f_reader_rowsRead f_reader_copyBefore f_reader_ended f_reader_refusal f_reader_current f_reader_currentIsCopy)) hD hS hA [1] rfl) hK hP rfl rfl (hP.sub (ws' := (wd_Reader_hasEnded cI cZ cJ tq h_reader h_skips h_ways h_inflow h_reader_samples h_reader_line f_reader_width f_reader_height f_reader_bitsRead f_reader_rowsRead f_reader_copyBefore f_reader_ended f_reader_refusal f_reader_current f_reader_currentIsCopy)) [1] rfl) (hD.sub (ws' := (wd_Reader_hasEnded cI cZ cJ tq h_reader h_skips h_ways h_inflow h_reader_samples h_reader_line f_reader_width f_reader_height f_reader_bitsRead f_reader_rowsRead f_reader_copyBefore f_reader_ended f_reader_refusal f_reader_current f_reader_currentIsCopy)) [1] (by decide) rfl)) rfl rfl hl.1 rfl (lv_room (Nat.le_of_ble_eq_true rfl)) d_GR_told_111 ⟨Nat.le_of_ble_eq_true rfl, Nat.le_of_ble_eq_true rfl⟩) hP hD hS hA [1] [0, 2, 3, 4] [0, 4, 1, 2, 3] rfl rfl (by decide) (by decide) (by decide) rfl (fun H locs hP hD hS => ?_)
    refine lv_if_eq (tgt := 121) hx hb d_GR_told_114 (by decide) (fun c114 => ?_) (fun c114 => ?_)
    · have hf := it_t hf c114
      refine lv_iconst (v := 0) hx hb d_GR_told_121 (by decide) ?_
      have e0 := Option.some.inj hf
      subst e0
      exact W.iret (v := 0) hx hb hr (fun t ht hW => ⟨⟨_, (), rfl, rfl, by rw [ht]; exact hP, va_K.moved hW.alike hK, hD⟩, hS.F ht⟩) hS.2.2 d_GR_told_122 hlocks
    · have hf := it_f hf c114
      refine lv_iconst (v := 1) hx hb d_GR_told_117 (by decide) ?_
      refine lv_goto (tgt := 122) hx hb d_GR_told_118 (by decide) ?_
      have e0 := Option.some.inj hf
      subst e0
      exact W.iret (v := 1) hx hb hr (fun t ht hW => ⟨⟨_, (), rfl, rfl, by rw [ht]; exact hP, va_K.moved hW.alike hK, hD⟩, hS.F ht⟩) hS.2.2 d_GR_told_122 hlocks
  have hf := it_f hf s1_8
  refine lv_tableOut (tgt := 123) hx hb d_GR_told_1 (by have q0 := sw_ne s1_0; have q1 := sw_ne s1_1; have q2 := sw_ne s1_2; have q3 := sw_ne s1_3; have q4 := sw_ne s1_4; have q5 := sw_ne s1_5; have q6 := sw_ne s1_6; have q7 := sw_ne s1_7; have q8 := sw_ne s1_8; have p0 : (0 : Int32).toInt = 0 := rfl; have p1 : (1 : Int32).toInt = 1 := rfl; have p2 : (2 : Int32).toInt = 2 := rfl; have p3 : (3 : Int32).toInt = 3 := rfl; have p4 : (4 : Int32).toInt = 4 := rfl; have p5 : (5 : Int32).toInt = 5 := rfl; have p6 : (6 : Int32).toInt = 6 := rfl; have p7 : (7 : Int32).toInt = 7 := rfl; have p8 : (8 : Int32).toInt = 8 := rfl; omega) (by decide) ?_
  refine lv_iconst (v := (-1)) hx hb d_GR_told_123 (by decide) ?_
  have e0 := Option.some.inj hf
  subst e0
  exact W.iret (v := (-1)) hx hb hr (fun t ht hW => ⟨⟨_, (), rfl, rfl, by rw [ht]; exact hP, va_K.moved hW.alike hK, hD⟩, hS.F ht⟩) hS.2.2 d_GR_told_124 hlocks
