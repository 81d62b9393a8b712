-- Plane_has
abbrev RM_Plane_has : Room := { frames := 1, cells := 0, slots := 0, locals := 21 }
def ws_Plane_has : List Cond := .code y_Plane_has b_Plane_has 3 (some .boolean) :: W_all
def wd_Plane_has (cI cZ cJ : ClassId) (tq : Nat → Nat) (h0 : Nat) (h_rows : Nat) (f_width : Int32) (n_rows : Nat) (g_rows : Nat → Int32) : va_W := [(h0, .inr (4, [.int f_width, .ref h_rows])), (h_rows, .inl (cI, n_rows, .inl g_rows))]
def F_Plane_has (x1 : Int32) (x2 : Int32) (f_width : Int32) (n_rows : Nat) (g_rows : Nat → Int32) : Option (Int32) :=
  (if x1 < 0 then (some 0) else (if f_width ≤ x1 then (some 0) else (bd1 (F_Plane_mask x2 n_rows g_rows) (fun r14 => (if ((ushr r14 x1) &&& (1 : Int32)) = 0 then (some 0) else (some 1))))))
set_option maxHeartbeats 4000000 in
set_option maxRecDepth 100000 in
theorem c_Plane_has (l : Launch) (D : va_G) (cI cZ cJ : ClassId) (tq : Nat → Nat) (h0 : Nat) (h_rows : Nat) (sz : Nat) (f_width : Int32) (n_rows : Nat) (g_rows : Nat → Int32) (x1 : Int32) (x2 : Int32) (o_r : Int32) (hf : F_Plane_has x1 x2 f_width n_rows g_rows = some o_r) : Met l y_Plane_has ws_Plane_has RM_Plane_has (va_Pc [.ref h0, .int x1, .int x2] (Pg D cI cZ cJ tq (wd_Plane_has cI cZ cJ tq h0 h_rows f_width n_rows g_rows) sz)) (qI D cI cZ cJ (va_A (wd_Plane_has cI cZ cJ tq h0 h_rows f_width n_rows g_rows) sz) o_r (wd_Plane_has cI cZ cJ tq h0 h_rows f_width n_rows g_rows)) 0 0 (va_A (wd_Plane_has cI cZ cJ tq h0 h_rows f_width n_rows g_rows) sz) := by
  refine Met.ofW (cc := b_Plane_has) (maxL := 3) (ret := (some .boolean)) (by decide) rfl ?_
  intro p e s m args below meth c s₁ B hml hv
  obtain ⟨rfl, hsz, hP, hK, hD0, hG⟩ := hv
  have hx := B.exec
  have hb := B.bytes
  have hr := B.returns
  have htw : ∀ w ∈ W_all, w.before [.ref h0, .int x1, .int x2].toArray s = true := fun w h => atoms_spec (ws := ws_Plane_has) B.pre w (List.mem_cons_of_mem _ h)
  have hown : s.vm.findClass R_Plane = some m.cls := findClass_of_methodNamed B.named
  have hlocks := B.notSynchronized
  subst hsz
  have hD := hD0.self (sz := s.heap.size)
  generalize hAe : va_A (wd_Plane_has cI cZ cJ tq h0 h_rows f_width n_rows g_rows) s.heap.size = A at hD hG ⊢
  have hA : ∀ q : Nat, s.heap.size ≤ q → A q := fun q h => by rw [← hAe]; exact Or.inr h
  have hS : va_S A s.heap s.heap [] := va_S.rf
  have C0 : cx p s m meth c [.ref h0, .int x1, .int x2].toArray b_Plane_has (some .boolean) 3 R_Plane D cI cZ cJ tq A := ⟨hx, hb, hr, hml, hown, htw, hlocks, hK, hG⟩
  have hl := lv_entry ([.ref h0, .int x1, .int x2]) (n := 3) (Nat.le_of_ble_eq_true rfl)
  rw [lg_entry_eq]
  generalize (lg_sl ([.ref h0, .int x1, .int x2]) ++ List.replicate (3 - (lg_sl ([.ref h0, .int x1, .int x2])).length) Slot.unset).toArray = ls at hl ⊢
  have hl : lv_has ls 3 [(0, .ref h0), (1, .int x1), (2, .int x2)] := hl
  have hP : va_P D classes (wd_Plane_has cI cZ cJ tq h0 h_rows f_width n_rows g_rows) s.heap := hP
  clear hAe
  unfold F_Plane_has at hf
  refine lv_iload_n hx hb d_Plane_has_0 rfl (lv_at hl 1 rfl) ?_
  refine lv_if_lt (tgt := 28) hx hb d_Plane_has_1 (by decide) (fun c1 => ?_) (fun c1 => ?_)
  · have hf := it_t hf c1
    refine lv_iconst (v := 0) hx hb d_Plane_has_28 (by decide) ?_
    have e0 := Option.some.inj hf
    subst e0
    exact W.zret (v := 0) hx hb hr rfl (fun t ht hW => ⟨⟨_, (), rfl, rfl, by rw [ht]; exact hP, va_K.moved hW.alike hK, hD⟩, hS.F ht⟩) hS.2.2 d_Plane_has_29 hlocks
  · have hf := it_f hf c1
    refine lv_iload_n hx hb d_Plane_has_4 rfl (lv_at hl 1 rfl) ?_
    refine lv_aload_n hx hb d_Plane_has_5 rfl (lv_at hl 0 rfl) ?_
    refine va_get (D := D) (ci := 4) (v := .int f_width) (C := R_Plane) (T := F_Plane) (N := 2) hx hb htw i_Plane hown hK hP 0 rfl rfl 0 (by decide) (htw _ in48) (fun _ h9 => h9) rfl d_Plane_has_6 ?_
    refine lv_icmp_ge (tgt := 28) hx hb d_Plane_has_9 (by decide) (fun c9 => ?_) (fun c9 => ?_)
    · have hf := it_t hf c9
      refine lv_iconst (v := 0) hx hb d_Plane_has_28 (by decide) ?_
      have e0 := Option.some.inj hf
      subst e0
      exact W.zret (v := 0) hx hb hr rfl (fun t ht hW => ⟨⟨_, (), rfl, rfl, by rw [ht]; exact hP, va_K.moved hW.alike hK, hD⟩, hS.F ht⟩) hS.2.2 d_Plane_has_29 hlocks
    · have hf := it_f hf c9
      refine lv_aload_n hx hb d_Plane_has_12 rfl (lv_at hl 0 rfl) ?_
      refine lv_iload_n hx hb d_Plane_has_13 rfl (lv_at hl 2 rfl) ?_
      obtain ⟨r14, e14, hf⟩ := bd1_some hf
      refine g_calli (wc := (wd_Plane_mask cI cZ cJ tq h0 h_rows f_width n_rows g_rows)) (w1 := (wd_Plane_mask cI cZ cJ tq h0 h_rows f_width n_rows g_rows)) (ws' := (wd_Plane_has cI cZ cJ tq h0 h_rows f_width n_rows g_rows)) (va_runV (As := [.int x2]) (rest := []) ⟨hx, hb, hml, hown, htw⟩ (c_Plane_mask l D cI cZ cJ tq h0 h_rows _ f_width n_rows g_rows x2 r14 e14) (cwV 1 htw (gd_V in50 in51 in52 in53 in49) rfl rfl rfl (by decide +kernel) ⟨Nat.le_of_ble_eq_true rfl, Nat.le_of_ble_eq_true rfl⟩) (preV_of (ci := 4) (q0 := 0) hG hS (va_free (wc := (wd_Plane_mask cI cZ cJ tq h0 h_rows f_width n_rows g_rows)) hD hS hA [0, 1] rfl) hK hP rfl rfl (hP.sub (ws' := (wd_Plane_mask cI cZ cJ tq h0 h_rows f_width n_rows g_rows)) [0, 1] rfl) (hD.sub (ws' := (wd_Plane_mask cI cZ cJ tq h0 h_rows f_width n_rows g_rows)) [0, 1] (by decide) rfl)) rfl rfl hl.1 rfl (lv_room (Nat.le_of_ble_eq_true rfl)) d_Plane_has_14 ⟨Nat.le_of_ble_eq_true rfl, Nat.le_of_ble_eq_true rfl⟩) hP hD hS hA [0, 1] [] [0, 1] rfl rfl (by decide) (by decide) (by decide) rfl (fun H locs hP hD hS => ?_)
      refine lv_iload_n hx hb d_Plane_has_17 rfl (lv_at hl 1 rfl) ?_
      refine lv_iushr (v := (ushr r14 x1)) hx hb d_Plane_has_18 rfl ?_
      refine lv_iconst (v := 1) hx hb d_Plane_has_19 (by decide) ?_
      refine lv_iand hx hb d_Plane_has_20 ?_
      refine lv_if_eq (tgt := 28) hx hb d_Plane_has_21 (by decide) (fun c21 => ?_) (fun c21 => ?_)
      · have hf := it_t hf c21
        refine lv_iconst (v := 0) hx hb d_Plane_has_28 (by decide) ?_
        have e0 := Option.some.inj hf
        subst e0
        exact W.zret (v := 0) hx hb hr rfl (fun t ht hW => ⟨⟨_, (), rfl, rfl, by rw [ht]; exact hP, va_K.moved hW.alike hK, hD⟩, hS.F ht⟩) hS.2.2 d_Plane_has_29 hlocks
      · have hf := it_f hf c21
        refine lv_iconst (v := 1) hx hb d_Plane_has_24 (by decide) ?_
        refine lv_goto (tgt := 29) hx hb d_Plane_has_25 (by decide) ?_
        have e0 := Option.some.inj hf
        subst e0
        exact W.zret (v := 1) hx hb hr rfl (fun t ht hW => ⟨⟨_, (), rfl, rfl, by rw [ht]; exact hP, va_K.moved hW.alike hK, hD⟩, hS.F ht⟩) hS.2.2 d_Plane_has_29 hlocks
-- Places_contextIn
abbrev RM_Places_contextIn : Room := { frames := 2, cells := 0, slots := 0, locals := 43 }
def ws_Places_contextIn : List Cond := .code y_Places_contextIn b_Places_contextIn 6 (some .int) :: W_all
def wd_Places_contextIn (cI cZ cJ : ClassId) (tq : Nat → Nat) (h0 : Nat) (h_now : Nat) (h_a0 : Nat) (h_a0_rows : Nat) (f_template : Int32) (t_first : Nat) (t_loosePlaces : Nat) (n_now : Nat) (g_now : Nat → Int32) (f_a0_width : Int32) (n_a0_rows : Nat) (g_a0_rows : Nat → Int32) : va_W := [(h0, .inr (3, [.int f_template, .ref (tq t_first), .ref h_now, .ref (tq t_loosePlaces)])), (h_now, .inl (cI, n_now, .inl g_now)), (h_a0, .inr (4, [.int f_a0_width, .ref h_a0_rows])), (h_a0_rows, .inl (cI, n_a0_rows, .inl g_a0_rows))]
def F_Places_contextIn_56 (k : Nat) (K6 : Int32 → Int32 → Int32 → Int32 → Option (Int32)) (n_now : Nat) (g_now : Nat → Int32) (f_a0_width : Int32) (n_a0_rows : Nat) (g_a0_rows : Nat → Int32) (x2 : Int32) (x3 : Int32) (x4 : Int32) (x5 : Int32) : Option (Int32) :=
  (K6 x2 x3 x4 (x5 + 2))
def F_Places_contextIn_6 (k : Nat) (n_now : Nat) (g_now : Nat → Int32) (f_a0_width : Int32) (n_a0_rows : Nat) (g_a0_rows : Nat → Int32) : Nat → Int32 → Int32 → Int32 → Int32 → Option (Int32)
  | 0, _, _, _, _ => none
  | n + 1, x2, x3, x4, x5 =>
    (if (nI n_now) ≤ (x5 + (1 : Int32)) then (some x4) else (if x5 < 0 ∨ n_now ≤ x5.toNatClampNeg then none else (if (x5 + (1 : Int32)) < 0 ∨ n_now ≤ (x5 + (1 : Int32)).toNatClampNeg then none else (bd1 (F_Plane_has (x2 + (g_now x5.toNatClampNeg)) (x3 + (g_now (x5 + (1 : Int32)).toNatClampNeg)) f_a0_width n_a0_rows g_a0_rows) (fun r39 => (if r39 = 0 then (F_Places_contextIn_56 k (F_Places_contextIn_6 k n_now g_now f_a0_width n_a0_rows g_a0_rows n) n_now g_now f_a0_width n_a0_rows g_a0_rows x2 x3 x4 x5) else (F_Places_contextIn_56 k (F_Places_contextIn_6 k n_now g_now f_a0_width n_a0_rows g_a0_rows n) n_now g_now f_a0_width n_a0_rows g_a0_rows x2 x3 (x4 ||| ((1 : Int32) <<< ((x5 >>> ((1 : Int32) &&& 31)) &&& 31))) x5)))))))
def F_Places_contextIn (k : Nat) (x2 : Int32) (x3 : Int32) (n_now : Nat) (g_now : Nat → Int32) (f_a0_width : Int32) (n_a0_rows : Nat) (g_a0_rows : Nat → Int32) : Option (Int32) :=
  (F_Places_contextIn_6 k n_now g_now f_a0_width n_a0_rows g_a0_rows k x2 x3 0 0)
set_option maxHeartbeats 4000000 in
set_option maxRecDepth 100000 in
theorem w_Places_contextIn_56 {p : Program} {l : Launch} {e : Env} {s : State} {m : MethodId} {args : Array Value} {below : List Frame} {meth : Method} {c : Code} {D : va_G} {cI cZ cJ : ClassId} {tq : Nat → Nat} {A : Nat → Prop} (k : Nat) (h0 : Nat) (h_now : Nat) (h_a0 : Nat) (h_a0_rows : Nat) (f_template : Int32) (t_first : Nat) (t_loosePlaces : Nat) (n_now : Nat) (g_now : Nat → Int32) (f_a0_width : Int32) (n_a0_rows : Nat) (g_a0_rows : Nat → Int32) (o_r : Int32) (C0 : cx p s m meth c args b_Places_contextIn (some .int) 6 R_Places D cI cZ cJ tq A) (hA : ∀ q : Nat, s.heap.size ≤ q → A q) (K6 : Int32 → Int32 → Int32 → Int32 → Option (Int32)) (hK6 : ∀ (x2 : Int32) (x3 : Int32) (x4 : Int32) (x5 : Int32) (H : Heap) (locs : List Loc) (ls : Array Slot), va_P D classes (wd_Places_contextIn cI cZ cJ tq h0 h_now h_a0 h_a0_rows f_template t_first t_loosePlaces n_now g_now f_a0_width n_a0_rows g_a0_rows) H → va_D A (wd_Places_contextIn cI cZ cJ tq h0 h_now h_a0 h_a0_rows f_template t_first t_loosePlaces n_now g_now f_a0_width n_a0_rows g_a0_rows) → va_S A s.heap H locs → lv_has ls 6 [(0, .ref h0), (1, .ref h_a0), (2, .int x2), (3, .int x3), (4, .int x4), (5, .int x5)] → K6 x2 x3 x4 x5 = some o_r → W p l e RM_Places_contextIn s m args below meth c H locs 0 0 (MQ below (qI D cI cZ cJ A o_r (wd_Places_contextIn cI cZ cJ tq h0 h_now h_a0 h_a0_rows f_template t_first t_loosePlaces n_now g_now f_a0_width n_a0_rows g_a0_rows)) args s 0 0 A) (F0 m 6 ls [])) : ∀ (x2 : Int32) (x3 : Int32) (x4 : Int32) (x5 : Int32) (H : Heap) (locs : List Loc) (ls : Array Slot), va_P D classes (wd_Places_contextIn cI cZ cJ tq h0 h_now h_a0 h_a0_rows f_template t_first t_loosePlaces n_now g_now f_a0_width n_a0_rows g_a0_rows) H → va_D A (wd_Places_contextIn cI cZ cJ tq h0 h_now h_a0 h_a0_rows f_template t_first t_loosePlaces n_now g_now f_a0_width n_a0_rows g_a0_rows) → va_S A s.heap H locs → lv_has ls 6 [(0, .ref h0), (1, .ref h_a0), (2, .int x2), (3, .int x3), (4, .int x4), (5, .int x5)] → F_Places_contextIn_56 k K6 n_now g_now f_a0_width n_a0_rows g_a0_rows x2 x3 x4 x5 = some o_r → W p l e RM_Places_contextIn s m args below meth c H locs 0 0 (MQ below (qI D cI cZ cJ A o_r (wd_Places_contextIn cI cZ cJ tq h0 h_now h_a0 h_a0_rows f_template t_first t_loosePlaces n_now g_now f_a0_width n_a0_rows g_a0_rows)) args s 0 0 A) (F0 m 56 ls []) := by
  obtain ⟨hx, hb, hr, hml, hown, htw, hlocks, hK, hG⟩ := id C0
  intro x2 x3 x4 x5 H locs ls hP hD hS hl hf
  unfold F_Places_contextIn_56 at hf
  refine lv_iinc (v := (x5 + 2)) (lv' := [(5, .int (x5 + 2)), (0, .ref h0), (1, .ref h_a0), (2, .int x2), (3, .int x3), (4, .int x4)]) hx hb d_Places_contextIn_56 hl (k := 5) rfl rfl (by decide) rfl (fun ls hl => ?_)
  refine lv_goto (tgt := 6) hx hb d_Places_contextIn_59 (by decide) ?_
  exact hK6 x2 x3 x4 (x5 + 2) _ _ ls hP hD hS (lv_sub hl [1, 2, 3, 4, 5, 0] rfl) hf
set_option maxHeartbeats 4000000 in
set_option maxRecDepth 100000 in
theorem w_Places_contextIn_6 {p : Program} {l : Launch} {e : Env} {s : State} {m : MethodId} {args : Array Value} {below : List Frame} {meth : Method} {c : Code} {D : va_G} {cI cZ cJ : ClassId} {tq : Nat → Nat} {A : Nat → Prop} (k : Nat) (h0 : Nat) (h_now : Nat) (h_a0 : Nat) (h_a0_rows : Nat) (f_template : Int32) (t_first : Nat) (t_loosePlaces : Nat) (n_now : Nat) (g_now : Nat → Int32) (f_a0_width : Int32) (n_a0_rows : Nat) (g_a0_rows : Nat → Int32) (o_r : Int32) (C0 : cx p s m meth c args b_Places_contextIn (some .int) 6 R_Places D cI cZ cJ tq A) (hA : ∀ q : Nat, s.heap.size ≤ q → A q) : ∀ n : Nat, ∀ (x2 : Int32) (x3 : Int32) (x4 : Int32) (x5 : Int32) (H : Heap) (locs : List Loc) (ls : Array Slot), va_P D classes (wd_Places_contextIn cI cZ cJ tq h0 h_now h_a0 h_a0_rows f_template t_first t_loosePlaces n_now g_now f_a0_width n_a0_rows g_a0_rows) H → va_D A (wd_Places_contextIn cI cZ cJ tq h0 h_now h_a0 h_a0_rows f_template t_first t_loosePlaces n_now g_now f_a0_width n_a0_rows g_a0_rows) → va_S A s.heap H locs → lv_has ls 6 [(0, .ref h0), (1, .ref h_a0), (2, .int x2), (3, .int x3), (4, .int x4), (5, .int x5)] → F_Places_contextIn_6 k n_now g_now f_a0_width n_a0_rows g_a0_rows n x2 x3 x4 x5 = some o_r → W p l e RM_Places_contextIn s m args below meth c H locs 0 0 (MQ below (qI D cI cZ cJ A o_r (wd_Places_contextIn cI cZ cJ tq h0 h_now h_a0 h_a0_rows f_template t_first t_loosePlaces n_now g_now f_a0_width n_a0_rows g_a0_rows)) args s 0 0 A) (F0 m 6 ls []) := by
  obtain ⟨hx, hb, hr, hml, hown, htw, hlocks, hK, hG⟩ := id C0
  intro n
  induction n with
  | zero =>
    intro x2 x3 x4 x5 H locs ls hP hD hS hl hf
    exact no_some hf
  | succ n ih =>
    intro x2 x3 x4 x5 H locs ls hP hD hS hl hf
    rw [F_Places_contextIn_6] at hf
    refine lv_iload hx hb d_Places_contextIn_6 (lv_at hl 5 rfl) ?_
    refine lv_iconst (v := 1) hx hb d_Places_contextIn_8 (by decide) ?_
    refine lv_iadd hx hb d_Places_contextIn_9 ?_
    refine lv_aload_n hx hb d_Places_contextIn_10 rfl (lv_at hl 0 rfl) ?_
    refine va_get (D := D) (ci := 3) (v := .ref h_now) (C := R_Places) (T := F_Places) (N := 4) hx hb htw i_Places hown hK hP 0 rfl rfl 2 (by decide) (htw _ in41) (fun _ h9 => h9) rfl d_Places_contextIn_11 ?_
    refine va_alen (v := nI n_now) hx hb hK hP 1 0 rfl rfl rfl d_Places_contextIn_14 ?_
    refine lv_icmp_ge (tgt := 62) hx hb d_Places_contextIn_15 (by decide) (fun c15 => ?_) (fun c15 => ?_)
    · have hf := it_t hf c15
      refine lv_iload hx hb d_Places_contextIn_62 (lv_at hl 4 rfl) ?_
      have e0 := Option.some.inj hf
      subst e0
      exact W.iret (v := x4) hx hb hr (fun t ht hW => ⟨⟨_, (), rfl, rfl, by rw [ht]; exact hP, va_K.moved hW.alike hK, hD⟩, hS.F ht⟩) hS.2.2 d_Places_contextIn_64 hlocks
    · have hf := it_f hf c15
      refine lv_aload_n hx hb d_Places_contextIn_18 rfl (lv_at hl 1 rfl) ?_
      refine lv_iload_n hx hb d_Places_contextIn_19 rfl (lv_at hl 2 rfl) ?_
      refine lv_aload_n hx hb d_Places_contextIn_20 rfl (lv_at hl 0 rfl) ?_
      refine va_get (D := D) (ci := 3) (v := .ref h_now) (C := R_Places) (T := F_Places) (N := 4) hx hb htw i_Places hown hK hP 0 rfl rfl 2 (by decide) (htw _ in41) (fun _ h9 => h9) rfl d_Places_contextIn_21 ?_
      refine lv_iload hx hb d_Places_contextIn_24 (lv_at hl 5 rfl) ?_
      by_cases g26 : x5 < 0 ∨ n_now ≤ x5.toNatClampNeg
      · exact no_some (it_t hf g26)
      have hf := it_f hf g26
      refine va_iald hx hb hK hP 1 0 rfl rfl g26 d_Places_contextIn_26 ?_
      refine lv_iadd hx hb d_Places_contextIn_27 ?_
      refine lv_iload_n hx hb d_Places_contextIn_28 rfl (lv_at hl 3 rfl) ?_
      refine lv_aload_n hx hb d_Places_contextIn_29 rfl (lv_at hl 0 rfl) ?_
      refine va_get (D := D) (ci := 3) (v := .ref h_now) (C := R_Places) (T := F_Places) (N := 4) hx hb htw i_Places hown hK hP 0 rfl rfl 2 (by decide) (htw _ in41) (fun _ h9 => h9) rfl d_Places_contextIn_30 ?_
      refine lv_iload hx hb d_Places_contextIn_33 (lv_at hl 5 rfl) ?_
      refine lv_iconst (v := 1) hx hb d_Places_contextIn_35 (by decide) ?_
      refine lv_iadd hx hb d_Places_contextIn_36 ?_
      by_cases g37 : (x5 + (1 : Int32)) < 0 ∨ n_now ≤ (x5 + (1 : Int32)).toNatClampNeg
      · exact no_some (it_t hf g37)
      have hf := it_f hf g37
      refine va_iald hx hb hK hP 1 0 rfl rfl g37 d_Places_contextIn_37 ?_
      refine lv_iadd hx hb d_Places_contextIn_38 ?_
      obtain ⟨r39, e39, hf⟩ := bd1_some hf
      refine g_calli (wc := (wd_Plane_has cI cZ cJ tq h_a0 h_a0_rows f_a0_width n_a0_rows g_a0_rows)) (w1 := (wd_Plane_has cI cZ cJ tq h_a0 h_a0_rows f_a0_width n_a0_rows g_a0_rows)) (ws' := (wd_Places_contextIn cI cZ cJ tq h0 h_now h_a0 h_a0_rows f_template t_first t_loosePlaces n_now g_now f_a0_width n_a0_rows g_a0_rows)) (va_runV (As := [.int (x2 + (g_now x5.toNatClampNeg)), .int (x3 + (g_now (x5 + (1 : Int32)).toNatClampNeg))]) (rest := []) ⟨hx, hb, hml, hown, htw⟩ (c_Plane_has l D cI cZ cJ tq h_a0 h_a0_rows _ f_a0_width n_a0_rows g_a0_rows (x2 + (g_now x5.toNatClampNeg)) (x3 + (g_now (x5 + (1 : Int32)).toNatClampNeg)) r39 e39) (cwV 2 htw (gd_V in55 in56 in57 in53 in54) rfl rfl rfl (by decide +kernel) ⟨Nat.le_of_ble_eq_true rfl, Nat.le_of_ble_eq_true rfl⟩) (preV_of (ci := 4) (q0 := 2) hG hS (va_free (wc := (wd_Plane_has cI cZ cJ tq h_a0 h_a0_rows f_a0_width n_a0_rows g_a0_rows)) hD hS hA [2, 3] rfl) hK hP rfl rfl (hP.sub (ws' := (wd_Plane_has cI cZ cJ tq h_a0 h_a0_rows f_a0_width n_a0_rows g_a0_rows)) [2, 3] rfl) (hD.sub (ws' := (wd_Plane_has cI cZ cJ tq h_a0 h_a0_rows f_a0_width n_a0_rows g_a0_rows)) [2, 3] (by decide) rfl)) rfl rfl hl.1 rfl (lv_room (Nat.le_of_ble_eq_true rfl)) d_Places_contextIn_39 ⟨Nat.le_of_ble_eq_true rfl, Nat.le_of_ble_eq_true rfl⟩) hP hD hS hA [2, 3] [0, 1] [0, 1, 2, 3] rfl rfl (by decide) (by decide) (by decide) rfl (fun H locs hP hD hS => ?_)
      refine lv_if_eq (tgt := 56) hx hb d_Places_contextIn_42 (by decide) (fun c42 => ?_) (fun c42 => ?_)
      · have hf := it_t hf c42
        exact w_Places_contextIn_56 k h0 h_now h_a0 h_a0_rows f_template t_first t_loosePlaces n_now g_now f_a0_width n_a0_rows g_a0_rows o_r C0 hA (F_Places_contextIn_6 k n_now g_now f_a0_width n_a0_rows g_a0_rows n) ih x2 x3 x4 x5 _ _ ls hP hD hS (lv_sub hl [0, 1, 2, 3, 4, 5] rfl) hf
      · have hf := it_f hf c42
        refine lv_iload hx hb d_Places_contextIn_45 (lv_at hl 4 rfl) ?_
        refine lv_iconst (v := 1) hx hb d_Places_contextIn_47 (by decide) ?_
        refine lv_iload hx hb d_Places_contextIn_48 (lv_at hl 5 rfl) ?_
        refine lv_iconst (v := 1) hx hb d_Places_contextIn_50 (by decide) ?_
        refine lv_ishr hx hb d_Places_contextIn_51 ?_
        refine lv_ishl hx hb d_Places_contextIn_52 ?_
        refine lv_ior hx hb d_Places_contextIn_53 ?_
        refine lv_istore (lv' := [(4, .int (x4 ||| ((1 : Int32) <<< ((x5 >>> ((1 : Int32) &&& 31)) &&& 31)))), (0, .ref h0), (1, .ref h_a0), (2, .int x2), (3, .int x3), (5, .int x5)]) hx hb d_Places_contextIn_54 hl (by decide) rfl (fun ls hl => ?_)
        exact w_Places_contextIn_56 k h0 h_now h_a0 h_a0_rows f_template t_first t_loosePlaces n_now g_now f_a0_width n_a0_rows g_a0_rows o_r C0 hA (F_Places_contextIn_6 k n_now g_now f_a0_width n_a0_rows g_a0_rows n) ih x2 x3 (x4 ||| ((1 : Int32) <<< ((x5 >>> ((1 : Int32) &&& 31)) &&& 31))) x5 _ _ ls hP hD hS (lv_sub hl [1, 2, 3, 4, 0, 5] rfl) hf
set_option maxHeartbeats 4000000 in
set_option maxRecDepth 100000 in
theorem c_Places_contextIn (l : Launch) (D : va_G) (cI cZ cJ : ClassId) (tq : Nat → Nat) (k : Nat) (h0 : Nat) (h_now : Nat) (h_a0 : Nat) (h_a0_rows : Nat) (sz : Nat) (f_template : Int32) (t_first : Nat) (t_loosePlaces : Nat) (n_now : Nat) (g_now : Nat → Int32) (f_a0_width : Int32) (n_a0_rows : Nat) (g_a0_rows : Nat → Int32) (x2 : Int32) (x3 : Int32) (o_r : Int32) (hf : F_Places_contextIn k x2 x3 n_now g_now f_a0_width n_a0_rows g_a0_rows = some o_r) : Met l y_Places_contextIn ws_Places_contextIn RM_Places_contextIn (va_Pc [.ref h0, .ref h_a0, .int x2, .int x3] (Pg D cI cZ cJ tq (wd_Places_contextIn cI cZ cJ tq h0 h_now h_a0 h_a0_rows f_template t_first t_loosePlaces n_now g_now f_a0_width n_a0_rows g_a0_rows) sz)) (qI D cI cZ cJ (va_A (wd_Places_contextIn cI cZ cJ tq h0 h_now h_a0 h_a0_rows f_template t_first t_loosePlaces n_now g_now f_a0_width n_a0_rows g_a0_rows) sz) o_r (wd_Places_contextIn cI cZ cJ tq h0 h_now h_a0 h_a0_rows f_template t_first t_loosePlaces n_now g_now f_a0_width n_a0_rows g_a0_rows)) 0 0 (va_A (wd_Places_contextIn cI cZ cJ tq h0 h_now h_a0 h_a0_rows f_template t_first t_loosePlaces n_now g_now f_a0_width n_a0_rows g_a0_rows) sz) := by
  refine Met.ofW (cc := b_Places_contextIn) (maxL := 6) (ret := (some .int)) (by decide) rfl ?_
  intro p e s m args below meth c s₁ B hml hv
  obtain ⟨rfl, hsz, hP, hK, hD0, hG⟩ := hv
  have hx := B.exec
  have hb := B.bytes
  have hr := B.returns
  have htw : ∀ w ∈ W_all, w.before [.ref h0, .ref h_a0, .int x2, .int x3].toArray s = true := fun w h => atoms_spec (ws := ws_Places_contextIn) B.pre w (List.mem_cons_of_mem _ h)
  have hown : s.vm.findClass R_Places = some m.cls := findClass_of_methodNamed B.named
  have hlocks := B.notSynchronized
  subst hsz
  have hD := hD0.self (sz := s.heap.size)
  generalize hAe : va_A (wd_Places_contextIn cI cZ cJ tq h0 h_now h_a0 h_a0_rows f_template t_first t_loosePlaces n_now g_now f_a0_width n_a0_rows g_a0_rows) s.heap.size = A at hD hG ⊢
  have hA : ∀ q : Nat, s.heap.size ≤ q → A q := fun q h => by rw [← hAe]; exact Or.inr h
  have hS : va_S A s.heap s.heap [] := va_S.rf
  have C0 : cx p s m meth c [.ref h0, .ref h_a0, .int x2, .int x3].toArray b_Places_contextIn (some .int) 6 R_Places D cI cZ cJ tq A := ⟨hx, hb, hr, hml, hown, htw, hlocks, hK, hG⟩
  have hl := lv_entry ([.ref h0, .ref h_a0, .int x2, .int x3]) (n := 6) (Nat.le_of_ble_eq_true rfl)
  rw [lg_entry_eq]
  generalize (lg_sl ([.ref h0, .ref h_a0, .int x2, .int x3]) ++ List.replicate (6 - (lg_sl ([.ref h0, .ref h_a0, .int x2, .int x3])).length) Slot.unset).toArray = ls at hl ⊢
  have hl : lv_has ls 6 [(0, .ref h0), (1, .ref h_a0), (2, .int x2), (3, .int x3)] := hl
  have hP : va_P D classes (wd_Places_contextIn cI cZ cJ tq h0 h_now h_a0 h_a0_rows f_template t_first t_loosePlaces n_now g_now f_a0_width n_a0_rows g_a0_rows) s.heap := hP
  clear hAe
  unfold F_Places_contextIn at hf
  refine lv_iconst (v := 0) hx hb d_Places_contextIn_0 (by decide) ?_
  refine lv_istore (lv' := [(4, .int 0), (0, .ref h0), (1, .ref h_a0), (2, .int x2), (3, .int x3)]) hx hb d_Places_contextIn_1 hl (by decide) rfl (fun ls hl => ?_)
  refine lv_iconst (v := 0) hx hb d_Places_contextIn_3 (by decide) ?_
  refine lv_istore (lv' := [(5, .int 0), (4, .int 0), (0, .ref h0), (1, .ref h_a0), (2, .int x2), (3, .int x3)]) hx hb d_Places_contextIn_4 hl (by decide) rfl (fun ls hl => ?_)
  exact w_Places_contextIn_6 k h0 h_now h_a0 h_a0_rows f_template t_first t_loosePlaces n_now g_now f_a0_width n_a0_rows g_a0_rows o_r C0 hA k x2 x3 0 0 _ _ ls hP hD hS (lv_sub hl [2, 3, 4, 5, 1, 0] rfl) hf
-- Plane_init
abbrev RM_Plane_init : Room := { frames := 1, cells := 1, slots := 24, locals := 24 }
def ws_Plane_init : List Cond := .code y_Plane_init b_Plane_init 3 none :: W_all
def wd_Plane_init (cI cZ cJ : ClassId) (tq : Nat → Nat) (h0 : Nat) : va_W := [(h0, .inr (4, [.int 0, .null]))]
def wdp_Plane_init (cI cZ cJ : ClassId) (tq : Nat → Nat) (h0 : Nat) (qq : Nat → Nat) (o_f_width : Int32) (o_n_rows : Nat) (o_g_rows : Nat → Int32) : va_W := [(h0, .inr (4, [.int o_f_width, .ref (qq 0)])), ((qq 0), .inl (cI, o_n_rows, .inl o_g_rows))]
def F_Plane_init (x1 : Int32) (x2 : Int32) : Option (Int32 × Nat × (Nat → Int32)) :=
  (if (maI x2 0) < 0 ∨ 24 < (maI x2 0).toNatClampNeg then none else (some (x1, (maI x2 0).toNatClampNeg, (fun _ => 0))))
set_option maxHeartbeats 4000000 in
set_option maxRecDepth 100000 in
theorem c_Plane_init (l : Launch) (D : va_G) (cI cZ cJ : ClassId) (tq : Nat → Nat) (h0 : Nat) (sz : Nat) (x1 : Int32) (x2 : Int32) (o_f_width : Int32) (o_n_rows : Nat) (o_g_rows : Nat → Int32) (hf : F_Plane_init x1 x2 = some (o_f_width, o_n_rows, o_g_rows)) : Met l y_Plane_init ws_Plane_init RM_Plane_init (va_Pc [.ref h0, .int x1, .int x2] (Pg D cI cZ cJ tq (wd_Plane_init cI cZ cJ tq h0) sz)) (qC D cI cZ cJ (va_A (wd_Plane_init cI cZ cJ tq h0) sz) (fun qq => (wdp_Plane_init cI cZ cJ tq h0 qq o_f_width o_n_rows o_g_rows))) 1 24 (va_A (wd_Plane_init cI cZ cJ tq h0) sz) := by
  refine Met.ofW (cc := b_Plane_init) (maxL := 3) (ret := none) (by decide) rfl ?_
  intro p e s m args below meth c s₁ B hml hv
  obtain ⟨rfl, hsz, hP, hK, hD0, hG⟩ := hv
  have hx := B.exec
  have hb := B.bytes
  have hr := B.returns
  have htw : ∀ w ∈ W_all, w.before [.ref h0, .int x1, .int x2].toArray s = true := fun w h => atoms_spec (ws := ws_Plane_init) B.pre w (List.mem_cons_of_mem _ h)
  have hown : s.vm.findClass R_Plane = some m.cls := findClass_of_methodNamed B.named
  have hlocks := B.notSynchronized
  have hin : meth.name = "<init>" := (name_of_methodNamed B.named B.method).1
  subst hsz
  have hD := hD0.self (sz := s.heap.size)
  generalize hAe : va_A (wd_Plane_init cI cZ cJ tq h0) s.heap.size = A at hD hG ⊢
  have hA : ∀ q : Nat, s.heap.size ≤ q → A q := fun q h => by rw [← hAe]; exact Or.inr h
  have hS : va_S A s.heap s.heap [] := va_S.rf
  have C0 : cx p s m meth c [.ref h0, .int x1, .int x2].toArray b_Plane_init none 3 R_Plane D cI cZ cJ tq A := ⟨hx, hb, hr, hml, hown, htw, hlocks, hK, hG⟩
  have hl := lv_entry ([.ref h0, .int x1, .int x2]) (n := 3) (Nat.le_of_ble_eq_true rfl)
  rw [lg_entry_eq]
  generalize (lg_sl ([.ref h0, .int x1, .int x2]) ++ List.replicate (3 - (lg_sl ([.ref h0, .int x1, .int x2])).length) Slot.unset).toArray = ls at hl ⊢
  have hl : lv_has ls 3 [(0, .ref h0), (1, .int x1), (2, .int x2)] := hl
  have hP : va_P D classes (wd_Plane_init cI cZ cJ tq h0) s.heap := hP
  clear hAe
  unfold F_Plane_init at hf
  refine lv_aload_n hx hb d_Plane_init_0 rfl (lv_at hl 0 rfl) ?_
  refine W.objInit hx hb hown (htw _ in58) (htw _ in1) (htw _ in2) rfl (by rw [hml]; exact hl.1) rfl d_Plane_init_1 (Nat.le_of_ble_eq_true rfl) (Nat.le_of_ble_eq_true rfl) ?_
  refine W.eq (g2 := F0 m 4 ls []) rfl ?_
  refine lv_aload_n hx hb d_Plane_init_4 rfl (lv_at hl 0 rfl) ?_
  refine lv_iload_n hx hb d_Plane_init_5 rfl (lv_at hl 1 rfl) ?_
  refine va_putF (D := D) (ci := 4) (v := .int x1) (ty := .int) (C := R_Plane) (T := F_Plane) (N := 2) hx hb htw i_Plane t_Plane t_Plane_ok n_Plane hown hK hP hD hS 0 rfl rfl 0 (by decide) (htw _ in48) (fun _ h9 => h9) rfl hin rfl (by decide +kernel) rfl rfl (Nat.le_of_ble_eq_true rfl) d_Plane_init_6 (fun H locs hP hD hS => ?_)
  have hP : va_P D classes ([(h0, .inr (4, [.int x1, .null]))] : va_W) H := hP
  have hD : va_D A ([(h0, .inr (4, [.int x1, .null]))] : va_W) := hD
  refine lv_aload_n hx hb d_Plane_init_9 rfl (lv_at hl 0 rfl) ?_
  refine lv_iload_n hx hb d_Plane_init_10 rfl (lv_at hl 2 rfl) ?_
  refine lv_iconst (v := 0) hx hb d_Plane_init_11 (by decide) ?_
  refine va_mmax hx hb (hml.trans hl.1.symm) hown (htw _ in59) (htw _ in60) (htw _ in61) (htw _ in62) (Nat.le_of_ble_eq_true rfl) (Nat.le_of_ble_eq_true rfl) (Nat.le_of_ble_eq_true rfl) (Nat.le_of_ble_eq_true rfl) d_Plane_init_12 ?_
  by_cases g15 : (maI x2 0) < 0 ∨ 24 < (maI x2 0).toNatClampNeg
  · exact no_some (it_t hf g15)
  have hf := it_f hf g15
  refine g_newI (n := (maI x2 0)) (N := (maI x2 0).toNatClampNeg) (B := 24) hx hb (htw _ in16) hK hP hD hS hA (fun h => g15 (Or.inl h)) rfl (Nat.not_lt.mp (fun h => g15 (Or.inr h))) (by decide) (Nat.le_of_ble_eq_true rfl) (Nat.le_of_ble_eq_true rfl) d_Plane_init_15 (fun q15 H hP hD hS => ?_)
  have hP : va_P D classes ([(h0, .inr (4, [.int x1, .null])), (q15, .inl (cI, (maI x2 0).toNatClampNeg, .inl (fun _ => 0)))] : va_W) H := hP
  have hD : va_D A ([(h0, .inr (4, [.int x1, .null])), (q15, .inl (cI, (maI x2 0).toNatClampNeg, .inl (fun _ => 0)))] : va_W) := hD
  refine va_putF (D := D) (ci := 4) (v := .ref q15) (ty := .array .int) (C := R_Plane) (T := F_Plane) (N := 2) hx hb htw i_Plane t_Plane t_Plane_ok n_Plane hown hK hP hD hS 0 rfl rfl 1 (by decide) (htw _ in47) (fun _ h9 => h9) rfl hin rfl (by decide +kernel) rfl rfl (Nat.le_of_ble_eq_true rfl) d_Plane_init_17 (fun H locs hP hD hS => ?_)
  have hP : va_P D classes ([(h0, .inr (4, [.int x1, .ref q15])), (q15, .inl (cI, (maI x2 0).toNatClampNeg, .inl (fun _ => 0)))] : va_W) H := hP
  have hD : va_D A ([(h0, .inr (4, [.int x1, .ref q15])), (q15, .inl (cI, (maI x2 0).toNatClampNeg, .inl (fun _ => 0)))] : va_W) := hD
  obtain ⟨e0, e1, e2⟩ := so3 hf
  subst e0; subst e1; subst e2
  exact W.vret hx hb hr (fun t ht hW => ⟨⟨(fun k => [q15].getD k 0), rfl, trivial, by rw [ht]; exact hP, va_K.moved hW.alike hK, hD⟩, hS.F ht⟩) hS.2.2 d_Plane_init_20 hlocks
-- Plane_width
abbrev RM_Plane_width : Room := { frames := 0, cells := 0, slots := 0, locals := 0 }
def ws_Plane_width : List Cond := .code y_Plane_width b_Plane_width 1 (some .int) :: W_all
def wd_Plane_width (cI cZ cJ : ClassId) (tq : Nat → Nat) (h0 : Nat) (h_rows : Nat) (f_width : Int32) : va_W := [(h0, .inr (4, [.int f_width, .ref h_rows]))]
def F_Plane_width (f_width : Int32) : Option (Int32) :=
  (some f_width)
set_option maxHeartbeats 4000000 in
set_option maxRecDepth 100000 in
theorem c_Plane_width (l : Launch) (D : va_G) (cI cZ cJ : ClassId) (tq : Nat → Nat) (h0 : Nat) (h_rows : Nat) (sz : Nat) (f_width : Int32) (o_r : Int32) (hf : F_Plane_width f_width = some o_r) : Met l y_Plane_width ws_Plane_width RM_Plane_width (va_Pc [.ref h0] (Pg D cI cZ cJ tq (wd_Plane_width cI cZ cJ tq h0 h_rows f_width) sz)) (qI D cI cZ cJ (va_A (wd_Plane_width cI cZ cJ tq h0 h_rows f_width) sz) o_r (wd_Plane_width cI cZ cJ tq h0 h_rows f_width)) 0 0 (va_A (wd_Plane_width cI cZ cJ tq h0 h_rows f_width) sz) := by
  refine Met.ofW (cc := b_Plane_width) (maxL := 1) (ret := (some .int)) (by decide) rfl ?_
  intro p e s m args below meth c s₁ B hml hv
  obtain ⟨rfl, hsz, hP, hK, hD0, hG⟩ := hv
  have hx := B.exec
  have hb := B.bytes
  have hr := B.returns
  have htw : ∀ w ∈ W_all, w.before [.ref h0].toArray s = true := fun w h => atoms_spec (ws := ws_Plane_width) B.pre w (List.mem_cons_of_mem _ h)
  have hown : s.vm.findClass R_Plane = some m.cls := findClass_of_methodNamed B.named
  have hlocks := B.notSynchronized
  subst hsz
  have hD := hD0.self (sz := s.heap.size)
  generalize hAe : va_A (wd_Plane_width cI cZ cJ tq h0 h_rows f_width) s.heap.size = A at hD hG ⊢
  have hA : ∀ q : Nat, s.heap.size ≤ q → A q := fun q h => by rw [← hAe]; exact Or.inr h
  have hS : va_S A s.heap s.heap [] := va_S.rf
  have C0 : cx p s m meth c [.ref h0].toArray b_Plane_width (some .int) 1 R_Plane D cI cZ cJ tq A := ⟨hx, hb, hr, hml, hown, htw, hlocks, hK, hG⟩
  have hl := lv_entry ([.ref h0]) (n := 1) (Nat.le_of_ble_eq_true rfl)
  rw [lg_entry_eq]
  generalize (lg_sl ([.ref h0]) ++ List.replicate (1 - (lg_sl ([.ref h0])).length) Slot.unset).toArray = ls at hl ⊢
  have hl : lv_has ls 1 [(0, .ref h0)] := hl
  have hP : va_P D classes (wd_Plane_width cI cZ cJ tq h0 h_rows f_width) s.heap := hP
  clear hAe
  unfold F_Plane_width at hf
  refine lv_aload_n hx hb d_Plane_width_0 rfl (lv_at hl 0 rfl) ?_
  refine va_get (D := D) (ci := 4) (v := .int f_width) (C := R_Plane) (T := F_Plane) (N := 2) hx hb htw i_Plane hown hK hP 0 rfl rfl 0 (by decide) (htw _ in48) (fun _ h9 => h9) rfl d_Plane_width_1 ?_
  have e0 := Option.some.inj hf
  subst e0
  exact W.iret (v := f_width) hx hb hr (fun t ht hW => ⟨⟨_, (), rfl, rfl, by rw [ht]; exact hP, va_K.moved hW.alike hK, hD⟩, hS.F ht⟩) hS.2.2 d_Plane_width_4 hlocks
-- Plane_height
abbrev RM_Plane_height : Room := { frames := 0, cells := 0, slots := 0, locals := 0 }
def ws_Plane_height : List Cond := .code y_Plane_height b_Plane_height 1 (some .int) :: W_all
def wd_Plane_height (cI cZ cJ : ClassId) (tq : Nat → Nat) (h0 : Nat) (h_rows : Nat) (f_width : Int32) (n_rows : Nat) (g_rows : Nat → Int32) : va_W := [(h0, .inr (4, [.int f_width, .ref h_rows])), (h_rows, .inl (cI, n_rows, .inl g_rows))]
def F_Plane_height (n_rows : Nat) : Option (Int32) :=
  (some (nI n_rows))
set_option maxHeartbeats 4000000 in
set_option maxRecDepth 100000 in
theorem c_Plane_height (l : Launch) (D : va_G) (cI cZ cJ : ClassId) (tq : Nat → Nat) (h0 : Nat) (h_rows : Nat) (sz : Nat) (f_width : Int32) (n_rows : Nat) (g_rows : Nat → Int32) (o_r : Int32) (hf : F_Plane_height n_rows = some o_r) : Met l y_Plane_height ws_Plane_height RM_Plane_height (va_Pc [.ref h0] (Pg D cI cZ cJ tq (wd_Plane_height cI cZ cJ tq h0 h_rows f_width n_rows g_rows) sz)) (qI D cI cZ cJ (va_A (wd_Plane_height cI cZ cJ tq h0 h_rows f_width n_rows g_rows) sz) o_r (wd_Plane_height cI cZ cJ tq h0 h_rows f_width n_rows g_rows)) 0 0 (va_A (wd_Plane_height cI cZ cJ tq h0 h_rows f_width n_rows g_rows) sz) := by
  refine Met.ofW (cc := b_Plane_height) (maxL := 1) (ret := (some .int)) (by decide) rfl ?_
  intro p e s m args below meth c s₁ B hml hv
  obtain ⟨rfl, hsz, hP, hK, hD0, hG⟩ := hv
  have hx := B.exec
  have hb := B.bytes
  have hr := B.returns
  have htw : ∀ w ∈ W_all, w.before [.ref h0].toArray s = true := fun w h => atoms_spec (ws := ws_Plane_height) B.pre w (List.mem_cons_of_mem _ h)
  have hown : s.vm.findClass R_Plane = some m.cls := findClass_of_methodNamed B.named
  have hlocks := B.notSynchronized
  subst hsz
  have hD := hD0.self (sz := s.heap.size)
  generalize hAe : va_A (wd_Plane_height cI cZ cJ tq h0 h_rows f_width n_rows g_rows) s.heap.size = A at hD hG ⊢
  have hA : ∀ q : Nat, s.heap.size ≤ q → A q := fun q h => by rw [← hAe]; exact Or.inr h
  have hS : va_S A s.heap s.heap [] := va_S.rf
  have C0 : cx p s m meth c [.ref h0].toArray b_Plane_height (some .int) 1 R_Plane D cI cZ cJ tq A := ⟨hx, hb, hr, hml, hown, htw, hlocks, hK, hG⟩
  have hl := lv_entry ([.ref h0]) (n := 1) (Nat.le_of_ble_eq_true rfl)
  rw [lg_entry_eq]
  generalize (lg_sl ([.ref h0]) ++ List.replicate (1 - (lg_sl ([.ref h0])).length) Slot.unset).toArray = ls at hl ⊢
  have hl : lv_has ls 1 [(0, .ref h0)] := hl
  have hP : va_P D classes (wd_Plane_height cI cZ cJ tq h0 h_rows f_width n_rows g_rows) s.heap := hP
  clear hAe
  unfold F_Plane_height at hf
  refine lv_aload_n hx hb d_Plane_height_0 rfl (lv_at hl 0 rfl) ?_
  refine va_get (D := D) (ci := 4) (v := .ref h_rows) (C := R_Plane) (T := F_Plane) (N := 2) hx hb htw i_Plane hown hK hP 0 rfl rfl 1 (by decide) (htw _ in47) (fun _ h9 => h9) rfl d_Plane_height_1 ?_
  refine va_alen (v := nI n_rows) hx hb hK hP 1 0 rfl rfl rfl d_Plane_height_4 ?_
  have e0 := Option.some.inj hf
  subst e0
  exact W.iret (v := (nI n_rows)) hx hb hr (fun t ht hW => ⟨⟨_, (), rfl, rfl, by rw [ht]; exact hP, va_K.moved hW.alike hK, hD⟩, hS.F ht⟩) hS.2.2 d_Plane_height_5 hlocks
-- Plane_setMask
abbrev RM_Plane_setMask : Room := { frames := 0, cells := 0, slots := 0, locals := 0 }
def ws_Plane_setMask : List Cond := .code y_Plane_setMask b_Plane_setMask 3 none :: W_all
def wd_Plane_setMask (cI cZ cJ : ClassId) (tq : Nat → Nat) (h0 : Nat) (h_rows : Nat) (f_width : Int32) (n_rows : Nat) (g_rows : Nat → Int32) : va_W := [(h0, .inr (4, [.int f_width, .ref h_rows])), (h_rows, .inl (cI, n_rows, .inl g_rows))]
def F_Plane_setMask (x1 : Int32) (x2 : Int32) (f_width : Int32) (n_rows : Nat) (g_rows : Nat → Int32) : Option ((Nat → Int32)) :=
  (if x1 < 0 then (some g_rows) else (if (nI n_rows) ≤ x1 then (some g_rows) else (if x1 < 0 ∨ n_rows ≤ x1.toNatClampNeg then none else (some (upd g_rows x1.toNatClampNeg (x2 &&& (((1 : Int32) <<< (f_width &&& 31)) - (1 : Int32))))))))
set_option maxHeartbeats 4000000 in
set_option maxRecDepth 100000 in
theorem c_Plane_setMask (l : Launch) (D : va_G) (cI cZ cJ : ClassId) (tq : Nat → Nat) (h0 : Nat) (h_rows : Nat) (sz : Nat) (f_width : Int32) (n_rows : Nat) (g_rows : Nat → Int32) (x1 : Int32) (x2 : Int32) (o_g_rows : Nat → Int32) (hf : F_Plane_setMask x1 x2 f_width n_rows g_rows = some o_g_rows) : Met l y_Plane_setMask ws_Plane_setMask RM_Plane_setMask (va_Pc [.ref h0, .int x1, .int x2] (Pg D cI cZ cJ tq (wd_Plane_setMask cI cZ cJ tq h0 h_rows f_width n_rows g_rows) sz)) (qV D cI cZ cJ (va_A (wd_Plane_setMask cI cZ cJ tq h0 h_rows f_width n_rows g_rows) sz) (wd_Plane_setMask cI cZ cJ tq h0 h_rows f_width n_rows o_g_rows)) 0 0 (va_A (wd_Plane_setMask cI cZ cJ tq h0 h_rows f_width n_rows g_rows) sz) := by
  refine Met.ofW (cc := b_Plane_setMask) (maxL := 3) (ret := none) (by decide) rfl ?_
  intro p e s m args below meth c s₁ B hml hv
  obtain ⟨rfl, hsz, hP, hK, hD0, hG⟩ := hv
  have hx := B.exec
  have hb := B.bytes
  have hr := B.returns
  have htw : ∀ w ∈ W_all, w.before [.ref h0, .int x1, .int x2].toArray s = true := fun w h => atoms_spec (ws := ws_Plane_setMask) B.pre w (List.mem_cons_of_mem _ h)
  have hown : s.vm.findClass R_Plane = some m.cls := findClass_of_methodNamed B.named
  have hlocks := B.notSynchronized
  subst hsz
  have hD := hD0.self (sz := s.heap.size)
  generalize hAe : va_A (wd_Plane_setMask cI cZ cJ tq h0 h_rows f_width n_rows g_rows) s.heap.size = A at hD hG ⊢
  have hA : ∀ q : Nat, s.heap.size ≤ q → A q := fun q h => by rw [← hAe]; exact Or.inr h
  have hS : va_S A s.heap s.heap [] := va_S.rf
  have C0 : cx p s m meth c [.ref h0, .int x1, .int x2].toArray b_Plane_setMask none 3 R_Plane D cI cZ cJ tq A := ⟨hx, hb, hr, hml, hown, htw, hlocks, hK, hG⟩
  have hl := lv_entry ([.ref h0, .int x1, .int x2]) (n := 3) (Nat.le_of_ble_eq_true rfl)
  rw [lg_entry_eq]
  generalize (lg_sl ([.ref h0, .int x1, .int x2]) ++ List.replicate (3 - (lg_sl ([.ref h0, .int x1, .int x2])).length) Slot.unset).toArray = ls at hl ⊢
  have hl : lv_has ls 3 [(0, .ref h0), (1, .int x1), (2, .int x2)] := hl
  have hP : va_P D classes (wd_Plane_setMask cI cZ cJ tq h0 h_rows f_width n_rows g_rows) s.heap := hP
  clear hAe
  unfold F_Plane_setMask at hf
  refine lv_iload_n hx hb d_Plane_setMask_0 rfl (lv_at hl 1 rfl) ?_
  refine lv_if_lt (tgt := 29) hx hb d_Plane_setMask_1 (by decide) (fun c1 => ?_) (fun c1 => ?_)
  · have hf := it_t hf c1
    have e0 := Option.some.inj hf
    subst e0
    exact W.vret hx hb hr (fun t ht hW => ⟨⟨(), rfl, trivial, by rw [ht]; exact hP, va_K.moved hW.alike hK, hD⟩, hS.F ht⟩) hS.2.2 d_Plane_setMask_29 hlocks
  · have hf := it_f hf c1
    refine lv_iload_n hx hb d_Plane_setMask_4 rfl (lv_at hl 1 rfl) ?_
    refine lv_aload_n hx hb d_Plane_setMask_5 rfl (lv_at hl 0 rfl) ?_
    refine va_get (D := D) (ci := 4) (v := .ref h_rows) (C := R_Plane) (T := F_Plane) (N := 2) hx hb htw i_Plane hown hK hP 0 rfl rfl 1 (by decide) (htw _ in47) (fun _ h9 => h9) rfl d_Plane_setMask_6 ?_
    refine va_alen (v := nI n_rows) hx hb hK hP 1 0 rfl rfl rfl d_Plane_setMask_9 ?_
    refine lv_icmp_ge (tgt := 29) hx hb d_Plane_setMask_10 (by decide) (fun c10 => ?_) (fun c10 => ?_)
    · have hf := it_t hf c10
      have e0 := Option.some.inj hf
      subst e0
      exact W.vret hx hb hr (fun t ht hW => ⟨⟨(), rfl, trivial, by rw [ht]; exact hP, va_K.moved hW.alike hK, hD⟩, hS.F ht⟩) hS.2.2 d_Plane_setMask_29 hlocks
    · have hf := it_f hf c10
      refine lv_aload_n hx hb d_Plane_setMask_13 rfl (lv_at hl 0 rfl) ?_
      refine va_get (D := D) (ci := 4) (v := .ref h_rows) (C := R_Plane) (T := F_Plane) (N := 2) hx hb htw i_Plane hown hK hP 0 rfl rfl 1 (by decide) (htw _ in47) (fun _ h9 => h9) rfl d_Plane_setMask_14 ?_
      refine lv_iload_n hx hb d_Plane_setMask_17 rfl (lv_at hl 1 rfl) ?_
      refine lv_iload_n hx hb d_Plane_setMask_18 rfl (lv_at hl 2 rfl) ?_
      refine lv_iconst (v := 1) hx hb d_Plane_setMask_19 (by decide) ?_
      refine lv_aload_n hx hb d_Plane_setMask_20 rfl (lv_at hl 0 rfl) ?_
      refine va_get (D := D) (ci := 4) (v := .int f_width) (C := R_Plane) (T := F_Plane) (N := 2) hx hb htw i_Plane hown hK hP 0 rfl rfl 0 (by decide) (htw _ in48) (fun _ h9 => h9) rfl d_Plane_setMask_21 ?_
      refine lv_ishl hx hb d_Plane_setMask_24 ?_
      refine lv_iconst (v := 1) hx hb d_Plane_setMask_25 (by decide) ?_
      refine lv_isub hx hb d_Plane_setMask_26 ?_
      refine lv_iand hx hb d_Plane_setMask_27 ?_
      by_cases g28 : x1 < 0 ∨ n_rows ≤ x1.toNatClampNeg
      · exact no_some (it_t hf g28)
      have hf := it_f hf g28
      refine va_iast hx hb hK hP hD hS 1 0 rfl rfl g28 d_Plane_setMask_28 (fun H locs hP hD hS => ?_)
      have hP : va_P D classes (wd_Plane_setMask cI cZ cJ tq h0 h_rows f_width n_rows (upd g_rows x1.toNatClampNeg (x2 &&& (((1 : Int32) <<< (f_width &&& 31)) - (1 : Int32))))) H := hP
      have hD : va_D A (wd_Plane_setMask cI cZ cJ tq h0 h_rows f_width n_rows (upd g_rows x1.toNatClampNeg (x2 &&& (((1 : Int32) <<< (f_width &&& 31)) - (1 : Int32))))) := hD
      have e0 := Option.some.inj hf
      subst e0
      exact W.vret hx hb hr (fun t ht hW => ⟨⟨(), rfl, trivial, by rw [ht]; exact hP, va_K.moved hW.alike hK, hD⟩, hS.F ht⟩) hS.2.2 d_Plane_setMask_29 hlocks
-- Plane_change
abbrev RM_Plane_change : Room := { frames := 2, cells := 0, slots := 0, locals := 43 }
def ws_Plane_change : List Cond := .code y_Plane_change b_Plane_change 5 (some .boolean) :: W_all
def wd_Plane_change (cI cZ cJ : ClassId) (tq : Nat → Nat) (h0 : Nat) (h_rows : Nat) (f_width : Int32) (n_rows : Nat) (g_rows : Nat → Int32) : va_W := [(h0, .inr (4, [.int f_width, .ref h_rows])), (h_rows, .inl (cI, n_rows, .inl g_rows))]
def F_Plane_change_15 (f_width : Int32) (n_rows : Nat) (x1 : Int32) (x2 : Int32) (z0 : Int32) (g_rows : Nat → Int32) : Option (Int32 × (Nat → Int32)) :=
  (if z0 = 0 then (if ¬ (z0 = 0 ∨ z0 = 1) then none else (some (z0, g_rows))) else (bd1 (F_Plane_mask x2 n_rows g_rows) (fun r26 => (bd1 (F_Plane_setMask x2 (r26 ^^^ ((1 : Int32) <<< (x1 &&& 31))) f_width n_rows g_rows) (fun w33_g_rows => (if ¬ (z0 = 0 ∨ z0 = 1) then none else (some (z0, w33_g_rows))))))))
def F_Plane_change (x1 : Int32) (x2 : Int32) (x3 : Int32) (f_width : Int32) (n_rows : Nat) (g_rows : Nat → Int32) : Option (Int32 × (Nat → Int32)) :=
  (bd1 (F_Plane_has x1 x2 f_width n_rows g_rows) (fun r3 => (if r3 = x3 then (F_Plane_change_15 f_width n_rows x1 x2 0 g_rows) else (F_Plane_change_15 f_width n_rows x1 x2 1 g_rows))))
set_option maxHeartbeats 4000000 in
set_option maxRecDepth 100000 in
theorem w_Plane_change_15 {p : Program} {l : Launch} {e : Env} {s : State} {m : MethodId} {args : Array Value} {below : List Frame} {meth : Method} {c : Code} {D : va_G} {cI cZ cJ : ClassId} {tq : Nat → Nat} {A : Nat → Prop} (h0 : Nat) (h_rows : Nat) (f_width : Int32) (n_rows : Nat) (o_r : Int32) (o_g_rows : Nat → Int32) (C0 : cx p s m meth c args b_Plane_change (some .boolean) 5 R_Plane D cI cZ cJ tq A) (hA : ∀ q : Nat, s.heap.size ≤ q → A q) : ∀ (x1 : Int32) (x2 : Int32) (z0 : Int32) (g_rows : Nat → Int32) (H : Heap) (locs : List Loc) (ls : Array Slot), va_P D classes (wd_Plane_change cI cZ cJ tq h0 h_rows f_width n_rows g_rows) H → va_D A (wd_Plane_change cI cZ cJ tq h0 h_rows f_width n_rows g_rows) → va_S A s.heap H locs → lv_has ls 5 [(0, .ref h0), (1, .int x1), (2, .int x2)] → F_Plane_change_15 f_width n_rows x1 x2 z0 g_rows = some (o_r, o_g_rows) → W p l e RM_Plane_change s m args below meth c H locs 0 0 (MQ below (qI D cI cZ cJ A o_r (wd_Plane_change cI cZ cJ tq h0 h_rows f_width n_rows o_g_rows)) args s 0 0 A) (F0 m 15 ls [.int z0]) := by
  obtain ⟨hx, hb, hr, hml, hown, htw, hlocks, hK, hG⟩ := id C0
  intro x1 x2 z0 g_rows H locs ls hP hD hS hl hf
  unfold F_Plane_change_15 at hf
  refine lv_istore (lv' := [(4, .int z0), (0, .ref h0), (1, .int x1), (2, .int x2)]) hx hb d_Plane_change_15 hl (by decide) rfl (fun ls hl => ?_)
  refine lv_iload hx hb d_Plane_change_17 (lv_at hl 0 rfl) ?_
  refine lv_if_eq (tgt := 36) hx hb d_Plane_change_19 (by decide) (fun c19 => ?_) (fun c19 => ?_)
  · have hf := it_t hf c19
    refine lv_iload hx hb d_Plane_change_36 (lv_at hl 0 rfl) ?_
    by_cases g38 : ¬ (z0 = 0 ∨ z0 = 1)
    · exact no_some (it_t hf g38)
    have hf := it_f hf g38
    obtain ⟨e0, e1⟩ := so2 hf
    subst e0; subst e1
    exact W.zret (v := z0) hx hb hr (bz_nar g38) (fun t ht hW => ⟨⟨_, (), rfl, rfl, by rw [ht]; exact hP, va_K.moved hW.alike hK, hD⟩, hS.F ht⟩) hS.2.2 d_Plane_change_38 hlocks
  · have hf := it_f hf c19
    refine lv_aload_n hx hb d_Plane_change_22 rfl (lv_at hl 1 rfl) ?_
    refine lv_iload_n hx hb d_Plane_change_23 rfl (lv_at hl 3 rfl) ?_
    refine lv_aload_n hx hb d_Plane_change_24 rfl (lv_at hl 1 rfl) ?_
    refine lv_iload_n hx hb d_Plane_change_25 rfl (lv_at hl 3 rfl) ?_
    obtain ⟨r26, e26, hf⟩ := bd1_some hf
    refine g_calli (wc := (wd_Plane_mask cI cZ cJ tq h0 h_rows f_width n_rows g_rows)) (w1 := (wd_Plane_mask cI cZ cJ tq h0 h_rows f_width n_rows g_rows)) (ws' := (wd_Plane_change cI cZ cJ tq h0 h_rows f_width n_rows g_rows)) (va_runV (As := [.int x2]) (rest := [.int x2, .ref h0]) ⟨hx, hb, hml, hown, htw⟩ (c_Plane_mask l D cI cZ cJ tq h0 h_rows _ f_width n_rows g_rows x2 r26 e26) (cwV 1 htw (gd_V in50 in51 in52 in53 in49) rfl rfl rfl (by decide +kernel) ⟨Nat.le_of_ble_eq_true rfl, Nat.le_of_ble_eq_true rfl⟩) (preV_of (ci := 4) (q0 := 0) hG hS (va_free (wc := (wd_Plane_mask cI cZ cJ tq h0 h_rows f_width n_rows g_rows)) hD hS hA [0, 1] rfl) hK hP rfl rfl (hP.sub (ws' := (wd_Plane_mask cI cZ cJ tq h0 h_rows f_width n_rows g_rows)) [0, 1] rfl) (hD.sub (ws' := (wd_Plane_mask cI cZ cJ tq h0 h_rows f_width n_rows g_rows)) [0, 1] (by decide) rfl)) rfl rfl hl.1 rfl (lv_room (Nat.le_of_ble_eq_true rfl)) d_Plane_change_26 ⟨Nat.le_of_ble_eq_true rfl, Nat.le_of_ble_eq_true rfl⟩) hP hD hS hA [0, 1] [] [0, 1] rfl rfl (by decide) (by decide) (by decide) rfl (fun H locs hP hD hS => ?_)
    refine lv_iconst (v := 1) hx hb d_Plane_change_29 (by decide) ?_
    refine lv_iload_n hx hb d_Plane_change_30 rfl (lv_at hl 2 rfl) ?_
    refine lv_ishl hx hb d_Plane_change_31 ?_
    refine lv_ixor hx hb d_Plane_change_32 ?_
    obtain ⟨w33_g_rows, e33, hf⟩ := bd1_some hf
    refine g_callv (wc := (wd_Plane_setMask cI cZ cJ tq h0 h_rows f_width n_rows g_rows)) (w1 := (wd_Plane_setMask cI cZ cJ tq h0 h_rows f_width n_rows w33_g_rows)) (ws' := (wd_Plane_change cI cZ cJ tq h0 h_rows f_width n_rows w33_g_rows)) (va_runV (As := [.int x2, .int (r26 ^^^ ((1 : Int32) <<< (x1 &&& 31)))]) (rest := []) ⟨hx, hb, hml, hown, htw⟩ (c_Plane_setMask l D cI cZ cJ tq h0 h_rows _ f_width n_rows g_rows x2 (r26 ^^^ ((1 : Int32) <<< (x1 &&& 31))) w33_g_rows e33) (cwV 2 htw (gd_V in65 in66 in67 in53 in64) rfl rfl rfl (by decide +kernel) ⟨Nat.le_of_ble_eq_true rfl, Nat.le_of_ble_eq_true rfl⟩) (preV_of (ci := 4) (q0 := 0) hG hS (va_free (wc := (wd_Plane_setMask cI cZ cJ tq h0 h_rows f_width n_rows g_rows)) hD hS hA [0, 1] rfl) hK hP rfl rfl (hP.sub (ws' := (wd_Plane_setMask cI cZ cJ tq h0 h_rows f_width n_rows g_rows)) [0, 1] rfl) (hD.sub (ws' := (wd_Plane_setMask cI cZ cJ tq h0 h_rows f_width n_rows g_rows)) [0, 1] (by decide) rfl)) rfl rfl hl.1 rfl (lv_room (Nat.le_of_ble_eq_true rfl)) d_Plane_change_33 ⟨Nat.le_of_ble_eq_true rfl, Nat.le_of_ble_eq_true rfl⟩) hP hD hS hA [0, 1] [] [0, 1] rfl rfl (by decide) (by decide) (by decide) rfl (fun H locs hP hD hS => ?_)
    refine lv_iload hx hb d_Plane_change_36 (lv_at hl 0 rfl) ?_
    by_cases g38 : ¬ (z0 = 0 ∨ z0 = 1)
    · exact no_some (it_t hf g38)
    have hf := it_f hf g38
    obtain ⟨e0, e1⟩ := so2 hf
    subst e0; subst e1
    exact W.zret (v := z0) hx hb hr (bz_nar g38) (fun t ht hW => ⟨⟨_, (), rfl, rfl, by rw [ht]; exact hP, va_K.moved hW.alike hK, hD⟩, hS.F ht⟩) hS.2.2 d_Plane_change_38 hlocks
set_option maxHeartbeats 4000000 in
set_option maxRecDepth 100000 in
theorem c_Plane_change (l : Launch) (D : va_G) (cI cZ cJ : ClassId) (tq : Nat → Nat) (h0 : Nat) (h_rows : Nat) (sz : Nat) (f_width : Int32) (n_rows : Nat) (g_rows : Nat → Int32) (x1 : Int32) (x2 : Int32) (x3 : Int32) (o_r : Int32) (o_g_rows : Nat → Int32) (hf : F_Plane_change x1 x2 x3 f_width n_rows g_rows = some (o_r, o_g_rows)) : Met l y_Plane_change ws_Plane_change RM_Plane_change (va_Pc [.ref h0, .int x1, .int x2, .int x3] (Pg D cI cZ cJ tq (wd_Plane_change cI cZ cJ tq h0 h_rows f_width n_rows g_rows) sz)) (qI D cI cZ cJ (va_A (wd_Plane_change cI cZ cJ tq h0 h_rows f_width n_rows g_rows) sz) o_r (wd_Plane_change cI cZ cJ tq h0 h_rows f_width n_rows o_g_rows)) 0 0 (va_A (wd_Plane_change cI cZ cJ tq h0 h_rows f_width n_rows g_rows) sz) := by
  refine Met.ofW (cc := b_Plane_change) (maxL := 5) (ret := (some .boolean)) (by decide) rfl ?_
  intro p e s m args below meth c s₁ B hml hv
  obtain ⟨rfl, hsz, hP, hK, hD0, hG⟩ := hv
  have hx := B.exec
  have hb := B.bytes
  have hr := B.returns
  have htw : ∀ w ∈ W_all, w.before [.ref h0, .int x1, .int x2, .int x3].toArray s = true := fun w h => atoms_spec (ws := ws_Plane_change) B.pre w (List.mem_cons_of_mem _ h)
  have hown : s.vm.findClass R_Plane = some m.cls := findClass_of_methodNamed B.named
  have hlocks := B.notSynchronized
  subst hsz
  have hD := hD0.self (sz := s.heap.size)
  generalize hAe : va_A (wd_Plane_change cI cZ cJ tq h0 h_rows f_width n_rows g_rows) s.heap.size = A at hD hG ⊢
  have hA : ∀ q : Nat, s.heap.size ≤ q → A q := fun q h => by rw [← hAe]; exact Or.inr h
  have hS : va_S A s.heap s.heap [] := va_S.rf
  have C0 : cx p s m meth c [.ref h0, .int x1, .int x2, .int x3].toArray b_Plane_change (some .boolean) 5 R_Plane D cI cZ cJ tq A := ⟨hx, hb, hr, hml, hown, htw, hlocks, hK, hG⟩
  have hl := lv_entry ([.ref h0, .int x1, .int x2, .int x3]) (n := 5) (Nat.le_of_ble_eq_true rfl)
  rw [lg_entry_eq]
  generalize (lg_sl ([.ref h0, .int x1, .int x2, .int x3]) ++ List.replicate (5 - (lg_sl ([.ref h0, .int x1, .int x2, .int x3])).length) Slot.unset).toArray = ls at hl ⊢
  have hl : lv_has ls 5 [(0, .ref h0), (1, .int x1), (2, .int x2), (3, .int x3)] := hl
  have hP : va_P D classes (wd_Plane_change cI cZ cJ tq h0 h_rows f_width n_rows g_rows) s.heap := hP
  clear hAe
  unfold F_Plane_change at hf
  refine lv_aload_n hx hb d_Plane_change_0 rfl (lv_at hl 0 rfl) ?_
  refine lv_iload_n hx hb d_Plane_change_1 rfl (lv_at hl 1 rfl) ?_
  refine lv_iload_n hx hb d_Plane_change_2 rfl (lv_at hl 2 rfl) ?_
  obtain ⟨r3, e3, hf⟩ := bd1_some hf
  refine g_calli (wc := (wd_Plane_has cI cZ cJ tq h0 h_rows f_width n_rows g_rows)) (w1 := (wd_Plane_has cI cZ cJ tq h0 h_rows f_width n_rows g_rows)) (ws' := (wd_Plane_change cI cZ cJ tq h0 h_rows f_width n_rows g_rows)) (va_runV (As := [.int x1, .int x2]) (rest := []) ⟨hx, hb, hml, hown, htw⟩ (c_Plane_has l D cI cZ cJ tq h0 h_rows _ f_width n_rows g_rows x1 x2 r3 e3) (cwV 2 htw (gd_V in63 in56 in57 in53 in54) rfl rfl rfl (by decide +kernel) ⟨Nat.le_of_ble_eq_true rfl, Nat.le_of_ble_eq_true rfl⟩) (preV_of (ci := 4) (q0 := 0) hG hS (va_free (wc := (wd_Plane_has cI cZ cJ tq h0 h_rows f_width n_rows g_rows)) hD hS hA [0, 1] rfl) hK hP rfl rfl (hP.sub (ws' := (wd_Plane_has cI cZ cJ tq h0 h_rows f_width n_rows g_rows)) [0, 1] rfl) (hD.sub (ws' := (wd_Plane_has cI cZ cJ tq h0 h_rows f_width n_rows g_rows)) [0, 1] (by decide) rfl)) rfl rfl hl.1 rfl (lv_room (Nat.le_of_ble_eq_true rfl)) d_Plane_change_3 ⟨Nat.le_of_ble_eq_true rfl, Nat.le_of_ble_eq_true rfl⟩) hP hD hS hA [0, 1] [] [0, 1] rfl rfl (by decide) (by decide) (by decide) rfl (fun H locs hP hD hS => ?_)
  refine lv_iload_n hx hb d_Plane_change_6 rfl (lv_at hl 3 rfl) ?_
  refine lv_icmp_eq (tgt := 14) hx hb d_Plane_change_7 (by decide) (fun c7 => ?_) (fun c7 => ?_)
  · have hf := it_t hf c7
    refine lv_iconst (v := 0) hx hb d_Plane_change_14 (by decide) ?_
    exact w_Plane_change_15 h0 h_rows f_width n_rows o_r o_g_rows C0 hA x1 x2 0 g_rows _ _ ls hP hD hS (lv_sub hl [0, 1, 2] rfl) hf
  · have hf := it_f hf c7
    refine lv_iconst (v := 1) hx hb d_Plane_change_10 (by decide) ?_
    refine lv_goto (tgt := 15) hx hb d_Plane_change_11 (by decide) ?_
    exact w_Plane_change_15 h0 h_rows f_width n_rows o_r o_g_rows C0 hA x1 x2 1 g_rows _ _ ls hP hD hS (lv_sub hl [0, 1, 2] rfl) hf
-- Plane_wipe
abbrev RM_Plane_wipe : Room := { frames := 0, cells := 0, slots := 0, locals := 0 }
def ws_Plane_wipe : List Cond := .code y_Plane_wipe b_Plane_wipe 2 none :: W_all
def wd_Plane_wipe (cI cZ cJ : ClassId) (tq : Nat → Nat) (h0 : Nat) (h_rows : Nat) (f_width : Int32) (n_rows : Nat) (g_rows : Nat → Int32) : va_W := [(h0, .inr (4, [.int f_width, .ref h_rows])), (h_rows, .inl (cI, n_rows, .inl g_rows))]
def F_Plane_wipe_2 (k : Nat) (n_rows : Nat) : Nat → Int32 → (Nat → Int32) → Option ((Nat → Int32))
  | 0, _, _ => none
  | n + 1, x1, g_rows =>
    (if (nI n_rows) ≤ x1 then (some g_rows) else (if x1 < 0 ∨ n_rows ≤ x1.toNatClampNeg then none else (F_Plane_wipe_2 k n_rows n (x1 + 1) (upd g_rows x1.toNatClampNeg 0))))
def F_Plane_wipe (k : Nat) (n_rows : Nat) (g_rows : Nat → Int32) : Option ((Nat → Int32)) :=
  (F_Plane_wipe_2 k n_rows k 0 g_rows)
set_option maxHeartbeats 4000000 in
set_option maxRecDepth 100000 in
theorem w_Plane_wipe_2 {p : Program} {l : Launch} {e : Env} {s : State} {m : MethodId} {args : Array Value} {below : List Frame} {meth : Method} {c : Code} {D : va_G} {cI cZ cJ : ClassId} {tq : Nat → Nat} {A : Nat → Prop} (k : Nat) (h0 : Nat) (h_rows : Nat) (f_width : Int32) (n_rows : Nat) (o_g_rows : Nat → Int32) (C0 : cx p s m meth c args b_Plane_wipe none 2 R_Plane D cI cZ cJ tq A) (hA : ∀ q : Nat, s.heap.size ≤ q → A q) : ∀ n : Nat, ∀ (x1 : Int32) (g_rows : Nat → Int32) (H : Heap) (locs : List Loc) (ls : Array Slot), va_P D classes (wd_Plane_wipe cI cZ cJ tq h0 h_rows f_width n_rows g_rows) H → va_D A (wd_Plane_wipe cI cZ cJ tq h0 h_rows f_width n_rows g_rows) → va_S A s.heap H locs → lv_has ls 2 [(0, .ref h0), (1, .int x1)] → F_Plane_wipe_2 k n_rows n x1 g_rows = some o_g_rows → W p l e RM_Plane_wipe s m args below meth c H locs 0 0 (MQ below (qV D cI cZ cJ A (wd_Plane_wipe cI cZ cJ tq h0 h_rows f_width n_rows o_g_rows)) args s 0 0 A) (F0 m 2 ls []) := by
  obtain ⟨hx, hb, hr, hml, hown, htw, hlocks, hK, hG⟩ := id C0
  intro n
  induction n with
  | zero =>
    intro x1 g_rows H locs ls hP hD hS hl hf
    exact no_some hf
  | succ n ih =>
    intro x1 g_rows H locs ls hP hD hS hl hf
    rw [F_Plane_wipe_2] at hf
    refine lv_iload_n hx hb d_Plane_wipe_2 rfl (lv_at hl 1 rfl) ?_
    refine lv_aload_n hx hb d_Plane_wipe_3 rfl (lv_at hl 0 rfl) ?_
    refine va_get (D := D) (ci := 4) (v := .ref h_rows) (C := R_Plane) (T := F_Plane) (N := 2) hx hb htw i_Plane hown hK hP 0 rfl rfl 1 (by decide) (htw _ in47) (fun _ h9 => h9) rfl d_Plane_wipe_4 ?_
    refine va_alen (v := nI n_rows) hx hb hK hP 1 0 rfl rfl rfl d_Plane_wipe_7 ?_
    refine lv_icmp_ge (tgt := 24) hx hb d_Plane_wipe_8 (by decide) (fun c8 => ?_) (fun c8 => ?_)
    · have hf := it_t hf c8
      have e0 := Option.some.inj hf
      subst e0
      exact W.vret hx hb hr (fun t ht hW => ⟨⟨(), rfl, trivial, by rw [ht]; exact hP, va_K.moved hW.alike hK, hD⟩, hS.F ht⟩) hS.2.2 d_Plane_wipe_24 hlocks
    · have hf := it_f hf c8
      refine lv_aload_n hx hb d_Plane_wipe_11 rfl (lv_at hl 0 rfl) ?_
      refine va_get (D := D) (ci := 4) (v := .ref h_rows) (C := R_Plane) (T := F_Plane) (N := 2) hx hb htw i_Plane hown hK hP 0 rfl rfl 1 (by decide) (htw _ in47) (fun _ h9 => h9) rfl d_Plane_wipe_12 ?_
      refine lv_iload_n hx hb d_Plane_wipe_15 rfl (lv_at hl 1 rfl) ?_
      refine lv_iconst (v := 0) hx hb d_Plane_wipe_16 (by decide) ?_
      by_cases g17 : x1 < 0 ∨ n_rows ≤ x1.toNatClampNeg
      · exact no_some (it_t hf g17)
      have hf := it_f hf g17
      refine va_iast hx hb hK hP hD hS 1 0 rfl rfl g17 d_Plane_wipe_17 (fun H locs hP hD hS => ?_)
      have hP : va_P D classes (wd_Plane_wipe cI cZ cJ tq h0 h_rows f_width n_rows (upd g_rows x1.toNatClampNeg 0)) H := hP
      have hD : va_D A (wd_Plane_wipe cI cZ cJ tq h0 h_rows f_width n_rows (upd g_rows x1.toNatClampNeg 0)) := hD
      refine lv_iinc (v := (x1 + 1)) (lv' := [(1, .int (x1 + 1)), (0, .ref h0)]) hx hb d_Plane_wipe_18 hl (k := 1) rfl rfl (by decide) rfl (fun ls hl => ?_)
      refine lv_goto (tgt := 2) hx hb d_Plane_wipe_21 (by decide) ?_
      exact ih (x1 + 1) (upd g_rows x1.toNatClampNeg 0) _ _ ls hP hD hS (lv_sub hl [1, 0] rfl) hf
set_option maxHeartbeats 4000000 in
set_option maxRecDepth 100000 in
theorem c_Plane_wipe (l : Launch) (D : va_G) (cI cZ cJ : ClassId) (tq : Nat → Nat) (k : Nat) (h0 : Nat) (h_rows : Nat) (sz : Nat) (f_width : Int32) (n_rows : Nat) (g_rows : Nat → Int32) (o_g_rows : Nat → Int32) (hf : F_Plane_wipe k n_rows g_rows = some o_g_rows) : Met l y_Plane_wipe ws_Plane_wipe RM_Plane_wipe (va_Pc [.ref h0] (Pg D cI cZ cJ tq (wd_Plane_wipe cI cZ cJ tq h0 h_rows f_width n_rows g_rows) sz)) (qV D cI cZ cJ (va_A (wd_Plane_wipe cI cZ cJ tq h0 h_rows f_width n_rows g_rows) sz) (wd_Plane_wipe cI cZ cJ tq h0 h_rows f_width n_rows o_g_rows)) 0 0 (va_A (wd_Plane_wipe cI cZ cJ tq h0 h_rows f_width n_rows g_rows) sz) := by
  refine Met.ofW (cc := b_Plane_wipe) (maxL := 2) (ret := none) (by decide) rfl ?_
  intro p e s m args below meth c s₁ B hml hv
  obtain ⟨rfl, hsz, hP, hK, hD0, hG⟩ := hv
  have hx := B.exec
  have hb := B.bytes
  have hr := B.returns
  have htw : ∀ w ∈ W_all, w.before [.ref h0].toArray s = true := fun w h => atoms_spec (ws := ws_Plane_wipe) B.pre w (List.mem_cons_of_mem _ h)
  have hown : s.vm.findClass R_Plane = some m.cls := findClass_of_methodNamed B.named
  have hlocks := B.notSynchronized
  subst hsz
  have hD := hD0.self (sz := s.heap.size)
  generalize hAe : va_A (wd_Plane_wipe cI cZ cJ tq h0 h_rows f_width n_rows g_rows) s.heap.size = A at hD hG ⊢
  have hA : ∀ q : Nat, s.heap.size ≤ q → A q := fun q h => by rw [← hAe]; exact Or.inr h
  have hS : va_S A s.heap s.heap [] := va_S.rf
  have C0 : cx p s m meth c [.ref h0].toArray b_Plane_wipe none 2 R_Plane D cI cZ cJ tq A := ⟨hx, hb, hr, hml, hown, htw, hlocks, hK, hG⟩
  have hl := lv_entry ([.ref h0]) (n := 2) (Nat.le_of_ble_eq_true rfl)
  rw [lg_entry_eq]
  generalize (lg_sl ([.ref h0]) ++ List.replicate (2 - (lg_sl ([.ref h0])).length) Slot.unset).toArray = ls at hl ⊢
  have hl : lv_has ls 2 [(0, .ref h0)] := hl
  have hP : va_P D classes (wd_Plane_wipe cI cZ cJ tq h0 h_rows f_width n_rows g_rows) s.heap := hP
  clear hAe
  unfold F_Plane_wipe at hf
  refine lv_iconst (v := 0) hx hb d_Plane_wipe_0 (by decide) ?_
  refine lv_istore_n (lv' := [(1, .int 0), (0, .ref h0)]) hx hb d_Plane_wipe_1 rfl hl (by decide) rfl (fun ls hl => ?_)
  exact w_Plane_wipe_2 k h0 h_rows f_width n_rows o_g_rows C0 hA k 0 g_rows _ _ ls hP hD hS (lv_sub hl [1, 0] rfl) hf
-- Reader_init
abbrev RM_Reader_init : Room := { frames := 2, cells := 3, slots := 30, locals := 46 }
def ws_Reader_init : List Cond := .code y_Reader_init b_Reader_init 6 none :: W_all
def wd_Reader_init (cI cZ cJ : ClassId) (tq : Nat → Nat) (h0 : Nat) (h_a2 : Nat) (h_a3 : Nat) (h_a4 : Nat) : va_W := [(h0, .inr (5, [.int 0, .int 0, .null, .null, .null, .null, .null, .int 0, .int 0, .int 0, .int 0, .int 0, .int 0, .int 0]))]
def wdp_Reader_init (cI cZ cJ : ClassId) (tq : Nat → Nat) (h0 : Nat) (h_a2 : Nat) (h_a3 : Nat) (h_a4 : Nat) (qq : Nat → Nat) (o_f_width : Int32) (o_f_height : Int32) (o_f_bitsRead : Int32) (o_f_rowsRead : Int32) (o_f_copyBefore : Int32) (o_f_ended : Int32) (o_f_refusal : Int32) (o_f_current : Int32) (o_f_currentIsCopy : Int32) (o_f_samples_width : Int32) (o_n_samples_rows : Nat) (o_g_samples_rows : Nat → Int32) (o_f_line_width : Int32) (o_f_line_above : Int32) (o_f_line_place : Int32) (o_f_line_black : Int32) : va_W := [(h0, .inr (5, [.int o_f_width, .int o_f_height, .ref h_a2, .ref h_a3, .ref h_a4, .ref (qq 0), .ref (qq 2), .int o_f_bitsRead, .int o_f_rowsRead, .int o_f_copyBefore, .int o_f_ended, .int o_f_refusal, .int o_f_current, .int o_f_currentIsCopy])), ((qq 0), .inr (4, [.int o_f_samples_width, .ref (qq 1)])), ((qq 1), .inl (cI, o_n_samples_rows, .inl o_g_samples_rows)), ((qq 2), .inr (1, [.int o_f_line_width, .int o_f_line_above, .int o_f_line_place, .int o_f_line_black]))]
def F_Reader_init (x1 : Int32) (x2 : Int32) : Option (Int32 × Int32 × Int32 × Int32 × Int32 × Int32 × Int32 × Int32 × Int32 × Int32 × Nat × (Nat → Int32) × Int32 × Int32 × Int32 × Int32) :=
  (bd3 (F_Plane_init x1 x2) (fun w43_f_width w43_n_rows w43_g_rows => (bd4 (F_FaxLine_init x1) (fun w55_f_width w55_f_above w55_f_place w55_f_black => (some (x1, x2, 0, 0, 0, 0, (-1), 0, 0, w43_f_width, w43_n_rows, w43_g_rows, w55_f_width, w55_f_above, w55_f_place, w55_f_black))))))
set_option maxHeartbeats 4000000 in
set_option maxRecDepth 100000 in
theorem c_Reader_init (l : Launch) (D : va_G) (cI cZ cJ : ClassId) (tq : Nat → Nat) (h0 : Nat) (h_a2 : Nat) (h_a3 : Nat) (h_a4 : Nat) (sz : Nat) (x1 : Int32) (x2 : Int32) (o_f_width : Int32) (o_f_height : Int32) (o_f_bitsRead : Int32) (o_f_rowsRead : Int32) (o_f_copyBefore : Int32) (o_f_ended : Int32) (o_f_refusal : Int32) (o_f_current : Int32) (o_f_currentIsCopy : Int32) (o_f_samples_width : Int32) (o_n_samples_rows : Nat) (o_g_samples_rows : Nat → Int32) (o_f_line_width : Int32) (o_f_line_above : Int32) (o_f_line_place : Int32) (o_f_line_black : Int32) (hf : F_Reader_init x1 x2 = some (o_f_width, o_f_height, o_f_bitsRead, o_f_rowsRead, o_f_copyBefore, o_f_ended, o_f_refusal, o_f_current, o_f_currentIsCopy, o_f_samples_width, o_n_samples_rows, o_g_samples_rows, o_f_line_width, o_f_line_above, o_f_line_place, o_f_line_black)) : Met l y_Reader_init ws_Reader_init RM_Reader_init (va_Pc [.ref h0, .int x1, .int x2, .ref h_a2, .ref h_a3, .ref h_a4] (Pg D cI cZ cJ tq (wd_Reader_init cI cZ cJ tq h0 h_a2 h_a3 h_a4) sz)) (qC D cI cZ cJ (va_A (wd_Reader_init cI cZ cJ tq h0 h_a2 h_a3 h_a4) sz) (fun qq => (wdp_Reader_init cI cZ cJ tq h0 h_a2 h_a3 h_a4 qq o_f_width o_f_height o_f_bitsRead o_f_rowsRead o_f_copyBefore o_f_ended o_f_refusal o_f_current o_f_currentIsCopy o_f_samples_width o_n_samples_rows o_g_samples_rows o_f_line_width o_f_line_above o_f_line_place o_f_line_black))) 3 30 (va_A (wd_Reader_init cI cZ cJ tq h0 h_a2 h_a3 h_a4) sz) := by
  refine Met.ofW (cc := b_Reader_init) (maxL := 6) (ret := none) (by decide) rfl ?_
  intro p e s m args below meth c s₁ B hml hv
  obtain ⟨rfl, hsz, hP, hK, hD0, hG⟩ := hv
  have hx := B.exec
  have hb := B.bytes
  have hr := B.returns
  have htw : ∀ w ∈ W_all, w.before [.ref h0, .int x1, .int x2, .ref h_a2, .ref h_a3, .ref h_a4].toArray s = true := fun w h => atoms_spec (ws := ws_Reader_init) B.pre w (List.mem_cons_of_mem _ h)
  have hown : s.vm.findClass R_Reader = some m.cls := findClass_of_methodNamed B.named
  have hlocks := B.notSynchronized
  have hin : meth.name = "<init>" := (name_of_methodNamed B.named B.method).1
  subst hsz
  have hD := hD0.self (sz := s.heap.size)
  generalize hAe : va_A (wd_Reader_init cI cZ cJ tq h0 h_a2 h_a3 h_a4) s.heap.size = A at hD hG ⊢
  have hA : ∀ q : Nat, s.heap.size ≤ q → A q := fun q h => by rw [← hAe]; exact Or.inr h
  have hS : va_S A s.heap s.heap [] := va_S.rf
  have C0 : cx p s m meth c [.ref h0, .int x1, .int x2, .ref h_a2, .ref h_a3, .ref h_a4].toArray b_Reader_init none 6 R_Reader D cI cZ cJ tq A := ⟨hx, hb, hr, hml, hown, htw, hlocks, hK, hG⟩
  have hl := lv_entry ([.ref h0, .int x1, .int x2, .ref h_a2, .ref h_a3, .ref h_a4]) (n := 6) (Nat.le_of_ble_eq_true rfl)
  rw [lg_entry_eq]
  generalize (lg_sl ([.ref h0, .int x1, .int x2, .ref h_a2, .ref h_a3, .ref h_a4]) ++ List.replicate (6 - (lg_sl ([.ref h0, .int x1, .int x2, .ref h_a2, .ref h_a3, .ref h_a4])).length) Slot.unset).toArray = ls at hl ⊢
  have hl : lv_has ls 6 [(0, .ref h0), (1, .int x1), (2, .int x2), (3, .ref h_a2), (4, .ref h_a3), (5, .ref h_a4)] := hl
  have hP : va_P D classes (wd_Reader_init cI cZ cJ tq h0 h_a2 h_a3 h_a4) s.heap := hP
  clear hAe
  unfold F_Reader_init at hf
  refine lv_aload_n hx hb d_Reader_init_0 rfl (lv_at hl 0 rfl) ?_
  refine W.objInit hx hb hown (htw _ in68) (htw _ in1) (htw _ in2) rfl (by rw [hml]; exact hl.1) rfl d_Reader_init_1 (Nat.le_of_ble_eq_true rfl) (Nat.le_of_ble_eq_true rfl) ?_
  refine W.eq (g2 := F0 m 4 ls []) rfl ?_
  refine lv_aload_n hx hb d_Reader_init_4 rfl (lv_at hl 0 rfl) ?_
  refine lv_iconst (v := (-1)) hx hb d_Reader_init_5 (by decide) ?_
  refine va_put (D := D) (ci := 5) (v := .int (-1)) (ty := .int) (C := R_Reader) (T := F_Reader) (N := 14) hx hb htw i_Reader t_Reader t_Reader_ok n_Reader hown hK hP hD hS 0 rfl rfl 11 (by decide) (htw _ in69) (fun _ h9 => h9) rfl (by decide +kernel) rfl rfl (Nat.le_of_ble_eq_true rfl) d_Reader_init_6 (fun H locs hP hD hS => ?_)
  have hP : va_P D classes ([(h0, .inr (5, [.int 0, .int 0, .null, .null, .null, .null, .null, .int 0, .int 0, .int 0, .int 0, .int (-1), .int 0, .int 0]))] : va_W) H := hP
  have hD : va_D A ([(h0, .inr (5, [.int 0, .int 0, .null, .null, .null, .null, .null, .int 0, .int 0, .int 0, .int 0, .int (-1), .int 0, .int 0]))] : va_W) := hD
  refine lv_aload_n hx hb d_Reader_init_9 rfl (lv_at hl 0 rfl) ?_
  refine lv_iload_n hx hb d_Reader_init_10 rfl (lv_at hl 1 rfl) ?_
  refine va_putF (D := D) (ci := 5) (v := .int x1) (ty := .int) (C := R_Reader) (T := F_Reader) (N := 14) hx hb htw i_Reader t_Reader t_Reader_ok n_Reader hown hK hP hD hS 0 rfl rfl 0 (by decide) (htw _ in70) (fun _ h9 => h9) rfl hin rfl (by decide +kernel) rfl rfl (Nat.le_of_ble_eq_true rfl) d_Reader_init_11 (fun H locs hP hD hS => ?_)
  have hP : va_P D classes ([(h0, .inr (5, [.int x1, .int 0, .null, .null, .null, .null, .null, .int 0, .int 0, .int 0, .int 0, .int (-1), .int 0, .int 0]))] : va_W) H := hP
  have hD : va_D A ([(h0, .inr (5, [.int x1, .int 0, .null, .null, .null, .null, .null, .int 0, .int 0, .int 0, .int 0, .int (-1), .int 0, .int 0]))] : va_W) := hD
  refine lv_aload_n hx hb d_Reader_init_14 rfl (lv_at hl 0 rfl) ?_
  refine lv_iload_n hx hb d_Reader_init_15 rfl (lv_at hl 2 rfl) ?_
  refine va_putF (D := D) (ci := 5) (v := .int x2) (ty := .int) (C := R_Reader) (T := F_Reader) (N := 14) hx hb htw i_Reader t_Reader t_Reader_ok n_Reader hown hK hP hD hS 0 rfl rfl 1 (by decide) (htw _ in71) (fun _ h9 => h9) rfl hin rfl (by decide +kernel) rfl rfl (Nat.le_of_ble_eq_true rfl) d_Reader_init_16 (fun H locs hP hD hS => ?_)
  have hP : va_P D classes ([(h0, .inr (5, [.int x1, .int x2, .null, .null, .null, .null, .null, .int 0, .int 0, .int 0, .int 0, .int (-1), .int 0, .int 0]))] : va_W) H := hP
  have hD : va_D A ([(h0, .inr (5, [.int x1, .int x2, .null, .null, .null, .null, .null, .int 0, .int 0, .int 0, .int 0, .int (-1), .int 0, .int 0]))] : va_W) := hD
  refine lv_aload_n hx hb d_Reader_init_19 rfl (lv_at hl 0 rfl) ?_
  refine lv_aload_n hx hb d_Reader_init_20 rfl (lv_at hl 3 rfl) ?_
  refine va_putF (D := D) (ci := 5) (v := .ref h_a2) (ty := .object "GenericRegions$Plane") (C := R_Reader) (T := F_Reader) (N := 14) hx hb htw i_Reader t_Reader t_Reader_ok n_Reader hown hK hP hD hS 0 rfl rfl 2 (by decide) (htw _ in72) (fun _ h9 => h9) rfl hin rfl (by decide +kernel) rfl rfl (Nat.le_of_ble_eq_true rfl) d_Reader_init_21 (fun H locs hP hD hS => ?_)
  have hP : va_P D classes ([(h0, .inr (5, [.int x1, .int x2, .ref h_a2, .null, .null, .null, .null, .int 0, .int 0, .int 0, .int 0, .int (-1), .int 0, .int 0]))] : va_W) H := hP
  have hD : va_D A ([(h0, .inr (5, [.int x1, .int x2, .ref h_a2, .null, .null, .null, .null, .int 0, .int 0, .int 0, .int 0, .int (-1), .int 0, .int 0]))] : va_W) := hD
  refine lv_aload_n hx hb d_Reader_init_24 rfl (lv_at hl 0 rfl) ?_
  refine lv_aload hx hb d_Reader_init_25 (lv_at hl 4 rfl) ?_
  refine va_putF (D := D) (ci := 5) (v := .ref h_a3) (ty := .object "GenericRegions$Ways") (C := R_Reader) (T := F_Reader) (N := 14) hx hb htw i_Reader t_Reader t_Reader_ok n_Reader hown hK hP hD hS 0 rfl rfl 3 (by decide) (htw _ in73) (fun _ h9 => h9) rfl hin rfl (by decide +kernel) rfl rfl (Nat.le_of_ble_eq_true rfl) d_Reader_init_27 (fun H locs hP hD hS => ?_)
  have hP : va_P D classes ([(h0, .inr (5, [.int x1, .int x2, .ref h_a2, .ref h_a3, .null, .null, .null, .int 0, .int 0, .int 0, .int 0, .int (-1), .int 0, .int 0]))] : va_W) H := hP
  have hD : va_D A ([(h0, .inr (5, [.int x1, .int x2, .ref h_a2, .ref h_a3, .null, .null, .null, .int 0, .int 0, .int 0, .int 0, .int (-1), .int 0, .int 0]))] : va_W) := hD
  refine lv_aload_n hx hb d_Reader_init_30 rfl (lv_at hl 0 rfl) ?_
  refine lv_aload hx hb d_Reader_init_31 (lv_at hl 5 rfl) ?_
  refine va_putF (D := D) (ci := 5) (v := .ref h_a4) (ty := .object "GenericRegions$Inflow") (C := R_Reader) (T := F_Reader) (N := 14) hx hb htw i_Reader t_Reader t_Reader_ok n_Reader hown hK hP hD hS 0 rfl rfl 4 (by decide) (htw _ in74) (fun _ h9 => h9) rfl hin rfl (by decide +kernel) rfl rfl (Nat.le_of_ble_eq_true rfl) d_Reader_init_33 (fun H locs hP hD hS => ?_)
  have hP : va_P D classes ([(h0, .inr (5, [.int x1, .int x2, .ref h_a2, .ref h_a3, .ref h_a4, .null, .null, .int 0, .int 0, .int 0, .int 0, .int (-1), .int 0, .int 0]))] : va_W) H := hP
  have hD : va_D A ([(h0, .inr (5, [.int x1, .int x2, .ref h_a2, .ref h_a3, .ref h_a4, .null, .null, .int 0, .int 0, .int 0, .int 0, .int (-1), .int 0, .int 0]))] : va_W) := hD
  refine lv_aload_n hx hb d_Reader_init_36 rfl (lv_at hl 0 rfl) ?_
  refine va_new (D := D) (ci := 4) (fs := [.int 0, .null]) (C := R_Plane) (T := F_Plane) (N := 2) hx hb htw i_Plane t_Plane t_Plane_ok hown (htw _ in75) (htw _ in76) (htw _ in53) hK hP hD hS hA rfl df_Plane (Nat.le_of_ble_eq_true rfl) (Nat.le_of_ble_eq_true rfl) d_Reader_init_37 (fun q37 H hP hD hS => ?_)
  have hP : va_P D classes ([(h0, .inr (5, [.int x1, .int x2, .ref h_a2, .ref h_a3, .ref h_a4, .null, .null, .int 0, .int 0, .int 0, .int 0, .int (-1), .int 0, .int 0])), (q37, .inr (4, [.int 0, .null]))] : va_W) H := hP
  have hD : va_D A ([(h0, .inr (5, [.int x1, .int x2, .ref h_a2, .ref h_a3, .ref h_a4, .null, .null, .int 0, .int 0, .int 0, .int 0, .int (-1), .int 0, .int 0])), (q37, .inr (4, [.int 0, .null]))] : va_W) := hD
  refine lv_dup hx hb d_Reader_init_40 rfl ?_
  refine lv_iload_n hx hb d_Reader_init_41 rfl (lv_at hl 1 rfl) ?_
  refine lv_iload_n hx hb d_Reader_init_42 rfl (lv_at hl 2 rfl) ?_
  obtain ⟨w43_f_width, w43_n_rows, w43_g_rows, e43, hf⟩ := bd3_some hf
  refine g_callc (wc := (wd_Plane_init cI cZ cJ tq q37 )) (w1 := fun qq => (wdp_Plane_init cI cZ cJ tq q37 qq w43_f_width w43_n_rows w43_g_rows)) (ws' := fun qq => ([(h0, .inr (5, [.int x1, .int x2, .ref h_a2, .ref h_a3, .ref h_a4, .null, .null, .int 0, .int 0, .int 0, .int 0, .int (-1), .int 0, .int 0])), (q37, .inr (4, [.int w43_f_width, .ref (qq 0)])), ((qq 0), .inl (cI, w43_n_rows, .inl w43_g_rows))] : va_W)) (va_runI (As := [.int x1, .int x2]) (rest := [.ref q37, .ref h0]) ⟨hx, hb, hml, hown, htw⟩ (c_Plane_init l D cI cZ cJ tq q37 _  x1 x2 w43_f_width w43_n_rows w43_g_rows e43) (cwI 2 htw (gd_I in77) rfl rfl rfl (htw _ in53) (htw _ in78) (htw _ in79) rfl (by decide +kernel) ⟨Nat.le_of_ble_eq_true rfl, Nat.le_of_ble_eq_true rfl⟩) (preS_of hG hS (va_free (wc := (wd_Plane_init cI cZ cJ tq q37 )) hD hS hA [1] rfl) hK (hP.sub (ws' := (wd_Plane_init cI cZ cJ tq q37 )) [1] rfl) (hD.sub (ws' := (wd_Plane_init cI cZ cJ tq q37 )) [1] (by decide) rfl)) rfl rfl hl.1 rfl (lv_room (Nat.le_of_ble_eq_true rfl)) d_Reader_init_43 ⟨Nat.le_of_ble_eq_true rfl, Nat.le_of_ble_eq_true rfl⟩) hP hD hS hA [1] [0] [0, 1, 2] rfl rfl (by decide) (by decide) (by decide) (fun _ => rfl) (fun qq43 H locs hP hD hS => ?_)
  have hP : va_P D classes ([(h0, .inr (5, [.int x1, .int x2, .ref h_a2, .ref h_a3, .ref h_a4, .null, .null, .int 0, .int 0, .int 0, .int 0, .int (-1), .int 0, .int 0])), (q37, .inr (4, [.int w43_f_width, .ref (qq43 0)])), ((qq43 0), .inl (cI, w43_n_rows, .inl w43_g_rows))] : va_W) H := hP
  have hD : va_D A ([(h0, .inr (5, [.int x1, .int x2, .ref h_a2, .ref h_a3, .ref h_a4, .null, .null, .int 0, .int 0, .int 0, .int 0, .int (-1), .int 0, .int 0])), (q37, .inr (4, [.int w43_f_width, .ref (qq43 0)])), ((qq43 0), .inl (cI, w43_n_rows, .inl w43_g_rows))] : va_W) := hD
  refine va_putF (D := D) (ci := 5) (v := .ref q37) (ty := .object "GenericRegions$Plane") (C := R_Reader) (T := F_Reader) (N := 14) hx hb htw i_Reader t_Reader t_Reader_ok n_Reader hown hK hP hD hS 0 rfl rfl 5 (by decide) (htw _ in80) (fun _ h9 => h9) rfl hin rfl (by decide +kernel) rfl rfl (Nat.le_of_ble_eq_true rfl) d_Reader_init_46 (fun H locs hP hD hS => ?_)
  have hP : va_P D classes ([(h0, .inr (5, [.int x1, .int x2, .ref h_a2, .ref h_a3, .ref h_a4, .ref q37, .null, .int 0, .int 0, .int 0, .int 0, .int (-1), .int 0, .int 0])), (q37, .inr (4, [.int w43_f_width, .ref (qq43 0)])), ((qq43 0), .inl (cI, w43_n_rows, .inl w43_g_rows))] : va_W) H := hP
  have hD : va_D A ([(h0, .inr (5, [.int x1, .int x2, .ref h_a2, .ref h_a3, .ref h_a4, .ref q37, .null, .int 0, .int 0, .int 0, .int 0, .int (-1), .int 0, .int 0])), (q37, .inr (4, [.int w43_f_width, .ref (qq43 0)])), ((qq43 0), .inl (cI, w43_n_rows, .inl w43_g_rows))] : va_W) := hD
  refine lv_aload_n hx hb d_Reader_init_49 rfl (lv_at hl 0 rfl) ?_
  refine va_new (D := D) (ci := 1) (fs := [.int 0, .int 0, .int 0, .int 0]) (C := R_FaxLine) (T := F_FaxLine) (N := 4) hx hb htw i_FaxLine t_FaxLine t_FaxLine_ok hown (htw _ in81) (htw _ in82) (htw _ in10) hK hP hD hS hA rfl df_FaxLine (Nat.le_of_ble_eq_true rfl) (Nat.le_of_ble_eq_true rfl) d_Reader_init_50 (fun q50 H hP hD hS => ?_)
  have hP : va_P D classes ([(h0, .inr (5, [.int x1, .int x2, .ref h_a2, .ref h_a3, .ref h_a4, .ref q37, .null, .int 0, .int 0, .int 0, .int 0, .int (-1), .int 0, .int 0])), (q37, .inr (4, [.int w43_f_width, .ref (qq43 0)])), ((qq43 0), .inl (cI, w43_n_rows, .inl w43_g_rows)), (q50, .inr (1, [.int 0, .int 0, .int 0, .int 0]))] : va_W) H := hP
  have hD : va_D A ([(h0, .inr (5, [.int x1, .int x2, .ref h_a2, .ref h_a3, .ref h_a4, .ref q37, .null, .int 0, .int 0, .int 0, .int 0, .int (-1), .int 0, .int 0])), (q37, .inr (4, [.int w43_f_width, .ref (qq43 0)])), ((qq43 0), .inl (cI, w43_n_rows, .inl w43_g_rows)), (q50, .inr (1, [.int 0, .int 0, .int 0, .int 0]))] : va_W) := hD
  refine lv_dup hx hb d_Reader_init_53 rfl ?_
  refine lv_iload_n hx hb d_Reader_init_54 rfl (lv_at hl 1 rfl) ?_
  obtain ⟨w55_f_width, w55_f_above, w55_f_place, w55_f_black, e55, hf⟩ := bd4_some hf
  refine g_callc (wc := (wd_FaxLine_init cI cZ cJ tq q50 )) (w1 := fun qq => (wdp_FaxLine_init cI cZ cJ tq q50 qq w55_f_width w55_f_above w55_f_place w55_f_black)) (ws' := fun qq => ([(h0, .inr (5, [.int x1, .int x2, .ref h_a2, .ref h_a3, .ref h_a4, .ref q37, .null, .int 0, .int 0, .int 0, .int 0, .int (-1), .int 0, .int 0])), (q37, .inr (4, [.int w43_f_width, .ref (qq43 0)])), ((qq43 0), .inl (cI, w43_n_rows, .inl w43_g_rows)), (q50, .inr (1, [.int w55_f_width, .int w55_f_above, .int w55_f_place, .int w55_f_black]))] : va_W)) (va_runI (As := [.int x1]) (rest := [.ref q50, .ref h0]) ⟨hx, hb, hml, hown, htw⟩ (c_FaxLine_init l D cI cZ cJ tq q50 _  x1 w55_f_width w55_f_above w55_f_place w55_f_black e55) (cwI 1 htw (gd_I in83) rfl rfl rfl (htw _ in10) (htw _ in84) (htw _ in85) rfl (by decide +kernel) ⟨Nat.le_of_ble_eq_true rfl, Nat.le_of_ble_eq_true rfl⟩) (preS_of hG hS (va_free (wc := (wd_FaxLine_init cI cZ cJ tq q50 )) hD hS hA [3] rfl) hK (hP.sub (ws' := (wd_FaxLine_init cI cZ cJ tq q50 )) [3] rfl) (hD.sub (ws' := (wd_FaxLine_init cI cZ cJ tq q50 )) [3] (by decide) rfl)) rfl rfl hl.1 rfl (lv_room (Nat.le_of_ble_eq_true rfl)) d_Reader_init_55 ⟨Nat.le_of_ble_eq_true rfl, Nat.le_of_ble_eq_true rfl⟩) hP hD hS hA [3] [0, 1, 2] [0, 1, 2, 3] rfl rfl (by decide) (by decide) (by decide) (fun _ => rfl) (fun qq55 H locs hP hD hS => ?_)
  have hP : va_P D classes ([(h0, .inr (5, [.int x1, .int x2, .ref h_a2, .ref h_a3, .ref h_a4, .ref q37, .null, .int 0, .int 0, .int 0, .int 0, .int (-1), .int 0, .int 0])), (q37, .inr (4, [.int w43_f_width, .ref (qq43 0)])), ((qq43 0), .inl (cI, w43_n_rows, .inl w43_g_rows)), (q50, .inr (1, [.int w55_f_width, .int w55_f_above, .int w55_f_place, .int w55_f_black]))] : va_W) H := hP
  have hD : va_D A ([(h0, .inr (5, [.int x1, .int x2, .ref h_a2, .ref h_a3, .ref h_a4, .ref q37, .null, .int 0, .int 0, .int 0, .int 0, .int (-1), .int 0, .int 0])), (q37, .inr (4, [.int w43_f_width, .ref (qq43 0)])), ((qq43 0), .inl (cI, w43_n_rows, .inl w43_g_rows)), (q50, .inr (1, [.int w55_f_width, .int w55_f_above, .int w55_f_place, .int w55_f_black]))] : va_W) := hD
  refine va_putF (D := D) (ci := 5) (v := .ref q50) (ty := .object "GenericRegions$FaxLine") (C := R_Reader) (T := F_Reader) (N := 14) hx hb htw i_Reader t_Reader t_Reader_ok n_Reader hown hK hP hD hS 0 rfl rfl 6 (by decide) (htw _ in86) (fun _ h9 => h9) rfl hin rfl (by decide +kernel) rfl rfl (Nat.le_of_ble_eq_true rfl) d_Reader_init_58 (fun H locs hP hD hS => ?_)
  have hP : va_P D classes ([(h0, .inr (5, [.int x1, .int x2, .ref h_a2, .ref h_a3, .ref h_a4, .ref q37, .ref q50, .int 0, .int 0, .int 0, .int 0, .int (-1), .int 0, .int 0])), (q37, .inr (4, [.int w43_f_width, .ref (qq43 0)])), ((qq43 0), .inl (cI, w43_n_rows, .inl w43_g_rows)), (q50, .inr (1, [.int w55_f_width, .int w55_f_above, .int w55_f_place, .int w55_f_black]))] : va_W) H := hP
  have hD : va_D A ([(h0, .inr (5, [.int x1, .int x2, .ref h_a2, .ref h_a3, .ref h_a4, .ref q37, .ref q50, .int 0, .int 0, .int 0, .int 0, .int (-1), .int 0, .int 0])), (q37, .inr (4, [.int w43_f_width, .ref (qq43 0)])), ((qq43 0), .inl (cI, w43_n_rows, .inl w43_g_rows)), (q50, .inr (1, [.int w55_f_width, .int w55_f_above, .int w55_f_place, .int w55_f_black]))] : va_W) := hD
  obtain ⟨e0, e1, e2, e3, e4, e5, e6, e7, e8, e9, e10, e11, e12, e13, e14, e15⟩ := so16 hf
  subst e0; subst e1; subst e2; subst e3; subst e4; subst e5; subst e6; subst e7; subst e8; subst e9; subst e10; subst e11; subst e12; subst e13; subst e14; subst e15
  exact W.vret hx hb hr (fun t ht hW => ⟨⟨(fun k => [q37, (qq43 0), q50].getD k 0), rfl, trivial, by rw [ht]; exact hP, va_K.moved hW.alike hK, hD⟩, hS.F ht⟩) hS.2.2 d_Reader_init_61 hlocks
-- Reader_restart
abbrev RM_Reader_restart : Room := { frames := 1, cells := 0, slots := 0, locals := 21 }
def ws_Reader_restart : List Cond := .code y_Reader_restart b_Reader_restart 1 none :: W_all
def wd_Reader_restart (cI cZ cJ : ClassId) (tq : Nat → Nat) (h0 : Nat) (h_samples : Nat) (h_samples_rows : Nat) (h_skips : Nat) (h_ways : Nat) (h_inflow : Nat) (h_line : Nat) (f_width : Int32) (f_height : Int32) (f_bitsRead : Int32) (f_rowsRead : Int32) (f_copyBefore : Int32) (f_ended : Int32) (f_refusal : Int32) (f_current : Int32) (f_currentIsCopy : Int32) (f_samples_width : Int32) (n_samples_rows : Nat) (g_samples_rows : Nat → Int32) : va_W := [(h0, .inr (5, [.int f_width, .int f_height, .ref h_skips, .ref h_ways, .ref h_inflow, .ref h_samples, .ref h_line, .int f_bitsRead, .int f_rowsRead, .int f_copyBefore, .int f_ended, .int f_refusal, .int f_current, .int f_currentIsCopy])), (h_samples, .inr (4, [.int f_samples_width, .ref h_samples_rows])), (h_samples_rows, .inl (cI, n_samples_rows, .inl g_samples_rows))]
def F_Reader_restart (k : Nat) (f_bitsRead : Int32) (f_rowsRead : Int32) (f_copyBefore : Int32) (f_ended : Int32) (f_refusal : Int32) (n_samples_rows : Nat) (g_samples_rows : Nat → Int32) : Option (Int32 × Int32 × Int32 × Int32 × Int32 × (Nat → Int32)) :=
  (bd1 (F_Plane_wipe k n_samples_rows g_samples_rows) (fun w4_g_rows => (some (0, 0, 0, 0, (-1), w4_g_rows))))
set_option maxHeartbeats 4000000 in
set_option maxRecDepth 100000 in
theorem c_Reader_restart (l : Launch) (D : va_G) (cI cZ cJ : ClassId) (tq : Nat → Nat) (k : Nat) (h0 : Nat) (h_samples : Nat) (h_samples_rows : Nat) (h_skips : Nat) (h_ways : Nat) (h_inflow : Nat) (h_line : Nat) (sz : Nat) (f_width : Int32) (f_height : Int32) (f_bitsRead : Int32) (f_rowsRead : Int32) (f_copyBefore : Int32) (f_ended : Int32) (f_refusal : Int32) (f_current : Int32) (f_currentIsCopy : Int32) (f_samples_width : Int32) (n_samples_rows : Nat) (g_samples_rows : Nat → Int32) (o_f_bitsRead : Int32) (o_f_rowsRead : Int32) (o_f_copyBefore : Int32) (o_f_ended : Int32) (o_f_refusal : Int32) (o_g_samples_rows : Nat → Int32) (hf : F_Reader_restart k f_bitsRead f_rowsRead f_copyBefore f_ended f_refusal n_samples_rows g_samples_rows = some (o_f_bitsRead, o_f_rowsRead, o_f_copyBefore, o_f_ended, o_f_refusal, o_g_samples_rows)) : Met l y_Reader_restart ws_Reader_restart RM_Reader_restart (va_Pc [.ref h0] (Pg D cI cZ cJ tq (wd_Reader_restart cI cZ cJ tq h0 h_samples h_samples_rows h_skips h_ways h_inflow h_line f_width f_height f_bitsRead f_rowsRead f_copyBefore f_ended f_refusal f_current f_currentIsCopy f_samples_width n_samples_rows g_samples_rows) sz)) (qV D cI cZ cJ (va_A (wd_Reader_restart cI cZ cJ tq h0 h_samples h_samples_rows h_skips h_ways h_inflow h_line f_width f_height f_bitsRead f_rowsRead f_copyBefore f_ended f_refusal f_current f_currentIsCopy f_samples_width n_samples_rows g_samples_rows) sz) (wd_Reader_restart cI cZ cJ tq h0 h_samples h_samples_rows h_skips h_ways h_inflow h_line f_width f_height o_f_bitsRead o_f_rowsRead o_f_copyBefore o_f_ended o_f_refusal f_current f_currentIsCopy f_samples_width n_samples_rows o_g_samples_rows)) 0 0 (va_A (wd_Reader_restart cI cZ cJ tq h0 h_samples h_samples_rows h_skips h_ways h_inflow h_line f_width f_height f_bitsRead f_rowsRead f_copyBefore f_ended f_refusal f_current f_currentIsCopy f_samples_width n_samples_rows g_samples_rows) sz) := by
  refine Met.ofW (cc := b_Reader_restart) (maxL := 1) (ret := none) (by decide) rfl ?_
  intro p e s m args below meth c s₁ B hml hv
  obtain ⟨rfl, hsz, hP, hK, hD0, hG⟩ := hv
  have hx := B.exec
  have hb := B.bytes
  have hr := B.returns
  have htw : ∀ w ∈ W_all, w.before [.ref h0].toArray s = true := fun w h => atoms_spec (ws := ws_Reader_restart) B.pre w (List.mem_cons_of_mem _ h)
  have hown : s.vm.findClass R_Reader = some m.cls := findClass_of_methodNamed B.named
  have hlocks := B.notSynchronized
  subst hsz
  have hD := hD0.self (sz := s.heap.size)
  generalize hAe : va_A (wd_Reader_restart cI cZ cJ tq h0 h_samples h_samples_rows h_skips h_ways h_inflow h_line f_width f_height f_bitsRead f_rowsRead f_copyBefore f_ended f_refusal f_current f_currentIsCopy f_samples_width n_samples_rows g_samples_rows) s.heap.size = A at hD hG ⊢
  have hA : ∀ q : Nat, s.heap.size ≤ q → A q := fun q h => by rw [← hAe]; exact Or.inr h
  have hS : va_S A s.heap s.heap [] := va_S.rf
  have C0 : cx p s m meth c [.ref h0].toArray b_Reader_restart none 1 R_Reader D cI cZ cJ tq A := ⟨hx, hb, hr, hml, hown, htw, hlocks, hK, hG⟩
  have hl := lv_entry ([.ref h0]) (n := 1) (Nat.le_of_ble_eq_true rfl)
  rw [lg_entry_eq]
  generalize (lg_sl ([.ref h0]) ++ List.replicate (1 - (lg_sl ([.ref h0])).length) Slot.unset).toArray = ls at hl ⊢
  have hl : lv_has ls 1 [(0, .ref h0)] := hl
  have hP : va_P D classes (wd_Reader_restart cI cZ cJ tq h0 h_samples h_samples_rows h_skips h_ways h_inflow h_line f_width f_height f_bitsRead f_rowsRead f_copyBefore f_ended f_refusal f_current f_currentIsCopy f_samples_width n_samples_rows g_samples_rows) s.heap := hP
  clear hAe
  unfold F_Reader_restart at hf
  refine lv_aload_n hx hb d_Reader_restart_0 rfl (lv_at hl 0 rfl) ?_
  refine va_get (D := D) (ci := 5) (v := .ref h_samples) (C := R_Reader) (T := F_Reader) (N := 14) hx hb htw i_Reader hown hK hP 0 rfl rfl 5 (by decide) (htw _ in80) (fun _ h9 => h9) rfl d_Reader_restart_1 ?_
  obtain ⟨w4_g_rows, e4, hf⟩ := bd1_some hf
  refine g_callv (wc := (wd_Plane_wipe cI cZ cJ tq h_samples h_samples_rows f_samples_width n_samples_rows g_samples_rows)) (w1 := (wd_Plane_wipe cI cZ cJ tq h_samples h_samples_rows f_samples_width n_samples_rows w4_g_rows)) (ws' := (wd_Reader_restart cI cZ cJ tq h0 h_samples h_samples_rows h_skips h_ways h_inflow h_line f_width f_height f_bitsRead f_rowsRead f_copyBefore f_ended f_refusal f_current f_currentIsCopy f_samples_width n_samples_rows w4_g_rows)) (va_runV (As := []) (rest := []) ⟨hx, hb, hml, hown, htw⟩ (c_Plane_wipe l D cI cZ cJ tq k h_samples h_samples_rows _ f_samples_width n_samples_rows g_samples_rows w4_g_rows e4) (cwV 0 htw (gd_V in88 in89 in90 in53 in87) rfl rfl rfl (by decide +kernel) ⟨Nat.le_of_ble_eq_true rfl, Nat.le_of_ble_eq_true rfl⟩) (preV_of (ci := 4) (q0 := 1) hG hS (va_free (wc := (wd_Plane_wipe cI cZ cJ tq h_samples h_samples_rows f_samples_width n_samples_rows g_samples_rows)) hD hS hA [1, 2] rfl) hK hP rfl rfl (hP.sub (ws' := (wd_Plane_wipe cI cZ cJ tq h_samples h_samples_rows f_samples_width n_samples_rows g_samples_rows)) [1, 2] rfl) (hD.sub (ws' := (wd_Plane_wipe cI cZ cJ tq h_samples h_samples_rows f_samples_width n_samples_rows g_samples_rows)) [1, 2] (by decide) rfl)) rfl rfl hl.1 rfl (lv_room (Nat.le_of_ble_eq_true rfl)) d_Reader_restart_4 ⟨Nat.le_of_ble_eq_true rfl, Nat.le_of_ble_eq_true rfl⟩) hP hD hS hA [1, 2] [0] [0, 1, 2] rfl rfl (by decide) (by decide) (by decide) rfl (fun H locs hP hD hS => ?_)
  refine lv_aload_n hx hb d_Reader_restart_7 rfl (lv_at hl 0 rfl) ?_
  refine lv_iconst (v := 0) hx hb d_Reader_restart_8 (by decide) ?_
  refine va_put (D := D) (ci := 5) (v := .int 0) (ty := .int) (C := R_Reader) (T := F_Reader) (N := 14) hx hb htw i_Reader t_Reader t_Reader_ok n_Reader hown hK hP hD hS 0 rfl rfl 7 (by decide) (htw _ in91) (fun _ h9 => h9) rfl (by decide +kernel) rfl rfl (Nat.le_of_ble_eq_true rfl) d_Reader_restart_9 (fun H locs hP hD hS => ?_)
  have hP : va_P D classes (wd_Reader_restart cI cZ cJ tq h0 h_samples h_samples_rows h_skips h_ways h_inflow h_line f_width f_height 0 f_rowsRead f_copyBefore f_ended f_refusal f_current f_currentIsCopy f_samples_width n_samples_rows w4_g_rows) H := hP
  have hD : va_D A (wd_Reader_restart cI cZ cJ tq h0 h_samples h_samples_rows h_skips h_ways h_inflow h_line f_width f_height 0 f_rowsRead f_copyBefore f_ended f_refusal f_current f_currentIsCopy f_samples_width n_samples_rows w4_g_rows) := hD
  refine lv_aload_n hx hb d_Reader_restart_12 rfl (lv_at hl 0 rfl) ?_
  refine lv_iconst (v := 0) hx hb d_Reader_restart_13 (by decide) ?_
  refine va_put (D := D) (ci := 5) (v := .int 0) (ty := .int) (C := R_Reader) (T := F_Reader) (N := 14) hx hb htw i_Reader t_Reader t_Reader_ok n_Reader hown hK hP hD hS 0 rfl rfl 8 (by decide) (htw _ in92) (fun _ h9 => h9) rfl (by decide +kernel) rfl rfl (Nat.le_of_ble_eq_true rfl) d_Reader_restart_14 (fun H locs hP hD hS => ?_)
  have hP : va_P D classes (wd_Reader_restart cI cZ cJ tq h0 h_samples h_samples_rows h_skips h_ways h_inflow h_line f_width f_height 0 0 f_copyBefore f_ended f_refusal f_current f_currentIsCopy f_samples_width n_samples_rows w4_g_rows) H := hP
  have hD : va_D A (wd_Reader_restart cI cZ cJ tq h0 h_samples h_samples_rows h_skips h_ways h_inflow h_line f_width f_height 0 0 f_copyBefore f_ended f_refusal f_current f_currentIsCopy f_samples_width n_samples_rows w4_g_rows) := hD
  refine lv_aload_n hx hb d_Reader_restart_17 rfl (lv_at hl 0 rfl) ?_
  refine lv_iconst (v := 0) hx hb d_Reader_restart_18 (by decide) ?_
  refine va_put (D := D) (ci := 5) (v := .int 0) (ty := .boolean) (C := R_Reader) (T := F_Reader) (N := 14) hx hb htw i_Reader t_Reader t_Reader_ok n_Reader hown hK hP hD hS 0 rfl rfl 9 (by decide) (htw _ in93) (fun _ h9 => h9) rfl (by decide +kernel) rfl rfl (Nat.le_of_ble_eq_true rfl) d_Reader_restart_19 (fun H locs hP hD hS => ?_)
  have hP : va_P D classes (wd_Reader_restart cI cZ cJ tq h0 h_samples h_samples_rows h_skips h_ways h_inflow h_line f_width f_height 0 0 0 f_ended f_refusal f_current f_currentIsCopy f_samples_width n_samples_rows w4_g_rows) H := hP
  have hD : va_D A (wd_Reader_restart cI cZ cJ tq h0 h_samples h_samples_rows h_skips h_ways h_inflow h_line f_width f_height 0 0 0 f_ended f_refusal f_current f_currentIsCopy f_samples_width n_samples_rows w4_g_rows) := hD
  refine lv_aload_n hx hb d_Reader_restart_22 rfl (lv_at hl 0 rfl) ?_
  refine lv_iconst (v := 0) hx hb d_Reader_restart_23 (by decide) ?_
  refine va_put (D := D) (ci := 5) (v := .int 0) (ty := .boolean) (C := R_Reader) (T := F_Reader) (N := 14) hx hb htw i_Reader t_Reader t_Reader_ok n_Reader hown hK hP hD hS 0 rfl rfl 10 (by decide) (htw _ in94) (fun _ h9 => h9) rfl (by decide +kernel) rfl rfl (Nat.le_of_ble_eq_true rfl) d_Reader_restart_24 (fun H locs hP hD hS => ?_)
  have hP : va_P D classes (wd_Reader_restart cI cZ cJ tq h0 h_samples h_samples_rows h_skips h_ways h_inflow h_line f_width f_height 0 0 0 0 f_refusal f_current f_currentIsCopy f_samples_width n_samples_rows w4_g_rows) H := hP
  have hD : va_D A (wd_Reader_restart cI cZ cJ tq h0 h_samples h_samples_rows h_skips h_ways h_inflow h_line f_width f_height 0 0 0 0 f_refusal f_current f_currentIsCopy f_samples_width n_samples_rows w4_g_rows) := hD
  refine lv_aload_n hx hb d_Reader_restart_27 rfl (lv_at hl 0 rfl) ?_
  refine lv_iconst (v := (-1)) hx hb d_Reader_restart_28 (by decide) ?_
  refine va_put (D := D) (ci := 5) (v := .int (-1)) (ty := .int) (C := R_Reader) (T := F_Reader) (N := 14) hx hb htw i_Reader t_Reader t_Reader_ok n_Reader hown hK hP hD hS 0 rfl rfl 11 (by decide) (htw _ in69) (fun _ h9 => h9) rfl (by decide +kernel) rfl rfl (Nat.le_of_ble_eq_true rfl) d_Reader_restart_29 (fun H locs hP hD hS => ?_)
  have hP : va_P D classes (wd_Reader_restart cI cZ cJ tq h0 h_samples h_samples_rows h_skips h_ways h_inflow h_line f_width f_height 0 0 0 0 (-1) f_current f_currentIsCopy f_samples_width n_samples_rows w4_g_rows) H := hP
  have hD : va_D A (wd_Reader_restart cI cZ cJ tq h0 h_samples h_samples_rows h_skips h_ways h_inflow h_line f_width f_height 0 0 0 0 (-1) f_current f_currentIsCopy f_samples_width n_samples_rows w4_g_rows) := hD
  obtain ⟨e0, e1, e2, e3, e4, e5⟩ := so6 hf
  subst e0; subst e1; subst e2; subst e3; subst e4; subst e5
  exact W.vret hx hb hr (fun t ht hW => ⟨⟨(), rfl, trivial, by rw [ht]; exact hP, va_K.moved hW.alike hK, hD⟩, hS.F ht⟩) hS.2.2 d_Reader_restart_32 hlocks
-- Reader_bitsRead
abbrev RM_Reader_bitsRead : Room := { frames := 0, cells := 0, slots := 0, locals := 0 }
def ws_Reader_bitsRead : List Cond := .code y_Reader_bitsRead b_Reader_bitsRead 1 (some .int) :: W_all
def wd_Reader_bitsRead (cI cZ cJ : ClassId) (tq : Nat → Nat) (h0 : Nat) (h_skips : Nat) (h_ways : Nat) (h_inflow : Nat) (h_samples : Nat) (h_line : Nat) (f_width : Int32) (f_height : Int32) (f_bitsRead : Int32) (f_rowsRead : Int32) (f_copyBefore : Int32) (f_ended : Int32) (f_refusal : Int32) (f_current : Int32) (f_currentIsCopy : Int32) : va_W := [(h0, .inr (5, [.int f_width, .int f_height, .ref h_skips, .ref h_ways, .ref h_inflow, .ref h_samples, .ref h_line, .int f_bitsRead, .int f_rowsRead, .int f_copyBefore, .int f_ended, .int f_refusal, .int f_current, .int f_currentIsCopy]))]
def F_Reader_bitsRead (f_bitsRead : Int32) : Option (Int32) :=
  (some f_bitsRead)
set_option maxHeartbeats 4000000 in
set_option maxRecDepth 100000 in
theorem c_Reader_bitsRead (l : Launch) (D : va_G) (cI cZ cJ : ClassId) (tq : Nat → Nat) (h0 : Nat) (h_skips : Nat) (h_ways : Nat) (h_inflow : Nat) (h_samples : Nat) (h_line : Nat) (sz : Nat) (f_width : Int32) (f_height : Int32) (f_bitsRead : Int32) (f_rowsRead : Int32) (f_copyBefore : Int32) (f_ended : Int32) (f_refusal : Int32) (f_current : Int32) (f_currentIsCopy : Int32) (o_r : Int32) (hf : F_Reader_bitsRead f_bitsRead = some o_r) : Met l y_Reader_bitsRead ws_Reader_bitsRead RM_Reader_bitsRead (va_Pc [.ref h0] (Pg D cI cZ cJ tq (wd_Reader_bitsRead cI cZ cJ tq h0 h_skips h_ways h_inflow h_samples h_line f_width f_height f_bitsRead f_rowsRead f_copyBefore f_ended f_refusal f_current f_currentIsCopy) sz)) (qI D cI cZ cJ (va_A (wd_Reader_bitsRead cI cZ cJ tq h0 h_skips h_ways h_inflow h_samples h_line f_width f_height f_bitsRead f_rowsRead f_copyBefore f_ended f_refusal f_current f_currentIsCopy) sz) o_r (wd_Reader_bitsRead cI cZ cJ tq h0 h_skips h_ways h_inflow h_samples h_line f_width f_height f_bitsRead f_rowsRead f_copyBefore f_ended f_refusal f_current f_currentIsCopy)) 0 0 (va_A (wd_Reader_bitsRead cI cZ cJ tq h0 h_skips h_ways h_inflow h_samples h_line f_width f_height f_bitsRead f_rowsRead f_copyBefore f_ended f_refusal f_current f_currentIsCopy) sz) := by
  refine Met.ofW (cc := b_Reader_bitsRead) (maxL := 1) (ret := (some .int)) (by decide) rfl ?_
  intro p e s m args below meth c s₁ B hml hv
  obtain ⟨rfl, hsz, hP, hK, hD0, hG⟩ := hv
  have hx := B.exec
  have hb := B.bytes
  have hr := B.returns
  have htw : ∀ w ∈ W_all, w.before [.ref h0].toArray s = true := fun w h => atoms_spec (ws := ws_Reader_bitsRead) B.pre w (List.mem_cons_of_mem _ h)
  have hown : s.vm.findClass R_Reader = some m.cls := findClass_of_methodNamed B.named
  have hlocks := B.notSynchronized
  subst hsz
  have hD := hD0.self (sz := s.heap.size)
  generalize hAe : va_A (wd_Reader_bitsRead cI cZ cJ tq h0 h_skips h_ways h_inflow h_samples h_line f_width f_height f_bitsRead f_rowsRead f_copyBefore f_ended f_refusal f_current f_currentIsCopy) s.heap.size = A at hD hG ⊢
  have hA : ∀ q : Nat, s.heap.size ≤ q → A q := fun q h => by rw [← hAe]; exact Or.inr h
  have hS : va_S A s.heap s.heap [] := va_S.rf
  have C0 : cx p s m meth c [.ref h0].toArray b_Reader_bitsRead (some .int) 1 R_Reader D cI cZ cJ tq A := ⟨hx, hb, hr, hml, hown, htw, hlocks, hK, hG⟩
  have hl := lv_entry ([.ref h0]) (n := 1) (Nat.le_of_ble_eq_true rfl)
  rw [lg_entry_eq]
  generalize (lg_sl ([.ref h0]) ++ List.replicate (1 - (lg_sl ([.ref h0])).length) Slot.unset).toArray = ls at hl ⊢
  have hl : lv_has ls 1 [(0, .ref h0)] := hl
  have hP : va_P D classes (wd_Reader_bitsRead cI cZ cJ tq h0 h_skips h_ways h_inflow h_samples h_line f_width f_height f_bitsRead f_rowsRead f_copyBefore f_ended f_refusal f_current f_currentIsCopy) s.heap := hP
  clear hAe
  unfold F_Reader_bitsRead at hf
  refine lv_aload_n hx hb d_Reader_bitsRead_0 rfl (lv_at hl 0 rfl) ?_
  refine va_get (D := D) (ci := 5) (v := .int f_bitsRead) (C := R_Reader) (T := F_Reader) (N := 14) hx hb htw i_Reader hown hK hP 0 rfl rfl 7 (by decide) (htw _ in91) (fun _ h9 => h9) rfl d_Reader_bitsRead_1 ?_
  have e0 := Option.some.inj hf
  subst e0
  exact W.iret (v := f_bitsRead) hx hb hr (fun t ht hW => ⟨⟨_, (), rfl, rfl, by rw [ht]; exact hP, va_K.moved hW.alike hK, hD⟩, hS.F ht⟩) hS.2.2 d_Reader_bitsRead_4 hlocks
-- Reader_rowsRead
abbrev RM_Reader_rowsRead : Room := { frames := 0, cells := 0, slots := 0, locals := 0 }
def ws_Reader_rowsRead : List Cond := .code y_Reader_rowsRead b_Reader_rowsRead 1 (some .int) :: W_all
def wd_Reader_rowsRead (cI cZ cJ : ClassId) (tq : Nat → Nat) (h0 : Nat) (h_skips : Nat) (h_ways : Nat) (h_inflow : Nat) (h_samples : Nat) (h_line : Nat) (f_width : Int32) (f_height : Int32) (f_bitsRead : Int32) (f_rowsRead : Int32) (f_copyBefore : Int32) (f_ended : Int32) (f_refusal : Int32) (f_current : Int32) (f_currentIsCopy : Int32) : va_W := [(h0, .inr (5, [.int f_width, .int f_height, .ref h_skips, .ref h_ways, .ref h_inflow, .ref h_samples, .ref h_line, .int f_bitsRead, .int f_rowsRead, .int f_copyBefore, .int f_ended, .int f_refusal, .int f_current, .int f_currentIsCopy]))]
def F_Reader_rowsRead (f_rowsRead : Int32) : Option (Int32) :=
  (some f_rowsRead)
set_option maxHeartbeats 4000000 in
set_option maxRecDepth 100000 in
theorem c_Reader_rowsRead (l : Launch) (D : va_G) (cI cZ cJ : ClassId) (tq : Nat → Nat) (h0 : Nat) (h_skips : Nat) (h_ways : Nat) (h_inflow : Nat) (h_samples : Nat) (h_line : Nat) (sz : Nat) (f_width : Int32) (f_height : Int32) (f_bitsRead : Int32) (f_rowsRead : Int32) (f_copyBefore : Int32) (f_ended : Int32) (f_refusal : Int32) (f_current : Int32) (f_currentIsCopy : Int32) (o_r : Int32) (hf : F_Reader_rowsRead f_rowsRead = some o_r) : Met l y_Reader_rowsRead ws_Reader_rowsRead RM_Reader_rowsRead (va_Pc [.ref h0] (Pg D cI cZ cJ tq (wd_Reader_rowsRead cI cZ cJ tq h0 h_skips h_ways h_inflow h_samples h_line f_width f_height f_bitsRead f_rowsRead f_copyBefore f_ended f_refusal f_current f_currentIsCopy) sz)) (qI D cI cZ cJ (va_A (wd_Reader_rowsRead cI cZ cJ tq h0 h_skips h_ways h_inflow h_samples h_line f_width f_height f_bitsRead f_rowsRead f_copyBefore f_ended f_refusal f_current f_currentIsCopy) sz) o_r (wd_Reader_rowsRead cI cZ cJ tq h0 h_skips h_ways h_inflow h_samples h_line f_width f_height f_bitsRead f_rowsRead f_copyBefore f_ended f_refusal f_current f_currentIsCopy)) 0 0 (va_A (wd_Reader_rowsRead cI cZ cJ tq h0 h_skips h_ways h_inflow h_samples h_line f_width f_height f_bitsRead f_rowsRead f_copyBefore f_ended f_refusal f_current f_currentIsCopy) sz) := by
  refine Met.ofW (cc := b_Reader_rowsRead) (maxL := 1) (ret := (some .int)) (by decide) rfl ?_
  intro p e s m args below meth c s₁ B hml hv
  obtain ⟨rfl, hsz, hP, hK, hD0, hG⟩ := hv
  have hx := B.exec
  have hb := B.bytes
  have hr := B.returns
  have htw : ∀ w ∈ W_all, w.before [.ref h0].toArray s = true := fun w h => atoms_spec (ws := ws_Reader_rowsRead) B.pre w (List.mem_cons_of_mem _ h)
  have hown : s.vm.findClass R_Reader = some m.cls := findClass_of_methodNamed B.named
  have hlocks := B.notSynchronized
  subst hsz
  have hD := hD0.self (sz := s.heap.size)
  generalize hAe : va_A (wd_Reader_rowsRead cI cZ cJ tq h0 h_skips h_ways h_inflow h_samples h_line f_width f_height f_bitsRead f_rowsRead f_copyBefore f_ended f_refusal f_current f_currentIsCopy) s.heap.size = A at hD hG ⊢
  have hA : ∀ q : Nat, s.heap.size ≤ q → A q := fun q h => by rw [← hAe]; exact Or.inr h
  have hS : va_S A s.heap s.heap [] := va_S.rf
  have C0 : cx p s m meth c [.ref h0].toArray b_Reader_rowsRead (some .int) 1 R_Reader D cI cZ cJ tq A := ⟨hx, hb, hr, hml, hown, htw, hlocks, hK, hG⟩
  have hl := lv_entry ([.ref h0]) (n := 1) (Nat.le_of_ble_eq_true rfl)
  rw [lg_entry_eq]
  generalize (lg_sl ([.ref h0]) ++ List.replicate (1 - (lg_sl ([.ref h0])).length) Slot.unset).toArray = ls at hl ⊢
  have hl : lv_has ls 1 [(0, .ref h0)] := hl
  have hP : va_P D classes (wd_Reader_rowsRead cI cZ cJ tq h0 h_skips h_ways h_inflow h_samples h_line f_width f_height f_bitsRead f_rowsRead f_copyBefore f_ended f_refusal f_current f_currentIsCopy) s.heap := hP
  clear hAe
  unfold F_Reader_rowsRead at hf
  refine lv_aload_n hx hb d_Reader_rowsRead_0 rfl (lv_at hl 0 rfl) ?_
  refine va_get (D := D) (ci := 5) (v := .int f_rowsRead) (C := R_Reader) (T := F_Reader) (N := 14) hx hb htw i_Reader hown hK hP 0 rfl rfl 8 (by decide) (htw _ in92) (fun _ h9 => h9) rfl d_Reader_rowsRead_1 ?_
  have e0 := Option.some.inj hf
  subst e0
  exact W.iret (v := f_rowsRead) hx hb hr (fun t ht hW => ⟨⟨_, (), rfl, rfl, by rw [ht]; exact hP, va_K.moved hW.alike hK, hD⟩, hS.F ht⟩) hS.2.2 d_Reader_rowsRead_4 hlocks
-- Reader_hasEnded
abbrev RM_Reader_hasEnded : Room := { frames := 0, cells := 0, slots := 0, locals := 0 }
def ws_Reader_hasEnded : List Cond := .code y_Reader_hasEnded b_Reader_hasEnded 1 (some .boolean) :: W_all
def wd_Reader_hasEnded (cI cZ cJ : ClassId) (tq : Nat → Nat) (h0 : Nat) (h_skips : Nat) (h_ways : Nat) (h_inflow : Nat) (h_samples : Nat) (h_line : Nat) (f_width : Int32) (f_height : Int32) (f_bitsRead : Int32) (f_rowsRead : Int32) (f_copyBefore : Int32) (f_ended : Int32) (f_refusal : Int32) (f_current : Int32) (f_currentIsCopy : Int32) : va_W := [(h0, .inr (5, [.int f_width, .int f_height, .ref h_skips, .ref h_ways, .ref h_inflow, .ref h_samples, .ref h_line, .int f_bitsRead, .int f_rowsRead, .int f_copyBefore, .int f_ended, .int f_refusal, .int f_current, .int f_currentIsCopy]))]
def F_Reader_hasEnded (f_ended : Int32) : Option (Int32) :=
  (if ¬ (f_ended = 0 ∨ f_ended = 1) then none else (some f_ended))
set_option maxHeartbeats 4000000 in
set_option maxRecDepth 100000 in
theorem c_Reader_hasEnded (l : Launch) (D : va_G) (cI cZ cJ : ClassId) (tq : Nat → Nat) (h0 : Nat) (h_skips : Nat) (h_ways : Nat) (h_inflow : Nat) (h_samples : Nat) (h_line : Nat) (sz : Nat) (f_width : Int32) (f_height : Int32) (f_bitsRead : Int32) (f_rowsRead : Int32) (f_copyBefore : Int32) (f_ended : Int32) (f_refusal : Int32) (f_current : Int32) (f_currentIsCopy : Int32) (o_r : Int32) (hf : F_Reader_hasEnded f_ended = some o_r) : Met l y_Reader_hasEnded ws_Reader_hasEnded RM_Reader_hasEnded (va_Pc [.ref h0] (Pg D cI cZ cJ tq (wd_Reader_hasEnded cI cZ cJ tq h0 h_skips h_ways h_inflow h_samples h_line f_width f_height f_bitsRead f_rowsRead f_copyBefore f_ended f_refusal f_current f_currentIsCopy) sz)) (qI D cI cZ cJ (va_A (wd_Reader_hasEnded cI cZ cJ tq h0 h_skips h_ways h_inflow h_samples h_line f_width f_height f_bitsRead f_rowsRead f_copyBefore f_ended f_refusal f_current f_currentIsCopy) sz) o_r (wd_Reader_hasEnded cI cZ cJ tq h0 h_skips h_ways h_inflow h_samples h_line f_width f_height f_bitsRead f_rowsRead f_copyBefore f_ended f_refusal f_current f_currentIsCopy)) 0 0 (va_A (wd_Reader_hasEnded cI cZ cJ tq h0 h_skips h_ways h_inflow h_samples h_line f_width f_height f_bitsRead f_rowsRead f_copyBefore f_ended f_refusal f_current f_currentIsCopy) sz) := by
  refine Met.ofW (cc := b_Reader_hasEnded) (maxL := 1) (ret := (some .boolean)) (by decide) rfl ?_
  intro p e s m args below meth c s₁ B hml hv
  obtain ⟨rfl, hsz, hP, hK, hD0, hG⟩ := hv
  have hx := B.exec
  have hb := B.bytes
  have hr := B.returns
  have htw : ∀ w ∈ W_all, w.before [.ref h0].toArray s = true := fun w h => atoms_spec (ws := ws_Reader_hasEnded) B.pre w (List.mem_cons_of_mem _ h)
  have hown : s.vm.findClass R_Reader = some m.cls := findClass_of_methodNamed B.named
  have hlocks := B.notSynchronized
  subst hsz
  have hD := hD0.self (sz := s.heap.size)
  generalize hAe : va_A (wd_Reader_hasEnded cI cZ cJ tq h0 h_skips h_ways h_inflow h_samples h_line f_width f_height f_bitsRead f_rowsRead f_copyBefore f_ended f_refusal f_current f_currentIsCopy) s.heap.size = A at hD hG ⊢
  have hA : ∀ q : Nat, s.heap.size ≤ q → A q := fun q h => by rw [← hAe]; exact Or.inr h
  have hS : va_S A s.heap s.heap [] := va_S.rf
  have C0 : cx p s m meth c [.ref h0].toArray b_Reader_hasEnded (some .boolean) 1 R_Reader D cI cZ cJ tq A := ⟨hx, hb, hr, hml, hown, htw, hlocks, hK, hG⟩
  have hl := lv_entry ([.ref h0]) (n := 1) (Nat.le_of_ble_eq_true rfl)
  rw [lg_entry_eq]
  generalize (lg_sl ([.ref h0]) ++ List.replicate (1 - (lg_sl ([.ref h0])).length) Slot.unset).toArray = ls at hl ⊢
  have hl : lv_has ls 1 [(0, .ref h0)] := hl
  have hP : va_P D classes (wd_Reader_hasEnded cI cZ cJ tq h0 h_skips h_ways h_inflow h_samples h_line f_width f_height f_bitsRead f_rowsRead f_copyBefore f_ended f_refusal f_current f_currentIsCopy) s.heap := hP
  clear hAe
  unfold F_Reader_hasEnded at hf
  refine lv_aload_n hx hb d_Reader_hasEnded_0 rfl (lv_at hl 0 rfl) ?_
  refine va_get (D := D) (ci := 5) (v := .int f_ended) (C := R_Reader) (T := F_Reader) (N := 14) hx hb htw i_Reader hown hK hP 0 rfl rfl 10 (by decide) (htw _ in94) (fun _ h9 => h9) rfl d_Reader_hasEnded_1 ?_
  by_cases g4 : ¬ (f_ended = 0 ∨ f_ended = 1)
  · exact no_some (it_t hf g4)
  have hf := it_f hf g4
  have e0 := Option.some.inj hf
  subst e0
  exact W.zret (v := f_ended) hx hb hr (bz_nar g4) (fun t ht hW => ⟨⟨_, (), rfl, rfl, by rw [ht]; exact hP, va_K.moved hW.alike hK, hD⟩, hS.F ht⟩) hS.2.2 d_Reader_hasEnded_4 hlocks
-- Reader_isBlack
abbrev RM_Reader_isBlack : Room := { frames := 2, cells := 0, slots := 0, locals := 43 }
def ws_Reader_isBlack : List Cond := .code y_Reader_isBlack b_Reader_isBlack 3 (some .boolean) :: W_all
def wd_Reader_isBlack (cI cZ cJ : ClassId) (tq : Nat → Nat) (h0 : Nat) (h_samples : Nat) (h_samples_rows : Nat) (h_skips : Nat) (h_ways : Nat) (h_inflow : Nat) (h_line : Nat) (f_width : Int32) (f_height : Int32) (f_bitsRead : Int32) (f_rowsRead : Int32) (f_copyBefore : Int32) (f_ended : Int32) (f_refusal : Int32) (f_current : Int32) (f_currentIsCopy : Int32) (f_samples_width : Int32) (n_samples_rows : Nat) (g_samples_rows : Nat → Int32) : va_W := [(h0, .inr (5, [.int f_width, .int f_height, .ref h_skips, .ref h_ways, .ref h_inflow, .ref h_samples, .ref h_line, .int f_bitsRead, .int f_rowsRead, .int f_copyBefore, .int f_ended, .int f_refusal, .int f_current, .int f_currentIsCopy])), (h_samples, .inr (4, [.int f_samples_width, .ref h_samples_rows])), (h_samples_rows, .inl (cI, n_samples_rows, .inl g_samples_rows))]
def F_Reader_isBlack (x1 : Int32) (x2 : Int32) (f_samples_width : Int32) (n_samples_rows : Nat) (g_samples_rows : Nat → Int32) : Option (Int32) :=
  (bd1 (F_Plane_has x1 x2 f_samples_width n_samples_rows g_samples_rows) (fun r6 => (if ¬ (r6 = 0 ∨ r6 = 1) then none else (some r6))))
set_option maxHeartbeats 4000000 in
set_option maxRecDepth 100000 in
theorem c_Reader_isBlack (l : Launch) (D : va_G) (cI cZ cJ : ClassId) (tq : Nat → Nat) (h0 : Nat) (h_samples : Nat) (h_samples_rows : Nat) (h_skips : Nat) (h_ways : Nat) (h_inflow : Nat) (h_line : Nat) (sz : Nat) (f_width : Int32) (f_height : Int32) (f_bitsRead : Int32) (f_rowsRead : Int32) (f_copyBefore : Int32) (f_ended : Int32) (f_refusal : Int32) (f_current : Int32) (f_currentIsCopy : Int32) (f_samples_width : Int32) (n_samples_rows : Nat) (g_samples_rows : Nat → Int32) (x1 : Int32) (x2 : Int32) (o_r : Int32) (hf : F_Reader_isBlack x1 x2 f_samples_width n_samples_rows g_samples_rows = some o_r) : Met l y_Reader_isBlack ws_Reader_isBlack RM_Reader_isBlack (va_Pc [.ref h0, .int x1, .int x2] (Pg D cI cZ cJ tq (wd_Reader_isBlack cI cZ cJ tq h0 h_samples h_samples_rows h_skips h_ways h_inflow h_line f_width f_height f_bitsRead f_rowsRead f_copyBefore f_ended f_refusal f_current f_currentIsCopy f_samples_width n_samples_rows g_samples_rows) sz)) (qI D cI cZ cJ (va_A (wd_Reader_isBlack cI cZ cJ tq h0 h_samples h_samples_rows h_skips h_ways h_inflow h_line f_width f_height f_bitsRead f_rowsRead f_copyBefore f_ended f_refusal f_current f_currentIsCopy f_samples_width n_samples_rows g_samples_rows) sz) o_r (wd_Reader_isBlack cI cZ cJ tq h0 h_samples h_samples_rows h_skips h_ways h_inflow h_line f_width f_height f_bitsRead f_rowsRead f_copyBefore f_ended f_refusal f_current f_currentIsCopy f_samples_width n_samples_rows g_samples_rows)) 0 0 (va_A (wd_Reader_isBlack cI cZ cJ tq h0 h_samples h_samples_rows h_skips h_ways h_inflow h_line f_width f_height f_bitsRead f_rowsRead f_copyBefore f_ended f_refusal f_current f_currentIsCopy f_samples_width n_samples_rows g_samples_rows) sz) := by
  refine Met.ofW (cc := b_Reader_isBlack) (maxL := 3) (ret := (some .boolean)) (by decide) rfl ?_
  intro p e s m args below meth c s₁ B hml hv
  obtain ⟨rfl, hsz, hP, hK, hD0, hG⟩ := hv
  have hx := B.exec
  have hb := B.bytes
  have hr := B.returns
  have htw : ∀ w ∈ W_all, w.before [.ref h0, .int x1, .int x2].toArray s = true := fun w h => atoms_spec (ws := ws_Reader_isBlack) B.pre w (List.mem_cons_of_mem _ h)
  have hown : s.vm.findClass R_Reader = some m.cls := findClass_of_methodNamed B.named
  have hlocks := B.notSynchronized
  subst hsz
  have hD := hD0.self (sz := s.heap.size)
  generalize hAe : va_A (wd_Reader_isBlack cI cZ cJ tq h0 h_samples h_samples_rows h_skips h_ways h_inflow h_line f_width f_height f_bitsRead f_rowsRead f_copyBefore f_ended f_refusal f_current f_currentIsCopy f_samples_width n_samples_rows g_samples_rows) s.heap.size = A at hD hG ⊢
  have hA : ∀ q : Nat, s.heap.size ≤ q → A q := fun q h => by rw [← hAe]; exact Or.inr h
  have hS : va_S A s.heap s.heap [] := va_S.rf
  have C0 : cx p s m meth c [.ref h0, .int x1, .int x2].toArray b_Reader_isBlack (some .boolean) 3 R_Reader D cI cZ cJ tq A := ⟨hx, hb, hr, hml, hown, htw, hlocks, hK, hG⟩
  have hl := lv_entry ([.ref h0, .int x1, .int x2]) (n := 3) (Nat.le_of_ble_eq_true rfl)
  rw [lg_entry_eq]
  generalize (lg_sl ([.ref h0, .int x1, .int x2]) ++ List.replicate (3 - (lg_sl ([.ref h0, .int x1, .int x2])).length) Slot.unset).toArray = ls at hl ⊢
  have hl : lv_has ls 3 [(0, .ref h0), (1, .int x1), (2, .int x2)] := hl
  have hP : va_P D classes (wd_Reader_isBlack cI cZ cJ tq h0 h_samples h_samples_rows h_skips h_ways h_inflow h_line f_width f_height f_bitsRead f_rowsRead f_copyBefore f_ended f_refusal f_current f_currentIsCopy f_samples_width n_samples_rows g_samples_rows) s.heap := hP
  clear hAe
  unfold F_Reader_isBlack at hf
  refine lv_aload_n hx hb d_Reader_isBlack_0 rfl (lv_at hl 0 rfl) ?_
  refine va_get (D := D) (ci := 5) (v := .ref h_samples) (C := R_Reader) (T := F_Reader) (N := 14) hx hb htw i_Reader hown hK hP 0 rfl rfl 5 (by decide) (htw _ in80) (fun _ h9 => h9) rfl d_Reader_isBlack_1 ?_
  refine lv_iload_n hx hb d_Reader_isBlack_4 rfl (lv_at hl 1 rfl) ?_
  refine lv_iload_n hx hb d_Reader_isBlack_5 rfl (lv_at hl 2 rfl) ?_
  obtain ⟨r6, e6, hf⟩ := bd1_some hf
  refine g_calli (wc := (wd_Plane_has cI cZ cJ tq h_samples h_samples_rows f_samples_width n_samples_rows g_samples_rows)) (w1 := (wd_Plane_has cI cZ cJ tq h_samples h_samples_rows f_samples_width n_samples_rows g_samples_rows)) (ws' := (wd_Reader_isBlack cI cZ cJ tq h0 h_samples h_samples_rows h_skips h_ways h_inflow h_line f_width f_height f_bitsRead f_rowsRead f_copyBefore f_ended f_refusal f_current f_currentIsCopy f_samples_width n_samples_rows g_samples_rows)) (va_runV (As := [.int x1, .int x2]) (rest := []) ⟨hx, hb, hml, hown, htw⟩ (c_Plane_has l D cI cZ cJ tq h_samples h_samples_rows _ f_samples_width n_samples_rows g_samples_rows x1 x2 r6 e6) (cwV 2 htw (gd_V in95 in56 in57 in53 in54) rfl rfl rfl (by decide +kernel) ⟨Nat.le_of_ble_eq_true rfl, Nat.le_of_ble_eq_true rfl⟩) (preV_of (ci := 4) (q0 := 1) hG hS (va_free (wc := (wd_Plane_has cI cZ cJ tq h_samples h_samples_rows f_samples_width n_samples_rows g_samples_rows)) hD hS hA [1, 2] rfl) hK hP rfl rfl (hP.sub (ws' := (wd_Plane_has cI cZ cJ tq h_samples h_samples_rows f_samples_width n_samples_rows g_samples_rows)) [1, 2] rfl) (hD.sub (ws' := (wd_Plane_has cI cZ cJ tq h_samples h_samples_rows f_samples_width n_samples_rows g_samples_rows)) [1, 2] (by decide) rfl)) rfl rfl hl.1 rfl (lv_room (Nat.le_of_ble_eq_true rfl)) d_Reader_isBlack_6 ⟨Nat.le_of_ble_eq_true rfl, Nat.le_of_ble_eq_true rfl⟩) hP hD hS hA [1, 2] [0] [0, 1, 2] rfl rfl (by decide) (by decide) (by decide) rfl (fun H locs hP hD hS => ?_)
  by_cases g9 : ¬ (r6 = 0 ∨ r6 = 1)
  · exact no_some (it_t hf g9)
  have hf := it_f hf g9
  have e0 := Option.some.inj hf
  subst e0
  exact W.zret (v := r6) hx hb hr (bz_nar g9) (fun t ht hW => ⟨⟨_, (), rfl, rfl, by rw [ht]; exact hP, va_K.moved hW.alike hK, hD⟩, hS.F ht⟩) hS.2.2 d_Reader_isBlack_9 hlocks
-- Ways_open
abbrev RM_Ways_open : Room := { frames := 0, cells := 0, slots := 0, locals := 0 }
def ws_Ways_open : List Cond := .code y_Ways_open b_Ways_open 1 (some .boolean) :: W_all
def wd_Ways_open (cI cZ cJ : ClassId) (tq : Nat → Nat) (h0 : Nat) (f_typical : Int32) (f_byFax : Int32) (f_open : Int32) : va_W := [(h0, .inr (8, [.int f_typical, .int f_byFax, .int f_open]))]
def F_Ways_open (f_open : Int32) : Option (Int32) :=
  (if ¬ (f_open = 0 ∨ f_open = 1) then none else (some f_open))
set_option maxHeartbeats 4000000 in
set_option maxRecDepth 100000 in
theorem c_Ways_open (l : Launch) (D : va_G) (cI cZ cJ : ClassId) (tq : Nat → Nat) (h0 : Nat) (sz : Nat) (f_typical : Int32) (f_byFax : Int32) (f_open : Int32) (o_r : Int32) (hf : F_Ways_open f_open = some o_r) : Met l y_Ways_open ws_Ways_open RM_Ways_open (va_Pc [.ref h0] (Pg D cI cZ cJ tq (wd_Ways_open cI cZ cJ tq h0 f_typical f_byFax f_open) sz)) (qI D cI cZ cJ (va_A (wd_Ways_open cI cZ cJ tq h0 f_typical f_byFax f_open) sz) o_r (wd_Ways_open cI cZ cJ tq h0 f_typical f_byFax f_open)) 0 0 (va_A (wd_Ways_open cI cZ cJ tq h0 f_typical f_byFax f_open) sz) := by
  refine Met.ofW (cc := b_Ways_open) (maxL := 1) (ret := (some .boolean)) (by decide) rfl ?_
  intro p e s m args below meth c s₁ B hml hv
  obtain ⟨rfl, hsz, hP, hK, hD0, hG⟩ := hv
  have hx := B.exec
  have hb := B.bytes
  have hr := B.returns
  have htw : ∀ w ∈ W_all, w.before [.ref h0].toArray s = true := fun w h => atoms_spec (ws := ws_Ways_open) B.pre w (List.mem_cons_of_mem _ h)
  have hown : s.vm.findClass R_Ways = some m.cls := findClass_of_methodNamed B.named
  have hlocks := B.notSynchronized
  subst hsz
  have hD := hD0.self (sz := s.heap.size)
  generalize hAe : va_A (wd_Ways_open cI cZ cJ tq h0 f_typical f_byFax f_open) s.heap.size = A at hD hG ⊢
  have hA : ∀ q : Nat, s.heap.size ≤ q → A q := fun q h => by rw [← hAe]; exact Or.inr h
  have hS : va_S A s.heap s.heap [] := va_S.rf
  have C0 : cx p s m meth c [.ref h0].toArray b_Ways_open (some .boolean) 1 R_Ways D cI cZ cJ tq A := ⟨hx, hb, hr, hml, hown, htw, hlocks, hK, hG⟩
  have hl := lv_entry ([.ref h0]) (n := 1) (Nat.le_of_ble_eq_true rfl)
  rw [lg_entry_eq]
  generalize (lg_sl ([.ref h0]) ++ List.replicate (1 - (lg_sl ([.ref h0])).length) Slot.unset).toArray = ls at hl ⊢
  have hl : lv_has ls 1 [(0, .ref h0)] := hl
  have hP : va_P D classes (wd_Ways_open cI cZ cJ tq h0 f_typical f_byFax f_open) s.heap := hP
  clear hAe
  unfold F_Ways_open at hf
  refine lv_aload_n hx hb d_Ways_open_0 rfl (lv_at hl 0 rfl) ?_
  refine va_get (D := D) (ci := 8) (v := .int f_open) (C := R_Ways) (T := F_Ways) (N := 3) hx hb htw i_Ways hown hK hP 0 rfl rfl 2 (by decide) (htw _ in96) (fun _ h9 => h9) rfl d_Ways_open_1 ?_
  by_cases g4 : ¬ (f_open = 0 ∨ f_open = 1)
  · exact no_some (it_t hf g4)
  have hf := it_f hf g4
  have e0 := Option.some.inj hf
  subst e0
  exact W.zret (v := f_open) hx hb hr (bz_nar g4) (fun t ht hW => ⟨⟨_, (), rfl, rfl, by rw [ht]; exact hP, va_K.moved hW.alike hK, hD⟩, hS.F ht⟩) hS.2.2 d_Ways_open_4 hlocks
-- Reader_readOpening
abbrev RM_Reader_readOpening : Room := { frames := 1, cells := 0, slots := 0, locals := 22 }
def ws_Reader_readOpening : List Cond := .code y_Reader_readOpening b_Reader_readOpening 2 (some .boolean) :: W_all
def wd_Reader_readOpening (cI cZ cJ : ClassId) (tq : Nat → Nat) (h0 : Nat) (h_inflow : Nat) (h_inflow_words : Nat) (h_skips : Nat) (h_ways : Nat) (h_samples : Nat) (h_line : Nat) (f_width : Int32) (f_height : Int32) (f_bitsRead : Int32) (f_rowsRead : Int32) (f_copyBefore : Int32) (f_ended : Int32) (f_refusal : Int32) (f_current : Int32) (f_currentIsCopy : Int32) (f_inflow_count : Int32) (f_inflow_next : Int32) (n_inflow_words : Nat) (g_inflow_words : Nat → Int32) : va_W := [(h0, .inr (5, [.int f_width, .int f_height, .ref h_skips, .ref h_ways, .ref h_inflow, .ref h_samples, .ref h_line, .int f_bitsRead, .int f_rowsRead, .int f_copyBefore, .int f_ended, .int f_refusal, .int f_current, .int f_currentIsCopy])), (h_inflow, .inr (2, [.ref h_inflow_words, .int f_inflow_count, .int f_inflow_next])), (h_inflow_words, .inl (cI, n_inflow_words, .inl g_inflow_words))]
def F_Reader_readOpening_52 (f_height : Int32) (f_rowsRead : Int32) (f_inflow_count : Int32) (n_inflow_words : Nat) (g_inflow_words : Nat → Int32) (x1 : Int32) (f_bitsRead : Int32) (f_ended : Int32) (f_refusal : Int32) (f_inflow_next : Int32) : Option (Int32 × Int32 × Int32 × Int32 × Int32) :=
  (if x1 = 0 then (if f_refusal = (-1 : Int32) then (some (1, f_bitsRead, f_ended, f_refusal, f_inflow_next)) else (some (0, f_bitsRead, f_ended, f_refusal, f_inflow_next))) else (some (0, f_bitsRead, f_ended, f_refusal, f_inflow_next)))
def F_Reader_readOpening (f_height : Int32) (f_bitsRead : Int32) (f_rowsRead : Int32) (f_ended : Int32) (f_refusal : Int32) (f_inflow_count : Int32) (f_inflow_next : Int32) (n_inflow_words : Nat) (g_inflow_words : Nat → Int32) : Option (Int32 × Int32 × Int32 × Int32 × Int32) :=
  (bd2 (F_Inflow_take f_inflow_count f_inflow_next n_inflow_words g_inflow_words) (fun r4 w4_f_next => (if r4 = (1 : Int32) then (bd1 (F_Inflow_place w4_f_next) (fun r23 => (F_Reader_readOpening_52 f_height f_rowsRead f_inflow_count n_inflow_words g_inflow_words r4 r23 1 f_refusal w4_f_next))) else (if r4 = 0 then (if f_rowsRead < f_height then (F_Reader_readOpening_52 f_height f_rowsRead f_inflow_count n_inflow_words g_inflow_words r4 f_bitsRead f_ended f_refusal w4_f_next) else (F_Reader_readOpening_52 f_height f_rowsRead f_inflow_count n_inflow_words g_inflow_words r4 f_bitsRead f_ended 3 w4_f_next)) else (F_Reader_readOpening_52 f_height f_rowsRead f_inflow_count n_inflow_words g_inflow_words r4 f_bitsRead f_ended f_refusal w4_f_next)))))
set_option maxHeartbeats 4000000 in
set_option maxRecDepth 100000 in
theorem w_Reader_readOpening_52 {p : Program} {l : Launch} {e : Env} {s : State} {m : MethodId} {args : Array Value} {below : List Frame} {meth : Method} {c : Code} {D : va_G} {cI cZ cJ : ClassId} {tq : Nat → Nat} {A : Nat → Prop} (h0 : Nat) (h_inflow : Nat) (h_inflow_words : Nat) (h_skips : Nat) (h_ways : Nat) (h_samples : Nat) (h_line : Nat) (f_width : Int32) (f_height : Int32) (f_rowsRead : Int32) (f_copyBefore : Int32) (f_current : Int32) (f_currentIsCopy : Int32) (f_inflow_count : Int32) (n_inflow_words : Nat) (g_inflow_words : Nat → Int32) (o_r : Int32) (o_f_bitsRead : Int32) (o_f_ended : Int32) (o_f_refusal : Int32) (o_f_inflow_next : Int32) (C0 : cx p s m meth c args b_Reader_readOpening (some .boolean) 2 R_Reader D cI cZ cJ tq A) (hA : ∀ q : Nat, s.heap.size ≤ q → A q) : ∀ (x1 : Int32) (f_bitsRead : Int32) (f_ended : Int32) (f_refusal : Int32) (f_inflow_next : Int32) (H : Heap) (locs : List Loc) (ls : Array Slot), va_P D classes (wd_Reader_readOpening cI cZ cJ tq h0 h_inflow h_inflow_words h_skips h_ways h_samples h_line f_width f_height f_bitsRead f_rowsRead f_copyBefore f_ended f_refusal f_current f_currentIsCopy f_inflow_count f_inflow_next n_inflow_words g_inflow_words) H → va_D A (wd_Reader_readOpening cI cZ cJ tq h0 h_inflow h_inflow_words h_skips h_ways h_samples h_line f_width f_height f_bitsRead f_rowsRead f_copyBefore f_ended f_refusal f_current f_currentIsCopy f_inflow_count f_inflow_next n_inflow_words g_inflow_words) → va_S A s.heap H locs → lv_has ls 2 [(0, .ref h0), (1, .int x1)] → F_Reader_readOpening_52 f_height f_rowsRead f_inflow_count n_inflow_words g_inflow_words x1 f_bitsRead f_ended f_refusal f_inflow_next = some (o_r, o_f_bitsRead, o_f_ended, o_f_refusal, o_f_inflow_next) → W p l e RM_Reader_readOpening s m args below meth c H locs 0 0 (MQ below (qI D cI cZ cJ A o_r (wd_Reader_readOpening cI cZ cJ tq h0 h_inflow h_inflow_words h_skips h_ways h_samples h_line f_width f_height o_f_bitsRead f_rowsRead f_copyBefore o_f_ended o_f_refusal f_current f_currentIsCopy f_inflow_count o_f_inflow_next n_inflow_words g_inflow_words)) args s 0 0 A) (F0 m 52 ls []) := by
  obtain ⟨hx, hb, hr, hml, hown, htw, hlocks, hK, hG⟩ := id C0
  intro x1 f_bitsRead f_ended f_refusal f_inflow_next H locs ls hP hD hS hl hf
  unfold F_Reader_readOpening_52 at hf
  refine lv_iload_n hx hb d_Reader_readOpening_52 rfl (lv_at hl 1 rfl) ?_
  refine lv_if_ne (tgt := 68) hx hb d_Reader_readOpening_53 (by decide) (fun c53 => ?_) (fun c53 => ?_)
  · have hf := it_f hf c53
    refine lv_iconst (v := 0) hx hb d_Reader_readOpening_68 (by decide) ?_
    obtain ⟨e0, e1, e2, e3, e4⟩ := so5 hf
    subst e0; subst e1; subst e2; subst e3; subst e4
    exact W.zret (v := 0) hx hb hr rfl (fun t ht hW => ⟨⟨_, (), rfl, rfl, by rw [ht]; exact hP, va_K.moved hW.alike hK, hD⟩, hS.F ht⟩) hS.2.2 d_Reader_readOpening_69 hlocks
  · have hf := it_t hf c53
    refine lv_aload_n hx hb d_Reader_readOpening_56 rfl (lv_at hl 0 rfl) ?_
    refine va_get (D := D) (ci := 5) (v := .int f_refusal) (C := R_Reader) (T := F_Reader) (N := 14) hx hb htw i_Reader hown hK hP 0 rfl rfl 11 (by decide) (htw _ in69) (fun _ h9 => h9) rfl d_Reader_readOpening_57 ?_
    refine lv_iconst (v := (-1)) hx hb d_Reader_readOpening_60 (by decide) ?_
    refine lv_icmp_ne (tgt := 68) hx hb d_Reader_readOpening_61 (by decide) (fun c61 => ?_) (fun c61 => ?_)
    · have hf := it_f hf c61
      refine lv_iconst (v := 0) hx hb d_Reader_readOpening_68 (by decide) ?_
      obtain ⟨e0, e1, e2, e3, e4⟩ := so5 hf
      subst e0; subst e1; subst e2; subst e3; subst e4
      exact W.zret (v := 0) hx hb hr rfl (fun t ht hW => ⟨⟨_, (), rfl, rfl, by rw [ht]; exact hP, va_K.moved hW.alike hK, hD⟩, hS.F ht⟩) hS.2.2 d_Reader_readOpening_69 hlocks
    · have hf := it_t hf c61
      refine lv_iconst (v := 1) hx hb d_Reader_readOpening_64 (by decide) ?_
      refine lv_goto (tgt := 69) hx hb d_Reader_readOpening_65 (by decide) ?_
      obtain ⟨e0, e1, e2, e3, e4⟩ := so5 hf
      subst e0; subst e1; subst e2; subst e3; subst e4
      exact W.zret (v := 1) hx hb hr rfl (fun t ht hW => ⟨⟨_, (), rfl, rfl, by rw [ht]; exact hP, va_K.moved hW.alike hK, hD⟩, hS.F ht⟩) hS.2.2 d_Reader_readOpening_69 hlocks
set_option maxHeartbeats 4000000 in
set_option maxRecDepth 100000 in
theorem c_Reader_readOpening (l : Launch) (D : va_G) (cI cZ cJ : ClassId) (tq : Nat → Nat) (h0 : Nat) (h_inflow : Nat) (h_inflow_words : Nat) (h_skips : Nat) (h_ways : Nat) (h_samples : Nat) (h_line : Nat) (sz : Nat) (f_width : Int32) (f_height : Int32) (f_bitsRead : Int32) (f_rowsRead : Int32) (f_copyBefore : Int32) (f_ended : Int32) (f_refusal : Int32) (f_current : Int32) (f_currentIsCopy : Int32) (f_inflow_count : Int32) (f_inflow_next : Int32) (n_inflow_words : Nat) (g_inflow_words : Nat → Int32) (o_r : Int32) (o_f_bitsRead : Int32) (o_f_ended : Int32) (o_f_refusal : Int32) (o_f_inflow_next : Int32) (hf : F_Reader_readOpening f_height f_bitsRead f_rowsRead f_ended f_refusal f_inflow_count f_inflow_next n_inflow_words g_inflow_words = some (o_r, o_f_bitsRead, o_f_ended, o_f_refusal, o_f_inflow_next)) : Met l y_Reader_readOpening ws_Reader_readOpening RM_Reader_readOpening (va_Pc [.ref h0] (Pg D cI cZ cJ tq (wd_Reader_readOpening cI cZ cJ tq h0 h_inflow h_inflow_words h_skips h_ways h_samples h_line f_width f_height f_bitsRead f_rowsRead f_copyBefore f_ended f_refusal f_current f_currentIsCopy f_inflow_count f_inflow_next n_inflow_words g_inflow_words) sz)) (qI D cI cZ cJ (va_A (wd_Reader_readOpening cI cZ cJ tq h0 h_inflow h_inflow_words h_skips h_ways h_samples h_line f_width f_height f_bitsRead f_rowsRead f_copyBefore f_ended f_refusal f_current f_currentIsCopy f_inflow_count f_inflow_next n_inflow_words g_inflow_words) sz) o_r (wd_Reader_readOpening cI cZ cJ tq h0 h_inflow h_inflow_words h_skips h_ways h_samples h_line f_width f_height o_f_bitsRead f_rowsRead f_copyBefore o_f_ended o_f_refusal f_current f_currentIsCopy f_inflow_count o_f_inflow_next n_inflow_words g_inflow_words)) 0 0 (va_A (wd_Reader_readOpening cI cZ cJ tq h0 h_inflow h_inflow_words h_skips h_ways h_samples h_line f_width f_height f_bitsRead f_rowsRead f_copyBefore f_ended f_refusal f_current f_currentIsCopy f_inflow_count f_inflow_next n_inflow_words g_inflow_words) sz) := by
  refine Met.ofW (cc := b_Reader_readOpening) (maxL := 2) (ret := (some .boolean)) (by decide) rfl ?_
  intro p e s m args below meth c s₁ B hml hv
  obtain ⟨rfl, hsz, hP, hK, hD0, hG⟩ := hv
  have hx := B.exec
  have hb := B.bytes
  have hr := B.returns
  have htw : ∀ w ∈ W_all, w.before [.ref h0].toArray s = true := fun w h => atoms_spec (ws := ws_Reader_readOpening) B.pre w (List.mem_cons_of_mem _ h)
  have hown : s.vm.findClass R_Reader = some m.cls := findClass_of_methodNamed B.named
  have hlocks := B.notSynchronized
  subst hsz
  have hD := hD0.self (sz := s.heap.size)
  generalize hAe : va_A (wd_Reader_readOpening cI cZ cJ tq h0 h_inflow h_inflow_words h_skips h_ways h_samples h_line f_width f_height f_bitsRead f_rowsRead f_copyBefore f_ended f_refusal f_current f_currentIsCopy f_inflow_count f_inflow_next n_inflow_words g_inflow_words) s.heap.size = A at hD hG ⊢
  have hA : ∀ q : Nat, s.heap.size ≤ q → A q := fun q h => by rw [← hAe]; exact Or.inr h
  have hS : va_S A s.heap s.heap [] := va_S.rf
  have C0 : cx p s m meth c [.ref h0].toArray b_Reader_readOpening (some .boolean) 2 R_Reader D cI cZ cJ tq A := ⟨hx, hb, hr, hml, hown, htw, hlocks, hK, hG⟩
  have hl := lv_entry ([.ref h0]) (n := 2) (Nat.le_of_ble_eq_true rfl)
  rw [lg_entry_eq]
  generalize (lg_sl ([.ref h0]) ++ List.replicate (2 - (lg_sl ([.ref h0])).length) Slot.unset).toArray = ls at hl ⊢
  have hl : lv_has ls 2 [(0, .ref h0)] := hl
  have hP : va_P D classes (wd_Reader_readOpening cI cZ cJ tq h0 h_inflow h_inflow_words h_skips h_ways h_samples h_line f_width f_height f_bitsRead f_rowsRead f_copyBefore f_ended f_refusal f_current f_currentIsCopy f_inflow_count f_inflow_next n_inflow_words g_inflow_words) s.heap := hP
  clear hAe
  unfold F_Reader_readOpening at hf
  refine lv_aload_n hx hb d_Reader_readOpening_0 rfl (lv_at hl 0 rfl) ?_
  refine va_get (D := D) (ci := 5) (v := .ref h_inflow) (C := R_Reader) (T := F_Reader) (N := 14) hx hb htw i_Reader hown hK hP 0 rfl rfl 4 (by decide) (htw _ in74) (fun _ h9 => h9) rfl d_Reader_readOpening_1 ?_
  obtain ⟨r4, w4_f_next, e4, hf⟩ := bd2_some hf
  refine g_calli (wc := (wd_Inflow_take cI cZ cJ tq h_inflow h_inflow_words f_inflow_count f_inflow_next n_inflow_words g_inflow_words)) (w1 := (wd_Inflow_take cI cZ cJ tq h_inflow h_inflow_words f_inflow_count w4_f_next n_inflow_words g_inflow_words)) (ws' := (wd_Reader_readOpening cI cZ cJ tq h0 h_inflow h_inflow_words h_skips h_ways h_samples h_line f_width f_height f_bitsRead f_rowsRead f_copyBefore f_ended f_refusal f_current f_currentIsCopy f_inflow_count w4_f_next n_inflow_words g_inflow_words)) (va_runV (As := []) (rest := []) ⟨hx, hb, hml, hown, htw⟩ (c_Inflow_take l D cI cZ cJ tq h_inflow h_inflow_words _ f_inflow_count f_inflow_next n_inflow_words g_inflow_words r4 w4_f_next e4) (cwV 0 htw (gd_V in98 in99 in100 in101 in97) rfl rfl rfl (by decide +kernel) ⟨Nat.le_of_ble_eq_true rfl, Nat.le_of_ble_eq_true rfl⟩) (preV_of (ci := 2) (q0 := 1) hG hS (va_free (wc := (wd_Inflow_take cI cZ cJ tq h_inflow h_inflow_words f_inflow_count f_inflow_next n_inflow_words g_inflow_words)) hD hS hA [1, 2] rfl) hK hP rfl rfl (hP.sub (ws' := (wd_Inflow_take cI cZ cJ tq h_inflow h_inflow_words f_inflow_count f_inflow_next n_inflow_words g_inflow_words)) [1, 2] rfl) (hD.sub (ws' := (wd_Inflow_take cI cZ cJ tq h_inflow h_inflow_words f_inflow_count f_inflow_next n_inflow_words g_inflow_words)) [1, 2] (by decide) rfl)) rfl rfl hl.1 rfl (lv_room (Nat.le_of_ble_eq_true rfl)) d_Reader_readOpening_4 ⟨Nat.le_of_ble_eq_true rfl, Nat.le_of_ble_eq_true rfl⟩) hP hD hS hA [1, 2] [0] [0, 1, 2] rfl rfl (by decide) (by decide) (by decide) rfl (fun H locs hP hD hS => ?_)
  refine lv_istore_n (lv' := [(1, .int r4), (0, .ref h0)]) hx hb d_Reader_readOpening_7 rfl hl (by decide) rfl (fun ls hl => ?_)
  refine lv_iload_n hx hb d_Reader_readOpening_8 rfl (lv_at hl 0 rfl) ?_
  refine lv_iconst (v := 1) hx hb d_Reader_readOpening_9 (by decide) ?_
  refine lv_icmp_ne (tgt := 32) hx hb d_Reader_readOpening_10 (by decide) (fun c10 => ?_) (fun c10 => ?_)
  · have hf := it_f hf c10
    refine lv_iload_n hx hb d_Reader_readOpening_32 rfl (lv_at hl 0 rfl) ?_
    refine lv_if_ne (tgt := 52) hx hb d_Reader_readOpening_33 (by decide) (fun c33 => ?_) (fun c33 => ?_)
    · have hf := it_f hf c33
      exact w_Reader_readOpening_52 h0 h_inflow h_inflow_words h_skips h_ways h_samples h_line f_width f_height f_rowsRead f_copyBefore f_current f_currentIsCopy f_inflow_count n_inflow_words g_inflow_words o_r o_f_bitsRead o_f_ended o_f_refusal o_f_inflow_next C0 hA r4 f_bitsRead f_ended f_refusal w4_f_next _ _ ls hP hD hS (lv_sub hl [1, 0] rfl) hf
    · have hf := it_t hf c33
      refine lv_aload_n hx hb d_Reader_readOpening_36 rfl (lv_at hl 1 rfl) ?_
      refine va_get (D := D) (ci := 5) (v := .int f_rowsRead) (C := R_Reader) (T := F_Reader) (N := 14) hx hb htw i_Reader hown hK hP 0 rfl rfl 8 (by decide) (htw _ in92) (fun _ h9 => h9) rfl d_Reader_readOpening_37 ?_
      refine lv_aload_n hx hb d_Reader_readOpening_40 rfl (lv_at hl 1 rfl) ?_
      refine va_get (D := D) (ci := 5) (v := .int f_height) (C := R_Reader) (T := F_Reader) (N := 14) hx hb htw i_Reader hown hK hP 0 rfl rfl 1 (by decide) (htw _ in71) (fun _ h9 => h9) rfl d_Reader_readOpening_41 ?_
      refine lv_icmp_lt (tgt := 52) hx hb d_Reader_readOpening_44 (by decide) (fun c44 => ?_) (fun c44 => ?_)
      · have hf := it_t hf c44
        exact w_Reader_readOpening_52 h0 h_inflow h_inflow_words h_skips h_ways h_samples h_line f_width f_height f_rowsRead f_copyBefore f_current f_currentIsCopy f_inflow_count n_inflow_words g_inflow_words o_r o_f_bitsRead o_f_ended o_f_refusal o_f_inflow_next C0 hA r4 f_bitsRead f_ended f_refusal w4_f_next _ _ ls hP hD hS (lv_sub hl [1, 0] rfl) hf
      · have hf := it_f hf c44
        refine lv_aload_n hx hb d_Reader_readOpening_47 rfl (lv_at hl 1 rfl) ?_
        refine lv_iconst (v := 3) hx hb d_Reader_readOpening_48 (by decide) ?_
        refine va_put (D := D) (ci := 5) (v := .int 3) (ty := .int) (C := R_Reader) (T := F_Reader) (N := 14) hx hb htw i_Reader t_Reader t_Reader_ok n_Reader hown hK hP hD hS 0 rfl rfl 11 (by decide) (htw _ in69) (fun _ h9 => h9) rfl (by decide +kernel) rfl rfl (Nat.le_of_ble_eq_true rfl) d_Reader_readOpening_49 (fun H locs hP hD hS => ?_)
        have hP : va_P D classes (wd_Reader_readOpening cI cZ cJ tq h0 h_inflow h_inflow_words h_skips h_ways h_samples h_line f_width f_height f_bitsRead f_rowsRead f_copyBefore f_ended 3 f_current f_currentIsCopy f_inflow_count w4_f_next n_inflow_words g_inflow_words) H := hP
        have hD : va_D A (wd_Reader_readOpening cI cZ cJ tq h0 h_inflow h_inflow_words h_skips h_ways h_samples h_line f_width f_height f_bitsRead f_rowsRead f_copyBefore f_ended 3 f_current f_currentIsCopy f_inflow_count w4_f_next n_inflow_words g_inflow_words) := hD
        exact w_Reader_readOpening_52 h0 h_inflow h_inflow_words h_skips h_ways h_samples h_line f_width f_height f_rowsRead f_copyBefore f_current f_currentIsCopy f_inflow_count n_inflow_words g_inflow_words o_r o_f_bitsRead o_f_ended o_f_refusal o_f_inflow_next C0 hA r4 f_bitsRead f_ended 3 w4_f_next _ _ ls hP hD hS (lv_sub hl [1, 0] rfl) hf
  · have hf := it_t hf c10
    refine lv_aload_n hx hb d_Reader_readOpening_13 rfl (lv_at hl 1 rfl) ?_
    refine lv_iconst (v := 1) hx hb d_Reader_readOpening_14 (by decide) ?_
    refine va_put (D := D) (ci := 5) (v := .int 1) (ty := .boolean) (C := R_Reader) (T := F_Reader) (N := 14) hx hb htw i_Reader t_Reader t_Reader_ok n_Reader hown hK hP hD hS 0 rfl rfl 10 (by decide) (htw _ in94) (fun _ h9 => h9) rfl (by decide +kernel) rfl rfl (Nat.le_of_ble_eq_true rfl) d_Reader_readOpening_15 (fun H locs hP hD hS => ?_)
    have hP : va_P D classes (wd_Reader_readOpening cI cZ cJ tq h0 h_inflow h_inflow_words h_skips h_ways h_samples h_line f_width f_height f_bitsRead f_rowsRead f_copyBefore 1 f_refusal f_current f_currentIsCopy f_inflow_count w4_f_next n_inflow_words g_inflow_words) H := hP
    have hD : va_D A (wd_Reader_readOpening cI cZ cJ tq h0 h_inflow h_inflow_words h_skips h_ways h_samples h_line f_width f_height f_bitsRead f_rowsRead f_copyBefore 1 f_refusal f_current f_currentIsCopy f_inflow_count w4_f_next n_inflow_words g_inflow_words) := hD
    refine lv_aload_n hx hb d_Reader_readOpening_18 rfl (lv_at hl 1 rfl) ?_
    refine lv_aload_n hx hb d_Reader_readOpening_19 rfl (lv_at hl 1 rfl) ?_
    refine va_get (D := D) (ci := 5) (v := .ref h_inflow) (C := R_Reader) (T := F_Reader) (N := 14) hx hb htw i_Reader hown hK hP 0 rfl rfl 4 (by decide) (htw _ in74) (fun _ h9 => h9) rfl d_Reader_readOpening_20 ?_
    obtain ⟨r23, e23, hf⟩ := bd1_some hf
    refine g_calli (wc := (wd_Inflow_place cI cZ cJ tq h_inflow h_inflow_words f_inflow_count w4_f_next)) (w1 := (wd_Inflow_place cI cZ cJ tq h_inflow h_inflow_words f_inflow_count w4_f_next)) (ws' := (wd_Reader_readOpening cI cZ cJ tq h0 h_inflow h_inflow_words h_skips h_ways h_samples h_line f_width f_height f_bitsRead f_rowsRead f_copyBefore 1 f_refusal f_current f_currentIsCopy f_inflow_count w4_f_next n_inflow_words g_inflow_words)) (va_runV (As := []) (rest := [.ref h0]) ⟨hx, hb, hml, hown, htw⟩ (c_Inflow_place l D cI cZ cJ tq h_inflow h_inflow_words _ f_inflow_count w4_f_next r23 e23) (cwV 0 htw (gd_V in103 in104 in105 in101 in102) rfl rfl rfl (by decide +kernel) ⟨Nat.le_of_ble_eq_true rfl, Nat.le_of_ble_eq_true rfl⟩) (preV_of (ci := 2) (q0 := 1) hG hS (va_free (wc := (wd_Inflow_place cI cZ cJ tq h_inflow h_inflow_words f_inflow_count w4_f_next)) hD hS hA [1] rfl) hK hP rfl rfl (hP.sub (ws' := (wd_Inflow_place cI cZ cJ tq h_inflow h_inflow_words f_inflow_count w4_f_next)) [1] rfl) (hD.sub (ws' := (wd_Inflow_place cI cZ cJ tq h_inflow h_inflow_words f_inflow_count w4_f_next)) [1] (by decide) rfl)) rfl rfl hl.1 rfl (lv_room (Nat.le_of_ble_eq_true rfl)) d_Reader_readOpening_23 ⟨Nat.le_of_ble_eq_true rfl, Nat.le_of_ble_eq_true rfl⟩) hP hD hS hA [1] [0, 2] [0, 2, 1] rfl rfl (by decide) (by decide) (by decide) rfl (fun H locs hP hD hS => ?_)
    refine va_put (D := D) (ci := 5) (v := .int r23) (ty := .int) (C := R_Reader) (T := F_Reader) (N := 14) hx hb htw i_Reader t_Reader t_Reader_ok n_Reader hown hK hP hD hS 0 rfl rfl 7 (by decide) (htw _ in91) (fun _ h9 => h9) rfl (by decide +kernel) rfl rfl (Nat.le_of_ble_eq_true rfl) d_Reader_readOpening_26 (fun H locs hP hD hS => ?_)
    have hP : va_P D classes (wd_Reader_readOpening cI cZ cJ tq h0 h_inflow h_inflow_words h_skips h_ways h_samples h_line f_width f_height r23 f_rowsRead f_copyBefore 1 f_refusal f_current f_currentIsCopy f_inflow_count w4_f_next n_inflow_words g_inflow_words) H := hP
    have hD : va_D A (wd_Reader_readOpening cI cZ cJ tq h0 h_inflow h_inflow_words h_skips h_ways h_samples h_line f_width f_height r23 f_rowsRead f_copyBefore 1 f_refusal f_current f_currentIsCopy f_inflow_count w4_f_next n_inflow_words g_inflow_words) := hD
    refine lv_goto (tgt := 52) hx hb d_Reader_readOpening_29 (by decide) ?_
    exact w_Reader_readOpening_52 h0 h_inflow h_inflow_words h_skips h_ways h_samples h_line f_width f_height f_rowsRead f_copyBefore f_current f_currentIsCopy f_inflow_count n_inflow_words g_inflow_words o_r o_f_bitsRead o_f_ended o_f_refusal o_f_inflow_next C0 hA r4 r23 1 f_refusal w4_f_next _ _ ls hP hD hS (lv_sub hl [1, 0] rfl) hf
-- Reader_startRow
abbrev RM_Reader_startRow : Room := { frames := 2, cells := 0, slots := 0, locals := 43 }
def ws_Reader_startRow : List Cond := .code y_Reader_startRow b_Reader_startRow 1 (some .boolean) :: W_all
def wd_Reader_startRow (cI cZ cJ : ClassId) (tq : Nat → Nat) (h0 : Nat) (h_inflow : Nat) (h_ways : Nat) (h_inflow_words : Nat) (h_skips : Nat) (h_samples : Nat) (h_line : Nat) (f_width : Int32) (f_height : Int32) (f_bitsRead : Int32) (f_rowsRead : Int32) (f_copyBefore : Int32) (f_ended : Int32) (f_refusal : Int32) (f_current : Int32) (f_currentIsCopy : Int32) (f_inflow_count : Int32) (f_inflow_next : Int32) (f_ways_typical : Int32) (f_ways_byFax : Int32) (f_ways_open : Int32) (n_inflow_words : Nat) (g_inflow_words : Nat → Int32) : va_W := [(h0, .inr (5, [.int f_width, .int f_height, .ref h_skips, .ref h_ways, .ref h_inflow, .ref h_samples, .ref h_line, .int f_bitsRead, .int f_rowsRead, .int f_copyBefore, .int f_ended, .int f_refusal, .int f_current, .int f_currentIsCopy])), (h_inflow, .inr (2, [.ref h_inflow_words, .int f_inflow_count, .int f_inflow_next])), (h_ways, .inr (8, [.int f_ways_typical, .int f_ways_byFax, .int f_ways_open])), (h_inflow_words, .inl (cI, n_inflow_words, .inl g_inflow_words))]
def F_Reader_startRow_38 (f_height : Int32) (f_rowsRead : Int32) (f_inflow_count : Int32) (f_ways_open : Int32) (n_inflow_words : Nat) (g_inflow_words : Nat → Int32) (f_bitsRead : Int32) (f_ended : Int32) (f_refusal : Int32) (f_current : Int32) (f_currentIsCopy : Int32) (f_inflow_next : Int32) : Option (Int32 × Int32 × Int32 × Int32 × Int32 × Int32 × Int32) :=
  (some (1, f_bitsRead, f_ended, f_refusal, f_current, f_currentIsCopy, f_inflow_next))
def F_Reader_startRow (f_height : Int32) (f_bitsRead : Int32) (f_rowsRead : Int32) (f_ended : Int32) (f_refusal : Int32) (f_current : Int32) (f_currentIsCopy : Int32) (f_inflow_count : Int32) (f_inflow_next : Int32) (f_ways_open : Int32) (n_inflow_words : Nat) (g_inflow_words : Nat → Int32) : Option (Int32 × Int32 × Int32 × Int32 × Int32 × Int32 × Int32) :=
  (bd1 (F_Inflow_goTo f_bitsRead f_inflow_next) (fun w8_f_next => (bd1 (F_Ways_open f_ways_open) (fun r25 => (if r25 = 0 then (F_Reader_startRow_38 f_height f_rowsRead f_inflow_count f_ways_open n_inflow_words g_inflow_words f_bitsRead f_ended f_refusal 0 0 w8_f_next) else (bd5 (F_Reader_readOpening f_height f_bitsRead f_rowsRead f_ended f_refusal f_inflow_count w8_f_next n_inflow_words g_inflow_words) (fun r32 w32_f_bitsRead w32_f_ended w32_f_refusal w32_f_inflow_next => (if r32 = 0 then (some (0, w32_f_bitsRead, w32_f_ended, w32_f_refusal, 0, 0, w32_f_inflow_next)) else (F_Reader_startRow_38 f_height f_rowsRead f_inflow_count f_ways_open n_inflow_words g_inflow_words w32_f_bitsRead w32_f_ended w32_f_refusal 0 0 w32_f_inflow_next)))))))))
set_option maxHeartbeats 4000000 in
set_option maxRecDepth 100000 in
theorem w_Reader_startRow_38 {p : Program} {l : Launch} {e : Env} {s : State} {m : MethodId} {args : Array Value} {below : List Frame} {meth : Method} {c : Code} {D : va_G} {cI cZ cJ : ClassId} {tq : Nat → Nat} {A : Nat → Prop} (h0 : Nat) (h_inflow : Nat) (h_ways : Nat) (h_inflow_words : Nat) (h_skips : Nat) (h_samples : Nat) (h_line : Nat) (f_width : Int32) (f_height : Int32) (f_rowsRead : Int32) (f_copyBefore : Int32) (f_inflow_count : Int32) (f_ways_typical : Int32) (f_ways_byFax : Int32) (f_ways_open : Int32) (n_inflow_words : Nat) (g_inflow_words : Nat → Int32) (o_r : Int32) (o_f_bitsRead : Int32) (o_f_ended : Int32) (o_f_refusal : Int32) (o_f_current : Int32) (o_f_currentIsCopy : Int32) (o_f_inflow_next : Int32) (C0 : cx p s m meth c args b_Reader_startRow (some .boolean) 1 R_Reader D cI cZ cJ tq A) (hA : ∀ q : Nat, s.heap.size ≤ q → A q) : ∀ (f_bitsRead : Int32) (f_ended : Int32) (f_refusal : Int32) (f_current : Int32) (f_currentIsCopy : Int32) (f_inflow_next : Int32) (H : Heap) (locs : List Loc) (ls : Array Slot), va_P D classes (wd_Reader_startRow cI cZ cJ tq h0 h_inflow h_ways h_inflow_words h_skips h_samples h_line f_width f_height f_bitsRead f_rowsRead f_copyBefore f_ended f_refusal f_current f_currentIsCopy f_inflow_count f_inflow_next f_ways_typical f_ways_byFax f_ways_open n_inflow_words g_inflow_words) H → va_D A (wd_Reader_startRow cI cZ cJ tq h0 h_inflow h_ways h_inflow_words h_skips h_samples h_line f_width f_height f_bitsRead f_rowsRead f_copyBefore f_ended f_refusal f_current f_currentIsCopy f_inflow_count f_inflow_next f_ways_typical f_ways_byFax f_ways_open n_inflow_words g_inflow_words) → va_S A s.heap H locs → lv_has ls 1 [] → F_Reader_startRow_38 f_height f_rowsRead f_inflow_count f_ways_open n_inflow_words g_inflow_words f_bitsRead f_ended f_refusal f_current f_currentIsCopy f_inflow_next = some (o_r, o_f_bitsRead, o_f_ended, o_f_refusal, o_f_current, o_f_currentIsCopy, o_f_inflow_next) → W p l e RM_Reader_startRow s m args below meth c H locs 0 0 (MQ below (qI D cI cZ cJ A o_r (wd_Reader_startRow cI cZ cJ tq h0 h_inflow h_ways h_inflow_words h_skips h_samples h_line f_width f_height o_f_bitsRead f_rowsRead f_copyBefore o_f_ended o_f_refusal o_f_current o_f_currentIsCopy f_inflow_count o_f_inflow_next f_ways_typical f_ways_byFax f_ways_open n_inflow_words g_inflow_words)) args s 0 0 A) (F0 m 38 ls []) := by
  obtain ⟨hx, hb, hr, hml, hown, htw, hlocks, hK, hG⟩ := id C0
  intro f_bitsRead f_ended f_refusal f_current f_currentIsCopy f_inflow_next H locs ls hP hD hS hl hf
  unfold F_Reader_startRow_38 at hf
  refine lv_iconst (v := 1) hx hb d_Reader_startRow_38 (by decide) ?_
  refine lv_goto (tgt := 43) hx hb d_Reader_startRow_39 (by decide) ?_
  obtain ⟨e0, e1, e2, e3, e4, e5, e6⟩ := so7 hf
  subst e0; subst e1; subst e2; subst e3; subst e4; subst e5; subst e6
  exact W.zret (v := 1) hx hb hr rfl (fun t ht hW => ⟨⟨_, (), rfl, rfl, by rw [ht]; exact hP, va_K.moved hW.alike hK, hD⟩, hS.F ht⟩) hS.2.2 d_Reader_startRow_43 hlocks
set_option maxHeartbeats 4000000 in
set_option maxRecDepth 100000 in
theorem c_Reader_startRow (l : Launch) (D : va_G) (cI cZ cJ : ClassId) (tq : Nat → Nat) (h0 : Nat) (h_inflow : Nat) (h_ways : Nat) (h_inflow_words : Nat) (h_skips : Nat) (h_samples : Nat) (h_line : Nat) (sz : Nat) (f_width : Int32) (f_height : Int32) (f_bitsRead : Int32) (f_rowsRead : Int32) (f_copyBefore : Int32) (f_ended : Int32) (f_refusal : Int32) (f_current : Int32) (f_currentIsCopy : Int32) (f_inflow_count : Int32) (f_inflow_next : Int32) (f_ways_typical : Int32) (f_ways_byFax : Int32) (f_ways_open : Int32) (n_inflow_words : Nat) (g_inflow_words : Nat → Int32) (o_r : Int32) (o_f_bitsRead : Int32) (o_f_ended : Int32) (o_f_refusal : Int32) (o_f_current : Int32) (o_f_currentIsCopy : Int32) (o_f_inflow_next : Int32) (hf : F_Reader_startRow f_height f_bitsRead f_rowsRead f_ended f_refusal f_current f_currentIsCopy f_inflow_count f_inflow_next f_ways_open n_inflow_words g_inflow_words = some (o_r, o_f_bitsRead, o_f_ended, o_f_refusal, o_f_current, o_f_currentIsCopy, o_f_inflow_next)) : Met l y_Reader_startRow ws_Reader_startRow RM_Reader_startRow (va_Pc [.ref h0] (Pg D cI cZ cJ tq (wd_Reader_startRow cI cZ cJ tq h0 h_inflow h_ways h_inflow_words h_skips h_samples h_line f_width f_height f_bitsRead f_rowsRead f_copyBefore f_ended f_refusal f_current f_currentIsCopy f_inflow_count f_inflow_next f_ways_typical f_ways_byFax f_ways_open n_inflow_words g_inflow_words) sz)) (qI D cI cZ cJ (va_A (wd_Reader_startRow cI cZ cJ tq h0 h_inflow h_ways h_inflow_words h_skips h_samples h_line f_width f_height f_bitsRead f_rowsRead f_copyBefore f_ended f_refusal f_current f_currentIsCopy f_inflow_count f_inflow_next f_ways_typical f_ways_byFax f_ways_open n_inflow_words g_inflow_words) sz) o_r (wd_Reader_startRow cI cZ cJ tq h0 h_inflow h_ways h_inflow_words h_skips h_samples h_line f_width f_height o_f_bitsRead f_rowsRead f_copyBefore o_f_ended o_f_refusal o_f_current o_f_currentIsCopy f_inflow_count o_f_inflow_next f_ways_typical f_ways_byFax f_ways_open n_inflow_words g_inflow_words)) 0 0 (va_A (wd_Reader_startRow cI cZ cJ tq h0 h_inflow h_ways h_inflow_words h_skips h_samples h_line f_width f_height f_bitsRead f_rowsRead f_copyBefore f_ended f_refusal f_current f_currentIsCopy f_inflow_count f_inflow_next f_ways_typical f_ways_byFax f_ways_open n_inflow_words g_inflow_words) sz) := by
  refine Met.ofW (cc := b_Reader_startRow) (maxL := 1) (ret := (some .boolean)) (by decide) rfl ?_
  intro p e s m args below meth c s₁ B hml hv
  obtain ⟨rfl, hsz, hP, hK, hD0, hG⟩ := hv
  have hx := B.exec
  have hb := B.bytes
  have hr := B.returns
  have htw : ∀ w ∈ W_all, w.before [.ref h0].toArray s = true := fun w h => atoms_spec (ws := ws_Reader_startRow) B.pre w (List.mem_cons_of_mem _ h)
  have hown : s.vm.findClass R_Reader = some m.cls := findClass_of_methodNamed B.named
  have hlocks := B.notSynchronized
  subst hsz
  have hD := hD0.self (sz := s.heap.size)
  generalize hAe : va_A (wd_Reader_startRow cI cZ cJ tq h0 h_inflow h_ways h_inflow_words h_skips h_samples h_line f_width f_height f_bitsRead f_rowsRead f_copyBefore f_ended f_refusal f_current f_currentIsCopy f_inflow_count f_inflow_next f_ways_typical f_ways_byFax f_ways_open n_inflow_words g_inflow_words) s.heap.size = A at hD hG ⊢
  have hA : ∀ q : Nat, s.heap.size ≤ q → A q := fun q h => by rw [← hAe]; exact Or.inr h
  have hS : va_S A s.heap s.heap [] := va_S.rf
  have C0 : cx p s m meth c [.ref h0].toArray b_Reader_startRow (some .boolean) 1 R_Reader D cI cZ cJ tq A := ⟨hx, hb, hr, hml, hown, htw, hlocks, hK, hG⟩
  have hl := lv_entry ([.ref h0]) (n := 1) (Nat.le_of_ble_eq_true rfl)
  rw [lg_entry_eq]
  generalize (lg_sl ([.ref h0]) ++ List.replicate (1 - (lg_sl ([.ref h0])).length) Slot.unset).toArray = ls at hl ⊢
  have hl : lv_has ls 1 [(0, .ref h0)] := hl
  have hP : va_P D classes (wd_Reader_startRow cI cZ cJ tq h0 h_inflow h_ways h_inflow_words h_skips h_samples h_line f_width f_height f_bitsRead f_rowsRead f_copyBefore f_ended f_refusal f_current f_currentIsCopy f_inflow_count f_inflow_next f_ways_typical f_ways_byFax f_ways_open n_inflow_words g_inflow_words) s.heap := hP
  clear hAe
  unfold F_Reader_startRow at hf
  refine lv_aload_n hx hb d_Reader_startRow_0 rfl (lv_at hl 0 rfl) ?_
  refine va_get (D := D) (ci := 5) (v := .ref h_inflow) (C := R_Reader) (T := F_Reader) (N := 14) hx hb htw i_Reader hown hK hP 0 rfl rfl 4 (by decide) (htw _ in74) (fun _ h9 => h9) rfl d_Reader_startRow_1 ?_
  refine lv_aload_n hx hb d_Reader_startRow_4 rfl (lv_at hl 0 rfl) ?_
  refine va_get (D := D) (ci := 5) (v := .int f_bitsRead) (C := R_Reader) (T := F_Reader) (N := 14) hx hb htw i_Reader hown hK hP 0 rfl rfl 7 (by decide) (htw _ in91) (fun _ h9 => h9) rfl d_Reader_startRow_5 ?_
  obtain ⟨w8_f_next, e8, hf⟩ := bd1_some hf
  refine g_callv (wc := (wd_Inflow_goTo cI cZ cJ tq h_inflow h_inflow_words f_inflow_count f_inflow_next)) (w1 := (wd_Inflow_goTo cI cZ cJ tq h_inflow h_inflow_words f_inflow_count w8_f_next)) (ws' := (wd_Reader_startRow cI cZ cJ tq h0 h_inflow h_ways h_inflow_words h_skips h_samples h_line f_width f_height f_bitsRead f_rowsRead f_copyBefore f_ended f_refusal f_current f_currentIsCopy f_inflow_count w8_f_next f_ways_typical f_ways_byFax f_ways_open n_inflow_words g_inflow_words)) (va_runV (As := [.int f_bitsRead]) (rest := []) ⟨hx, hb, hml, hown, htw⟩ (c_Inflow_goTo l D cI cZ cJ tq h_inflow h_inflow_words _ f_inflow_count f_inflow_next f_bitsRead w8_f_next e8) (cwV 1 htw (gd_V in107 in108 in109 in101 in106) rfl rfl rfl (by decide +kernel) ⟨Nat.le_of_ble_eq_true rfl, Nat.le_of_ble_eq_true rfl⟩) (preV_of (ci := 2) (q0 := 1) hG hS (va_free (wc := (wd_Inflow_goTo cI cZ cJ tq h_inflow h_inflow_words f_inflow_count f_inflow_next)) hD hS hA [1] rfl) hK hP rfl rfl (hP.sub (ws' := (wd_Inflow_goTo cI cZ cJ tq h_inflow h_inflow_words f_inflow_count f_inflow_next)) [1] rfl) (hD.sub (ws' := (wd_Inflow_goTo cI cZ cJ tq h_inflow h_inflow_words f_inflow_count f_inflow_next)) [1] (by decide) rfl)) rfl rfl hl.1 rfl (lv_room (Nat.le_of_ble_eq_true rfl)) d_Reader_startRow_8 ⟨Nat.le_of_ble_eq_true rfl, Nat.le_of_ble_eq_true rfl⟩) hP hD hS hA [1] [0, 2, 3] [0, 3, 1, 2] rfl rfl (by decide) (by decide) (by decide) rfl (fun H locs hP hD hS => ?_)
  refine lv_aload_n hx hb d_Reader_startRow_11 rfl (lv_at hl 0 rfl) ?_
  refine lv_iconst (v := 0) hx hb d_Reader_startRow_12 (by decide) ?_
  refine va_put (D := D) (ci := 5) (v := .int 0) (ty := .int) (C := R_Reader) (T := F_Reader) (N := 14) hx hb htw i_Reader t_Reader t_Reader_ok n_Reader hown hK hP hD hS 0 rfl rfl 12 (by decide) (htw _ in110) (fun _ h9 => h9) rfl (by decide +kernel) rfl rfl (Nat.le_of_ble_eq_true rfl) d_Reader_startRow_13 (fun H locs hP hD hS => ?_)
  have hP : va_P D classes (wd_Reader_startRow cI cZ cJ tq h0 h_inflow h_ways h_inflow_words h_skips h_samples h_line f_width f_height f_bitsRead f_rowsRead f_copyBefore f_ended f_refusal 0 f_currentIsCopy f_inflow_count w8_f_next f_ways_typical f_ways_byFax f_ways_open n_inflow_words g_inflow_words) H := hP
  have hD : va_D A (wd_Reader_startRow cI cZ cJ tq h0 h_inflow h_ways h_inflow_words h_skips h_samples h_line f_width f_height f_bitsRead f_rowsRead f_copyBefore f_ended f_refusal 0 f_currentIsCopy f_inflow_count w8_f_next f_ways_typical f_ways_byFax f_ways_open n_inflow_words g_inflow_words) := hD
  refine lv_aload_n hx hb d_Reader_startRow_16 rfl (lv_at hl 0 rfl) ?_
  refine lv_iconst (v := 0) hx hb d_Reader_startRow_17 (by decide) ?_
  refine va_put (D := D) (ci := 5) (v := .int 0) (ty := .boolean) (C := R_Reader) (T := F_Reader) (N := 14) hx hb htw i_Reader t_Reader t_Reader_ok n_Reader hown hK hP hD hS 0 rfl rfl 13 (by decide) (htw _ in111) (fun _ h9 => h9) rfl (by decide +kernel) rfl rfl (Nat.le_of_ble_eq_true rfl) d_Reader_startRow_18 (fun H locs hP hD hS => ?_)
  have hP : va_P D classes (wd_Reader_startRow cI cZ cJ tq h0 h_inflow h_ways h_inflow_words h_skips h_samples h_line f_width f_height f_bitsRead f_rowsRead f_copyBefore f_ended f_refusal 0 0 f_inflow_count w8_f_next f_ways_typical f_ways_byFax f_ways_open n_inflow_words g_inflow_words) H := hP
  have hD : va_D A (wd_Reader_startRow cI cZ cJ tq h0 h_inflow h_ways h_inflow_words h_skips h_samples h_line f_width f_height f_bitsRead f_rowsRead f_copyBefore f_ended f_refusal 0 0 f_inflow_count w8_f_next f_ways_typical f_ways_byFax f_ways_open n_inflow_words g_inflow_words) := hD
  refine lv_aload_n hx hb d_Reader_startRow_21 rfl (lv_at hl 0 rfl) ?_
  refine va_get (D := D) (ci := 5) (v := .ref h_ways) (C := R_Reader) (T := F_Reader) (N := 14) hx hb htw i_Reader hown hK hP 0 rfl rfl 3 (by decide) (htw _ in73) (fun _ h9 => h9) rfl d_Reader_startRow_22 ?_
  obtain ⟨r25, e25, hf⟩ := bd1_some hf
  refine g_calli (wc := (wd_Ways_open cI cZ cJ tq h_ways f_ways_typical f_ways_byFax f_ways_open)) (w1 := (wd_Ways_open cI cZ cJ tq h_ways f_ways_typical f_ways_byFax f_ways_open)) (ws' := (wd_Reader_startRow cI cZ cJ tq h0 h_inflow h_ways h_inflow_words h_skips h_samples h_line f_width f_height f_bitsRead f_rowsRead f_copyBefore f_ended f_refusal 0 0 f_inflow_count w8_f_next f_ways_typical f_ways_byFax f_ways_open n_inflow_words g_inflow_words)) (va_runV (As := []) (rest := []) ⟨hx, hb, hml, hown, htw⟩ (c_Ways_open l D cI cZ cJ tq h_ways _ f_ways_typical f_ways_byFax f_ways_open r25 e25) (cwV 0 htw (gd_V in113 in114 in115 in116 in112) rfl rfl rfl (by decide +kernel) ⟨Nat.le_of_ble_eq_true rfl, Nat.le_of_ble_eq_true rfl⟩) (preV_of (ci := 8) (q0 := 2) hG hS (va_free (wc := (wd_Ways_open cI cZ cJ tq h_ways f_ways_typical f_ways_byFax f_ways_open)) hD hS hA [2] rfl) hK hP rfl rfl (hP.sub (ws' := (wd_Ways_open cI cZ cJ tq h_ways f_ways_typical f_ways_byFax f_ways_open)) [2] rfl) (hD.sub (ws' := (wd_Ways_open cI cZ cJ tq h_ways f_ways_typical f_ways_byFax f_ways_open)) [2] (by decide) rfl)) rfl rfl hl.1 rfl (lv_room (Nat.le_of_ble_eq_true rfl)) d_Reader_startRow_25 ⟨Nat.le_of_ble_eq_true rfl, Nat.le_of_ble_eq_true rfl⟩) hP hD hS hA [2] [0, 1, 3] [0, 1, 3, 2] rfl rfl (by decide) (by decide) (by decide) rfl (fun H locs hP hD hS => ?_)
  refine lv_if_eq (tgt := 38) hx hb d_Reader_startRow_28 (by decide) (fun c28 => ?_) (fun c28 => ?_)
  · have hf := it_t hf c28
    exact w_Reader_startRow_38 h0 h_inflow h_ways h_inflow_words h_skips h_samples h_line f_width f_height f_rowsRead f_copyBefore f_inflow_count f_ways_typical f_ways_byFax f_ways_open n_inflow_words g_inflow_words o_r o_f_bitsRead o_f_ended o_f_refusal o_f_current o_f_currentIsCopy o_f_inflow_next C0 hA f_bitsRead f_ended f_refusal 0 0 w8_f_next _ _ ls hP hD hS (lv_sub hl [] rfl) hf
  · have hf := it_f hf c28
    refine lv_aload_n hx hb d_Reader_startRow_31 rfl (lv_at hl 0 rfl) ?_
    obtain ⟨r32, w32_f_bitsRead, w32_f_ended, w32_f_refusal, w32_f_inflow_next, e32, hf⟩ := bd5_some hf
    refine g_calli (wc := (wd_Reader_readOpening cI cZ cJ tq h0 h_inflow h_inflow_words h_skips h_ways h_samples h_line f_width f_height f_bitsRead f_rowsRead f_copyBefore f_ended f_refusal 0 0 f_inflow_count w8_f_next n_inflow_words g_inflow_words)) (w1 := (wd_Reader_readOpening cI cZ cJ tq h0 h_inflow h_inflow_words h_skips h_ways h_samples h_line f_width f_height w32_f_bitsRead f_rowsRead f_copyBefore w32_f_ended w32_f_refusal 0 0 f_inflow_count w32_f_inflow_next n_inflow_words g_inflow_words)) (ws' := (wd_Reader_startRow cI cZ cJ tq h0 h_inflow h_ways h_inflow_words h_skips h_samples h_line f_width f_height w32_f_bitsRead f_rowsRead f_copyBefore w32_f_ended w32_f_refusal 0 0 f_inflow_count w32_f_inflow_next f_ways_typical f_ways_byFax f_ways_open n_inflow_words g_inflow_words)) (va_runV (As := []) (rest := []) ⟨hx, hb, hml, hown, htw⟩ (c_Reader_readOpening l D cI cZ cJ tq h0 h_inflow h_inflow_words h_skips h_ways h_samples h_line _ f_width f_height f_bitsRead f_rowsRead f_copyBefore f_ended f_refusal 0 0 f_inflow_count w8_f_next n_inflow_words g_inflow_words r32 w32_f_bitsRead w32_f_ended w32_f_refusal w32_f_inflow_next e32) (cwV 0 htw (gd_V in118 in119 in120 in121 in117) rfl rfl rfl (by decide +kernel) ⟨Nat.le_of_ble_eq_true rfl, Nat.le_of_ble_eq_true rfl⟩) (preV_of (ci := 5) (q0 := 0) hG hS (va_free (wc := (wd_Reader_readOpening cI cZ cJ tq h0 h_inflow h_inflow_words h_skips h_ways h_samples h_line f_width f_height f_bitsRead f_rowsRead f_copyBefore f_ended f_refusal 0 0 f_inflow_count w8_f_next n_inflow_words g_inflow_words)) hD hS hA [0, 1, 3] rfl) hK hP rfl rfl (hP.sub (ws' := (wd_Reader_readOpening cI cZ cJ tq h0 h_inflow h_inflow_words h_skips h_ways h_samples h_line f_width f_height f_bitsRead f_rowsRead f_copyBefore f_ended f_refusal 0 0 f_inflow_count w8_f_next n_inflow_words g_inflow_words)) [0, 1, 3] rfl) (hD.sub (ws' := (wd_Reader_readOpening cI cZ cJ tq h0 h_inflow h_inflow_words h_skips h_ways h_samples h_line f_width f_height f_bitsRead f_rowsRead f_copyBefore f_ended f_refusal 0 0 f_inflow_count w8_f_next n_inflow_words g_inflow_words)) [0, 1, 3] (by decide) rfl)) rfl rfl hl.1 rfl (lv_room (Nat.le_of_ble_eq_true rfl)) d_Reader_startRow_32 ⟨Nat.le_of_ble_eq_true rfl, Nat.le_of_ble_eq_true rfl⟩) hP hD hS hA [0, 1, 3] [2] [1, 2, 0, 3] rfl rfl (by decide) (by decide) (by decide) rfl (fun H locs hP hD hS => ?_)
    refine lv_if_eq (tgt := 42) hx hb d_Reader_startRow_35 (by decide) (fun c35 => ?_) (fun c35 => ?_)
    · have hf := it_t hf c35
      refine lv_iconst (v := 0) hx hb d_Reader_startRow_42 (by decide) ?_
      obtain ⟨e0, e1, e2, e3, e4, e5, e6⟩ := so7 hf
      subst e0; subst e1; subst e2; subst e3; subst e4; subst e5; subst e6
      exact W.zret (v := 0) hx hb hr rfl (fun t ht hW => ⟨⟨_, (), rfl, rfl, by rw [ht]; exact hP, va_K.moved hW.alike hK, hD⟩, hS.F ht⟩) hS.2.2 d_Reader_startRow_43 hlocks
    · have hf := it_f hf c35
      exact w_Reader_startRow_38 h0 h_inflow h_ways h_inflow_words h_skips h_samples h_line f_width f_height f_rowsRead f_copyBefore f_inflow_count f_ways_typical f_ways_byFax f_ways_open n_inflow_words g_inflow_words o_r o_f_bitsRead o_f_ended o_f_refusal o_f_current o_f_currentIsCopy o_f_inflow_next C0 hA w32_f_bitsRead w32_f_ended w32_f_refusal 0 0 w32_f_inflow_next _ _ ls hP hD hS (lv_sub hl [] rfl) hf
-- Ways_byFax
abbrev RM_Ways_byFax : Room := { frames := 0, cells := 0, slots := 0, locals := 0 }
def ws_Ways_byFax : List Cond := .code y_Ways_byFax b_Ways_byFax 1 (some .boolean) :: W_all
def wd_Ways_byFax (cI cZ cJ : ClassId) (tq : Nat → Nat) (h0 : Nat) (f_typical : Int32) (f_byFax : Int32) (f_open : Int32) : va_W := [(h0, .inr (8, [.int f_typical, .int f_byFax, .int f_open]))]
def F_Ways_byFax (f_byFax : Int32) : Option (Int32) :=
  (if ¬ (f_byFax = 0 ∨ f_byFax = 1) then none else (some f_byFax))
set_option maxHeartbeats 4000000 in
set_option maxRecDepth 100000 in
theorem c_Ways_byFax (l : Launch) (D : va_G) (cI cZ cJ : ClassId) (tq : Nat → Nat) (h0 : Nat) (sz : Nat) (f_typical : Int32) (f_byFax : Int32) (f_open : Int32) (o_r : Int32) (hf : F_Ways_byFax f_byFax = some o_r) : Met l y_Ways_byFax ws_Ways_byFax RM_Ways_byFax (va_Pc [.ref h0] (Pg D cI cZ cJ tq (wd_Ways_byFax cI cZ cJ tq h0 f_typical f_byFax f_open) sz)) (qI D cI cZ cJ (va_A (wd_Ways_byFax cI cZ cJ tq h0 f_typical f_byFax f_open) sz) o_r (wd_Ways_byFax cI cZ cJ tq h0 f_typical f_byFax f_open)) 0 0 (va_A (wd_Ways_byFax cI cZ cJ tq h0 f_typical f_byFax f_open) sz) := by
  refine Met.ofW (cc := b_Ways_byFax) (maxL := 1) (ret := (some .boolean)) (by decide) rfl ?_
  intro p e s m args below meth c s₁ B hml hv
  obtain ⟨rfl, hsz, hP, hK, hD0, hG⟩ := hv
  have hx := B.exec
  have hb := B.bytes
  have hr := B.returns
  have htw : ∀ w ∈ W_all, w.before [.ref h0].toArray s = true := fun w h => atoms_spec (ws := ws_Ways_byFax) B.pre w (List.mem_cons_of_mem _ h)
  have hown : s.vm.findClass R_Ways = some m.cls := findClass_of_methodNamed B.named
  have hlocks := B.notSynchronized
  subst hsz
  have hD := hD0.self (sz := s.heap.size)
  generalize hAe : va_A (wd_Ways_byFax cI cZ cJ tq h0 f_typical f_byFax f_open) s.heap.size = A at hD hG ⊢
  have hA : ∀ q : Nat, s.heap.size ≤ q → A q := fun q h => by rw [← hAe]; exact Or.inr h
  have hS : va_S A s.heap s.heap [] := va_S.rf
  have C0 : cx p s m meth c [.ref h0].toArray b_Ways_byFax (some .boolean) 1 R_Ways D cI cZ cJ tq A := ⟨hx, hb, hr, hml, hown, htw, hlocks, hK, hG⟩
  have hl := lv_entry ([.ref h0]) (n := 1) (Nat.le_of_ble_eq_true rfl)
  rw [lg_entry_eq]
  generalize (lg_sl ([.ref h0]) ++ List.replicate (1 - (lg_sl ([.ref h0])).length) Slot.unset).toArray = ls at hl ⊢
  have hl : lv_has ls 1 [(0, .ref h0)] := hl
  have hP : va_P D classes (wd_Ways_byFax cI cZ cJ tq h0 f_typical f_byFax f_open) s.heap := hP
  clear hAe
  unfold F_Ways_byFax at hf
  refine lv_aload_n hx hb d_Ways_byFax_0 rfl (lv_at hl 0 rfl) ?_
  refine va_get (D := D) (ci := 8) (v := .int f_byFax) (C := R_Ways) (T := F_Ways) (N := 3) hx hb htw i_Ways hown hK hP 0 rfl rfl 1 (by decide) (htw _ in122) (fun _ h9 => h9) rfl d_Ways_byFax_1 ?_
  by_cases g4 : ¬ (f_byFax = 0 ∨ f_byFax = 1)
  · exact no_some (it_t hf g4)
  have hf := it_f hf g4
  have e0 := Option.some.inj hf
  subst e0
  exact W.zret (v := f_byFax) hx hb hr (bz_nar g4) (fun t ht hW => ⟨⟨_, (), rfl, rfl, by rw [ht]; exact hP, va_K.moved hW.alike hK, hD⟩, hS.F ht⟩) hS.2.2 d_Ways_byFax_4 hlocks
