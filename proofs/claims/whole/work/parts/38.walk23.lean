-- Md_told
abbrev RM_Md_told : Room := { frames := 1, cells := 0, slots := 0, locals := 20 }
def ws_Md_told : List Cond := .code y_Md_told b_Md_told 2 (some .int) :: W_all
def wd_Md_told (cI cZ cJ : ClassId) (tq : Nat → Nat) (h0 : Nat) (h_fine : Nat) (h_middle : Nat) (h_coarse : Nat) (h_flat : Nat) (h_looseOnes : Nat) (h_places : Nat) (h_black : Nat) (h_skipped : Nat) (h_known : Nat) (h_bits : Nat) (h_contexts : Nat) (h_rowsOf : Nat) (h_came : Nat) (h_found : Nat) (f_code : Int32) (f_width : Int32) (f_height : Int32) (f_template : Int32) (f_placeMany : Int32) (f_isTypical : Int32) (f_isFax : Int32) (f_isOpen : Int32) (f_toldMany : Int32) (f_passed : Int32) (f_copied : Int32) (f_cameMany : Int32) (f_readBits : Int32) (f_rowsRead : Int32) (f_isDone : Int32) (f_refused : Int32) (f_at : Int32) (f_lacks : Int32) (f_why : Int32) (f_wasCopy : Int32) (f_place : Int32) (f_colour : Int32) : va_W := [(h0, .inr (9, [.ref h_fine, .ref h_middle, .ref h_coarse, .ref h_flat, .ref h_looseOnes, .int f_code, .int f_width, .int f_height, .int f_template, .int f_placeMany, .ref h_places, .ref h_black, .ref h_skipped, .int f_isTypical, .int f_isFax, .int f_isOpen, .int f_toldMany, .int f_passed, .int f_copied, .ref h_known, .ref h_bits, .ref h_contexts, .ref h_rowsOf, .int f_cameMany, .ref h_came, .ref h_found, .int f_readBits, .int f_rowsRead, .int f_isDone, .int f_refused, .int f_at, .int f_lacks, .int f_why, .int f_wasCopy, .int f_place, .int f_colour]))]
def F_Md_told (x1 : Int32) (f_code : Int32) (f_width : Int32) (f_height : Int32) (f_template : Int32) (f_toldMany : Int32) (f_cameMany : Int32) (f_readBits : Int32) (f_rowsRead : Int32) (f_isDone : Int32) : Option (Int32 × Int32) :=
  (if x1 = 0 then (some (f_width, 0)) else (if x1 = 1 then (some (f_height, 0)) else (if x1 = 2 then (some (f_template, 0)) else (if x1 = 3 then (bd1 (F_Md_looseMany f_template) (fun r72 => (some (r72, 0)))) else (if x1 = 4 then (some (f_toldMany, 0)) else (if x1 = 5 then (some (f_cameMany, 0)) else (if x1 = 6 then (some (f_readBits, 0)) else (if x1 = 7 then (some (f_rowsRead, 0)) else (if x1 = 8 then (if f_isDone = 0 then (some (0, 0)) else (some (1, 0))) else (some ((-1), 0)))))))))))
set_option maxHeartbeats 4000000 in
set_option maxRecDepth 100000 in
theorem c_Md_told (l : Launch) (D : va_G) (cI cZ cJ : ClassId) (tq : Nat → Nat) (h0 : Nat) (h_fine : Nat) (h_middle : Nat) (h_coarse : Nat) (h_flat : Nat) (h_looseOnes : Nat) (h_places : Nat) (h_black : Nat) (h_skipped : Nat) (h_known : Nat) (h_bits : Nat) (h_contexts : Nat) (h_rowsOf : Nat) (h_came : Nat) (h_found : Nat) (sz : Nat) (f_code : Int32) (f_width : Int32) (f_height : Int32) (f_template : Int32) (f_placeMany : Int32) (f_isTypical : Int32) (f_isFax : Int32) (f_isOpen : Int32) (f_toldMany : Int32) (f_passed : Int32) (f_copied : Int32) (f_cameMany : Int32) (f_readBits : Int32) (f_rowsRead : Int32) (f_isDone : Int32) (f_refused : Int32) (f_at : Int32) (f_lacks : Int32) (f_why : Int32) (f_wasCopy : Int32) (f_place : Int32) (f_colour : Int32) (x1 : Int32) (o_r : Int32) (o_f_code : Int32) (hf : F_Md_told x1 f_code f_width f_height f_template f_toldMany f_cameMany f_readBits f_rowsRead f_isDone = some (o_r, o_f_code)) : Met l y_Md_told ws_Md_told RM_Md_told (va_Pc [.ref h0, .int x1] (Pg D cI cZ cJ tq (wd_Md_told cI cZ cJ tq h0 h_fine h_middle h_coarse h_flat h_looseOnes h_places h_black h_skipped h_known h_bits h_contexts h_rowsOf h_came h_found f_code f_width f_height f_template f_placeMany f_isTypical f_isFax f_isOpen f_toldMany f_passed f_copied f_cameMany f_readBits f_rowsRead f_isDone f_refused f_at f_lacks f_why f_wasCopy f_place f_colour) sz)) (qI D cI cZ cJ (va_A (wd_Md_told cI cZ cJ tq h0 h_fine h_middle h_coarse h_flat h_looseOnes h_places h_black h_skipped h_known h_bits h_contexts h_rowsOf h_came h_found f_code f_width f_height f_template f_placeMany f_isTypical f_isFax f_isOpen f_toldMany f_passed f_copied f_cameMany f_readBits f_rowsRead f_isDone f_refused f_at f_lacks f_why f_wasCopy f_place f_colour) sz) o_r (wd_Md_told cI cZ cJ tq h0 h_fine h_middle h_coarse h_flat h_looseOnes h_places h_black h_skipped h_known h_bits h_contexts h_rowsOf h_came h_found o_f_code f_width f_height f_template f_placeMany f_isTypical f_isFax f_isOpen f_toldMany f_passed f_copied f_cameMany f_readBits f_rowsRead f_isDone f_refused f_at f_lacks f_why f_wasCopy f_place f_colour)) 0 0 (va_A (wd_Md_told cI cZ cJ tq h0 h_fine h_middle h_coarse h_flat h_looseOnes h_places h_black h_skipped h_known h_bits h_contexts h_rowsOf h_came h_found f_code f_width f_height f_template f_placeMany f_isTypical f_isFax f_isOpen f_toldMany f_passed f_copied f_cameMany f_readBits f_rowsRead f_isDone f_refused f_at f_lacks f_why f_wasCopy f_place f_colour) sz) := by
  refine Met.ofW (cc := b_Md_told) (maxL := 2) (ret := (some .int)) (by decide) rfl ?_
  intro p e s m args below meth c s₁ B hml hv
  obtain ⟨rfl, hsz, hP, hK, hD0, hG⟩ := hv
  have hx := B.exec
  have hb := B.bytes
  have hr := B.returns
  have htw : ∀ w ∈ W_all, w.before [.ref h0, .int x1].toArray s = true := fun w h => atoms_spec (ws := ws_Md_told) B.pre w (List.mem_cons_of_mem _ h)
  have hown : s.vm.findClass R_Md = some m.cls := findClass_of_methodNamed B.named
  have hlocks := B.notSynchronized
  subst hsz
  have hD := hD0.self (sz := s.heap.size)
  generalize hAe : va_A (wd_Md_told cI cZ cJ tq h0 h_fine h_middle h_coarse h_flat h_looseOnes h_places h_black h_skipped h_known h_bits h_contexts h_rowsOf h_came h_found f_code f_width f_height f_template f_placeMany f_isTypical f_isFax f_isOpen f_toldMany f_passed f_copied f_cameMany f_readBits f_rowsRead f_isDone f_refused f_at f_lacks f_why f_wasCopy f_place f_colour) s.heap.size = A at hD hG ⊢
  have hA : ∀ q : Nat, s.heap.size ≤ q → A q := fun q h => by rw [← hAe]; exact Or.inr h
  have hS : va_S A s.heap s.heap [] := va_S.rf
  have C0 : cx p s m meth c [.ref h0, .int x1].toArray b_Md_told (some .int) 2 R_Md D cI cZ cJ tq A := ⟨hx, hb, hr, hml, hown, htw, hlocks, hK, hG⟩
  have hl := lv_entry ([.ref h0, .int x1]) (n := 2) (Nat.le_of_ble_eq_true rfl)
  rw [lg_entry_eq]
  generalize (lg_sl ([.ref h0, .int x1]) ++ List.replicate (2 - (lg_sl ([.ref h0, .int x1])).length) Slot.unset).toArray = ls at hl ⊢
  have hl : lv_has ls 2 [(0, .ref h0), (1, .int x1)] := hl
  have hP : va_P D classes (wd_Md_told cI cZ cJ tq h0 h_fine h_middle h_coarse h_flat h_looseOnes h_places h_black h_skipped h_known h_bits h_contexts h_rowsOf h_came h_found f_code f_width f_height f_template f_placeMany f_isTypical f_isFax f_isOpen f_toldMany f_passed f_copied f_cameMany f_readBits f_rowsRead f_isDone f_refused f_at f_lacks f_why f_wasCopy f_place f_colour) s.heap := hP
  clear hAe
  unfold F_Md_told at hf
  refine lv_aload_n hx hb d_Md_told_0 rfl (lv_at hl 0 rfl) ?_
  refine lv_iconst (v := 0) hx hb d_Md_told_1 (by decide) ?_
  refine va_put (D := D) (ci := 9) (v := .int 0) (ty := .int) (C := R_Md) (T := F_Md) (N := 36) hx hb htw i_Md t_Md t_Md_ok n_Md hown hK hP hD hS 0 rfl rfl 5 (by decide) (htw _ in448) (fun _ h9 => h9) rfl (by decide +kernel) rfl rfl (Nat.le_of_ble_eq_true rfl) d_Md_told_2 (fun H locs hP hD hS => ?_)
  have hP : va_P D classes (wd_Md_told cI cZ cJ tq h0 h_fine h_middle h_coarse h_flat h_looseOnes h_places h_black h_skipped h_known h_bits h_contexts h_rowsOf h_came h_found 0 f_width f_height f_template f_placeMany f_isTypical f_isFax f_isOpen f_toldMany f_passed f_copied f_cameMany f_readBits f_rowsRead f_isDone f_refused f_at f_lacks f_why f_wasCopy f_place f_colour) H := hP
  have hD : va_D A (wd_Md_told cI cZ cJ tq h0 h_fine h_middle h_coarse h_flat h_looseOnes h_places h_black h_skipped h_known h_bits h_contexts h_rowsOf h_came h_found 0 f_width f_height f_template f_placeMany f_isTypical f_isFax f_isOpen f_toldMany f_passed f_copied f_cameMany f_readBits f_rowsRead f_isDone f_refused f_at f_lacks f_why f_wasCopy f_place f_colour) := hD
  refine lv_iload_n hx hb d_Md_told_5 rfl (lv_at hl 1 rfl) ?_
  by_cases s6_0 : x1 = 0
  · have hf := it_t hf s6_0
    refine lv_tableIn (off := 50) (tgt := 56) hx hb d_Md_told_6 (by rw [s6_0]; decide) (by rw [s6_0]; decide) (by rw [s6_0]; decide) (by decide) ?_
    refine lv_aload_n hx hb d_Md_told_56 rfl (lv_at hl 0 rfl) ?_
    refine va_get (D := D) (ci := 9) (v := .int f_width) (C := R_Md) (T := F_Md) (N := 36) hx hb htw i_Md hown hK hP 0 rfl rfl 6 (by decide) (htw _ in487) (fun _ h9 => h9) rfl d_Md_told_57 ?_
    obtain ⟨e0, e1⟩ := so2 hf
    subst e0; subst e1
    exact W.iret (v := f_width) hx hb hr (fun t ht hW => ⟨⟨_, (), rfl, rfl, by rw [ht]; exact hP, va_K.moved hW.alike hK, hD⟩, hS.F ht⟩) hS.2.2 d_Md_told_60 hlocks
  have hf := it_f hf s6_0
  by_cases s6_1 : x1 = 1
  · have hf := it_t hf s6_1
    refine lv_tableIn (off := 55) (tgt := 61) hx hb d_Md_told_6 (by rw [s6_1]; decide) (by rw [s6_1]; decide) (by rw [s6_1]; decide) (by decide) ?_
    refine lv_aload_n hx hb d_Md_told_61 rfl (lv_at hl 0 rfl) ?_
    refine va_get (D := D) (ci := 9) (v := .int f_height) (C := R_Md) (T := F_Md) (N := 36) hx hb htw i_Md hown hK hP 0 rfl rfl 7 (by decide) (htw _ in488) (fun _ h9 => h9) rfl d_Md_told_62 ?_
    obtain ⟨e0, e1⟩ := so2 hf
    subst e0; subst e1
    exact W.iret (v := f_height) hx hb hr (fun t ht hW => ⟨⟨_, (), rfl, rfl, by rw [ht]; exact hP, va_K.moved hW.alike hK, hD⟩, hS.F ht⟩) hS.2.2 d_Md_told_65 hlocks
  have hf := it_f hf s6_1
  by_cases s6_2 : x1 = 2
  · have hf := it_t hf s6_2
    refine lv_tableIn (off := 60) (tgt := 66) hx hb d_Md_told_6 (by rw [s6_2]; decide) (by rw [s6_2]; decide) (by rw [s6_2]; decide) (by decide) ?_
    refine lv_aload_n hx hb d_Md_told_66 rfl (lv_at hl 0 rfl) ?_
    refine va_get (D := D) (ci := 9) (v := .int f_template) (C := R_Md) (T := F_Md) (N := 36) hx hb htw i_Md hown hK hP 0 rfl rfl 8 (by decide) (htw _ in456) (fun _ h9 => h9) rfl d_Md_told_67 ?_
    obtain ⟨e0, e1⟩ := so2 hf
    subst e0; subst e1
    exact W.iret (v := f_template) hx hb hr (fun t ht hW => ⟨⟨_, (), rfl, rfl, by rw [ht]; exact hP, va_K.moved hW.alike hK, hD⟩, hS.F ht⟩) hS.2.2 d_Md_told_70 hlocks
  have hf := it_f hf s6_2
  by_cases s6_3 : x1 = 3
  · have hf := it_t hf s6_3
    refine lv_tableIn (off := 65) (tgt := 71) hx hb d_Md_told_6 (by rw [s6_3]; decide) (by rw [s6_3]; decide) (by rw [s6_3]; decide) (by decide) ?_
    refine lv_aload_n hx hb d_Md_told_71 rfl (lv_at hl 0 rfl) ?_
    obtain ⟨r72, e72, hf⟩ := bd1_some hf
    refine g_calli (wc := (wd_Md_looseMany cI cZ cJ tq h0 h_fine h_middle h_coarse h_flat h_looseOnes h_places h_black h_skipped h_known h_bits h_contexts h_rowsOf h_came h_found 0 f_width f_height f_template f_placeMany f_isTypical f_isFax f_isOpen f_toldMany f_passed f_copied f_cameMany f_readBits f_rowsRead f_isDone f_refused f_at f_lacks f_why f_wasCopy f_place f_colour)) (w1 := (wd_Md_looseMany cI cZ cJ tq h0 h_fine h_middle h_coarse h_flat h_looseOnes h_places h_black h_skipped h_known h_bits h_contexts h_rowsOf h_came h_found 0 f_width f_height f_template f_placeMany f_isTypical f_isFax f_isOpen f_toldMany f_passed f_copied f_cameMany f_readBits f_rowsRead f_isDone f_refused f_at f_lacks f_why f_wasCopy f_place f_colour)) (ws' := (wd_Md_told cI cZ cJ tq h0 h_fine h_middle h_coarse h_flat h_looseOnes h_places h_black h_skipped h_known h_bits h_contexts h_rowsOf h_came h_found 0 f_width f_height f_template f_placeMany f_isTypical f_isFax f_isOpen f_toldMany f_passed f_copied f_cameMany f_readBits f_rowsRead f_isDone f_refused f_at f_lacks f_why f_wasCopy f_place f_colour)) (va_runV (As := []) (rest := []) ⟨hx, hb, hml, hown, htw⟩ (c_Md_looseMany l D cI cZ cJ tq h0 h_fine h_middle h_coarse h_flat h_looseOnes h_places h_black h_skipped h_known h_bits h_contexts h_rowsOf h_came h_found _ 0 f_width f_height f_template f_placeMany f_isTypical f_isFax f_isOpen f_toldMany f_passed f_copied f_cameMany f_readBits f_rowsRead f_isDone f_refused f_at f_lacks f_why f_wasCopy f_place f_colour r72 e72) (cwV 0 htw (gd_V in501 in502 in503 in455 in500) rfl rfl rfl (by decide +kernel) ⟨Nat.le_of_ble_eq_true rfl, Nat.le_of_ble_eq_true rfl⟩) (preV_of (ci := 9) (q0 := 0) hG hS (va_free (wc := (wd_Md_looseMany cI cZ cJ tq h0 h_fine h_middle h_coarse h_flat h_looseOnes h_places h_black h_skipped h_known h_bits h_contexts h_rowsOf h_came h_found 0 f_width f_height f_template f_placeMany f_isTypical f_isFax f_isOpen f_toldMany f_passed f_copied f_cameMany f_readBits f_rowsRead f_isDone f_refused f_at f_lacks f_why f_wasCopy f_place f_colour)) hD hS hA [0] rfl) hK hP rfl rfl (hP.sub (ws' := (wd_Md_looseMany cI cZ cJ tq h0 h_fine h_middle h_coarse h_flat h_looseOnes h_places h_black h_skipped h_known h_bits h_contexts h_rowsOf h_came h_found 0 f_width f_height f_template f_placeMany f_isTypical f_isFax f_isOpen f_toldMany f_passed f_copied f_cameMany f_readBits f_rowsRead f_isDone f_refused f_at f_lacks f_why f_wasCopy f_place f_colour)) [0] rfl) (hD.sub (ws' := (wd_Md_looseMany cI cZ cJ tq h0 h_fine h_middle h_coarse h_flat h_looseOnes h_places h_black h_skipped h_known h_bits h_contexts h_rowsOf h_came h_found 0 f_width f_height f_template f_placeMany f_isTypical f_isFax f_isOpen f_toldMany f_passed f_copied f_cameMany f_readBits f_rowsRead f_isDone f_refused f_at f_lacks f_why f_wasCopy f_place f_colour)) [0] (by decide) rfl)) rfl rfl hl.1 rfl (lv_room (Nat.le_of_ble_eq_true rfl)) d_Md_told_72 ⟨Nat.le_of_ble_eq_true rfl, Nat.le_of_ble_eq_true rfl⟩) hP hD hS hA [0] [] [0] rfl rfl (by decide) (by decide) (by decide) rfl (fun H locs hP hD hS => ?_)
    obtain ⟨e0, e1⟩ := so2 hf
    subst e0; subst e1
    exact W.iret (v := r72) hx hb hr (fun t ht hW => ⟨⟨_, (), rfl, rfl, by rw [ht]; exact hP, va_K.moved hW.alike hK, hD⟩, hS.F ht⟩) hS.2.2 d_Md_told_75 hlocks
  have hf := it_f hf s6_3
  by_cases s6_4 : x1 = 4
  · have hf := it_t hf s6_4
    refine lv_tableIn (off := 70) (tgt := 76) hx hb d_Md_told_6 (by rw [s6_4]; decide) (by rw [s6_4]; decide) (by rw [s6_4]; decide) (by decide) ?_
    refine lv_aload_n hx hb d_Md_told_76 rfl (lv_at hl 0 rfl) ?_
    refine va_get (D := D) (ci := 9) (v := .int f_toldMany) (C := R_Md) (T := F_Md) (N := 36) hx hb htw i_Md hown hK hP 0 rfl rfl 16 (by decide) (htw _ in470) (fun _ h9 => h9) rfl d_Md_told_77 ?_
    obtain ⟨e0, e1⟩ := so2 hf
    subst e0; subst e1
    exact W.iret (v := f_toldMany) hx hb hr (fun t ht hW => ⟨⟨_, (), rfl, rfl, by rw [ht]; exact hP, va_K.moved hW.alike hK, hD⟩, hS.F ht⟩) hS.2.2 d_Md_told_80 hlocks
  have hf := it_f hf s6_4
  by_cases s6_5 : x1 = 5
  · have hf := it_t hf s6_5
    refine lv_tableIn (off := 75) (tgt := 81) hx hb d_Md_told_6 (by rw [s6_5]; decide) (by rw [s6_5]; decide) (by rw [s6_5]; decide) (by decide) ?_
    refine lv_aload_n hx hb d_Md_told_81 rfl (lv_at hl 0 rfl) ?_
    refine va_get (D := D) (ci := 9) (v := .int f_cameMany) (C := R_Md) (T := F_Md) (N := 36) hx hb htw i_Md hown hK hP 0 rfl rfl 23 (by decide) (htw _ in449) (fun _ h9 => h9) rfl d_Md_told_82 ?_
    obtain ⟨e0, e1⟩ := so2 hf
    subst e0; subst e1
    exact W.iret (v := f_cameMany) hx hb hr (fun t ht hW => ⟨⟨_, (), rfl, rfl, by rw [ht]; exact hP, va_K.moved hW.alike hK, hD⟩, hS.F ht⟩) hS.2.2 d_Md_told_85 hlocks
  have hf := it_f hf s6_5
  by_cases s6_6 : x1 = 6
  · have hf := it_t hf s6_6
    refine lv_tableIn (off := 80) (tgt := 86) hx hb d_Md_told_6 (by rw [s6_6]; decide) (by rw [s6_6]; decide) (by rw [s6_6]; decide) (by decide) ?_
    refine lv_aload_n hx hb d_Md_told_86 rfl (lv_at hl 0 rfl) ?_
    refine va_get (D := D) (ci := 9) (v := .int f_readBits) (C := R_Md) (T := F_Md) (N := 36) hx hb htw i_Md hown hK hP 0 rfl rfl 26 (by decide) (htw _ in443) (fun _ h9 => h9) rfl d_Md_told_87 ?_
    obtain ⟨e0, e1⟩ := so2 hf
    subst e0; subst e1
    exact W.iret (v := f_readBits) hx hb hr (fun t ht hW => ⟨⟨_, (), rfl, rfl, by rw [ht]; exact hP, va_K.moved hW.alike hK, hD⟩, hS.F ht⟩) hS.2.2 d_Md_told_90 hlocks
  have hf := it_f hf s6_6
  by_cases s6_7 : x1 = 7
  · have hf := it_t hf s6_7
    refine lv_tableIn (off := 85) (tgt := 91) hx hb d_Md_told_6 (by rw [s6_7]; decide) (by rw [s6_7]; decide) (by rw [s6_7]; decide) (by decide) ?_
    refine lv_aload_n hx hb d_Md_told_91 rfl (lv_at hl 0 rfl) ?_
    refine va_get (D := D) (ci := 9) (v := .int f_rowsRead) (C := R_Md) (T := F_Md) (N := 36) hx hb htw i_Md hown hK hP 0 rfl rfl 27 (by decide) (htw _ in444) (fun _ h9 => h9) rfl d_Md_told_92 ?_
    obtain ⟨e0, e1⟩ := so2 hf
    subst e0; subst e1
    exact W.iret (v := f_rowsRead) hx hb hr (fun t ht hW => ⟨⟨_, (), rfl, rfl, by rw [ht]; exact hP, va_K.moved hW.alike hK, hD⟩, hS.F ht⟩) hS.2.2 d_Md_told_95 hlocks
  have hf := it_f hf s6_7
  by_cases s6_8 : x1 = 8
  · have hf := it_t hf s6_8
    refine lv_tableIn (off := 90) (tgt := 96) hx hb d_Md_told_6 (by rw [s6_8]; decide) (by rw [s6_8]; decide) (by rw [s6_8]; decide) (by decide) ?_
    refine lv_aload_n hx hb d_Md_told_96 rfl (lv_at hl 0 rfl) ?_
    refine va_get (D := D) (ci := 9) (v := .int f_isDone) (C := R_Md) (T := F_Md) (N := 36) hx hb htw i_Md hown hK hP 0 rfl rfl 28 (by decide) (htw _ in445) (fun _ h9 => h9) rfl d_Md_told_97 ?_
    refine lv_if_eq (tgt := 107) hx hb d_Md_told_100 (by decide) (fun c100 => ?_) (fun c100 => ?_)
    · have hf := it_t hf c100
      refine lv_iconst (v := 0) hx hb d_Md_told_107 (by decide) ?_
      obtain ⟨e0, e1⟩ := so2 hf
      subst e0; subst e1
      exact W.iret (v := 0) hx hb hr (fun t ht hW => ⟨⟨_, (), rfl, rfl, by rw [ht]; exact hP, va_K.moved hW.alike hK, hD⟩, hS.F ht⟩) hS.2.2 d_Md_told_108 hlocks
    · have hf := it_f hf c100
      refine lv_iconst (v := 1) hx hb d_Md_told_103 (by decide) ?_
      refine lv_goto (tgt := 108) hx hb d_Md_told_104 (by decide) ?_
      obtain ⟨e0, e1⟩ := so2 hf
      subst e0; subst e1
      exact W.iret (v := 1) hx hb hr (fun t ht hW => ⟨⟨_, (), rfl, rfl, by rw [ht]; exact hP, va_K.moved hW.alike hK, hD⟩, hS.F ht⟩) hS.2.2 d_Md_told_108 hlocks
  have hf := it_f hf s6_8
  refine lv_tableOut (tgt := 109) hx hb d_Md_told_6 (by have q0 := sw_ne s6_0; have q1 := sw_ne s6_1; have q2 := sw_ne s6_2; have q3 := sw_ne s6_3; have q4 := sw_ne s6_4; have q5 := sw_ne s6_5; have q6 := sw_ne s6_6; have q7 := sw_ne s6_7; have q8 := sw_ne s6_8; have p0 : (0 : Int32).toInt = 0 := rfl; have p1 : (1 : Int32).toInt = 1 := rfl; have p2 : (2 : Int32).toInt = 2 := rfl; have p3 : (3 : Int32).toInt = 3 := rfl; have p4 : (4 : Int32).toInt = 4 := rfl; have p5 : (5 : Int32).toInt = 5 := rfl; have p6 : (6 : Int32).toInt = 6 := rfl; have p7 : (7 : Int32).toInt = 7 := rfl; have p8 : (8 : Int32).toInt = 8 := rfl; omega) (by decide) ?_
  refine lv_iconst (v := (-1)) hx hb d_Md_told_109 (by decide) ?_
  obtain ⟨e0, e1⟩ := so2 hf
  subst e0; subst e1
  exact W.iret (v := (-1)) hx hb hr (fun t ht hW => ⟨⟨_, (), rfl, rfl, by rw [ht]; exact hP, va_K.moved hW.alike hK, hD⟩, hS.F ht⟩) hS.2.2 d_Md_told_110 hlocks
