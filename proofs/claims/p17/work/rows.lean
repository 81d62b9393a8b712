section
def zz_cls : Class := { start1.cArr "[Q" 22 .int with methods := #[Lib.HandJ.method "clone" "()Ljava/lang/Object;" [] (some (.object "java/lang/Object")) 1 1 ⟨#[]⟩] }
def zz_bad : State := { start1.aboutOf #[] with vm := { (start1.aboutOf #[]).vm with classes := (start1.aboutOf #[]).vm.classes.push zz_cls }, heap := (start1.aboutOf #[]).heap.modify 4 (fun c => { c with cls := 30 }) }
/-- no answer has come back to the caller yet -/
def zz_up (s : State) : Bool := match s.frames with
  | .native _ :: [] => false
  | _ => true
def zz_next (s : State) : State := stepsAlone start1.p0.tables start1.e0 1 s
def zz_fin : Nat → State → Bool
  | 0, s => zz_up s && decide (s.status ≠ Status.running)
  | n + 1, s => zz_up s && zz_fin n (zz_next s)
theorem zz_t1 : zz_fin 260 zz_bad = true := by decide +kernel
end
section
theorem zz_split {p : Cond → Bool} (n : Nat) (l : List Cond) (h1 : (l.take n).all p = true) (h2 : (l.drop n).all p = true) : l.all p = true := by
  rw [← List.take_append_drop n l, List.all_append, h1, h2]
  rfl
def zz_ok (c : Cond) : Bool := c.before start1.args0 zz_bad
set_option maxRecDepth 16384 in
theorem zz_tables_1_1_0 : ((tables_1_1).take 40).all zz_ok = true := by decide +kernel
set_option maxRecDepth 16384 in
theorem zz_tables_1_1_1 : (((tables_1_1).drop 40).take 40).all zz_ok = true := by decide +kernel
set_option maxRecDepth 16384 in
theorem zz_tables_1_1_2 : ((((tables_1_1).drop 40).drop 40).take 40).all zz_ok = true := by decide +kernel
set_option maxRecDepth 16384 in
theorem zz_tables_1_1_3 : (((((tables_1_1).drop 40).drop 40).drop 40).take 40).all zz_ok = true := by decide +kernel
set_option maxRecDepth 16384 in
theorem zz_tables_1_1_4 : ((((((tables_1_1).drop 40).drop 40).drop 40).drop 40).take 40).all zz_ok = true := by decide +kernel
set_option maxRecDepth 16384 in
theorem zz_tables_1_1_5 : ((((((tables_1_1).drop 40).drop 40).drop 40).drop 40).drop 40).all zz_ok = true := by decide +kernel
theorem zz_tables_1_1 : (tables_1_1).all zz_ok = true := (zz_split 40 _ zz_tables_1_1_0 (zz_split 40 _ zz_tables_1_1_1 (zz_split 40 _ zz_tables_1_1_2 (zz_split 40 _ zz_tables_1_1_3 (zz_split 40 _ zz_tables_1_1_4 zz_tables_1_1_5)))))
set_option maxRecDepth 16384 in
theorem zz_tables_1_2_0 : ((tables_1_2).take 40).all zz_ok = true := by decide +kernel
set_option maxRecDepth 16384 in
theorem zz_tables_1_2_1 : (((tables_1_2).drop 40).take 40).all zz_ok = true := by decide +kernel
set_option maxRecDepth 16384 in
theorem zz_tables_1_2_2 : ((((tables_1_2).drop 40).drop 40).take 40).all zz_ok = true := by decide +kernel
set_option maxRecDepth 16384 in
theorem zz_tables_1_2_3 : (((((tables_1_2).drop 40).drop 40).drop 40).take 40).all zz_ok = true := by decide +kernel
set_option maxRecDepth 16384 in
theorem zz_tables_1_2_4 : ((((((tables_1_2).drop 40).drop 40).drop 40).drop 40).take 40).all zz_ok = true := by decide +kernel
set_option maxRecDepth 16384 in
theorem zz_tables_1_2_5 : ((((((tables_1_2).drop 40).drop 40).drop 40).drop 40).drop 40).all zz_ok = true := by decide +kernel
theorem zz_tables_1_2 : (tables_1_2).all zz_ok = true := (zz_split 40 _ zz_tables_1_2_0 (zz_split 40 _ zz_tables_1_2_1 (zz_split 40 _ zz_tables_1_2_2 (zz_split 40 _ zz_tables_1_2_3 (zz_split 40 _ zz_tables_1_2_4 zz_tables_1_2_5)))))
set_option maxRecDepth 16384 in
theorem zz_tables_1_3_0 : ((tables_1_3).take 40).all zz_ok = true := by decide +kernel
set_option maxRecDepth 16384 in
theorem zz_tables_1_3_1 : (((tables_1_3).drop 40).take 40).all zz_ok = true := by decide +kernel
set_option maxRecDepth 16384 in
theorem zz_tables_1_3_2 : ((((tables_1_3).drop 40).drop 40).take 40).all zz_ok = true := by decide +kernel
set_option maxRecDepth 16384 in
theorem zz_tables_1_3_3 : (((((tables_1_3).drop 40).drop 40).drop 40).take 40).all zz_ok = true := by decide +kernel
set_option maxRecDepth 16384 in
theorem zz_tables_1_3_4 : ((((((tables_1_3).drop 40).drop 40).drop 40).drop 40).take 40).all zz_ok = true := by decide +kernel
set_option maxRecDepth 16384 in
theorem zz_tables_1_3_5 : ((((((tables_1_3).drop 40).drop 40).drop 40).drop 40).drop 40).all zz_ok = true := by decide +kernel
theorem zz_tables_1_3 : (tables_1_3).all zz_ok = true := (zz_split 40 _ zz_tables_1_3_0 (zz_split 40 _ zz_tables_1_3_1 (zz_split 40 _ zz_tables_1_3_2 (zz_split 40 _ zz_tables_1_3_3 (zz_split 40 _ zz_tables_1_3_4 zz_tables_1_3_5)))))
set_option maxRecDepth 16384 in
theorem zz_tables_1_4_0 : ((tables_1_4).take 40).all zz_ok = true := by decide +kernel
set_option maxRecDepth 16384 in
theorem zz_tables_1_4_1 : (((tables_1_4).drop 40).take 40).all zz_ok = true := by decide +kernel
set_option maxRecDepth 16384 in
theorem zz_tables_1_4_2 : ((((tables_1_4).drop 40).drop 40).take 40).all zz_ok = true := by decide +kernel
set_option maxRecDepth 16384 in
theorem zz_tables_1_4_4 : ((((((tables_1_4).drop 40).drop 40).drop 40).drop 40).take 40).all zz_ok = true := by decide +kernel
set_option maxRecDepth 16384 in
theorem zz_tables_1_4_5 : ((((((tables_1_4).drop 40).drop 40).drop 40).drop 40).drop 40).all zz_ok = true := by decide +kernel
set_option maxRecDepth 16384 in
theorem zz_tables_1_5_0 : ((tables_1_5).take 40).all zz_ok = true := by decide +kernel
set_option maxRecDepth 16384 in
theorem zz_tables_1_5_1 : (((tables_1_5).drop 40).take 40).all zz_ok = true := by decide +kernel
set_option maxRecDepth 16384 in
theorem zz_tables_1_5_2 : ((((tables_1_5).drop 40).drop 40).take 40).all zz_ok = true := by decide +kernel
set_option maxRecDepth 16384 in
theorem zz_tables_1_5_3 : (((((tables_1_5).drop 40).drop 40).drop 40).take 40).all zz_ok = true := by decide +kernel
set_option maxRecDepth 16384 in
theorem zz_tables_1_5_4 : ((((((tables_1_5).drop 40).drop 40).drop 40).drop 40).take 40).all zz_ok = true := by decide +kernel
set_option maxRecDepth 16384 in
theorem zz_tables_1_5_5 : ((((((tables_1_5).drop 40).drop 40).drop 40).drop 40).drop 40).all zz_ok = true := by decide +kernel
theorem zz_tables_1_5 : (tables_1_5).all zz_ok = true := (zz_split 40 _ zz_tables_1_5_0 (zz_split 40 _ zz_tables_1_5_1 (zz_split 40 _ zz_tables_1_5_2 (zz_split 40 _ zz_tables_1_5_3 (zz_split 40 _ zz_tables_1_5_4 zz_tables_1_5_5)))))
end
section
theorem zz_big : (Jvm.Cond.code (⟨"GenericRegionsModel", "<init>", "(III)V"⟩ : Jvm.MethodName) prog_11_method_1_code 4 none).before start1.args0 zz_bad = true :=
  su_hand_word (m := ⟨12, 0⟩) (by decide +kernel) rfl (by decide +kernel) (by decide +kernel)
set_option maxRecDepth 16384 in
theorem zz_43a : ((((((tables_1_4).drop 40).drop 40).drop 40).take 40).take 22).all zz_ok = true := by decide +kernel
set_option maxRecDepth 16384 in
theorem zz_43c : (((((((tables_1_4).drop 40).drop 40).drop 40).take 40).drop 22).drop 1).all zz_ok = true := by decide +kernel
set_option maxRecDepth 16384 in
theorem zz_43e : ((((((tables_1_4).drop 40).drop 40).drop 40).take 40).drop 22).take 1 = [(Jvm.Cond.code (⟨"GenericRegionsModel", "<init>", "(III)V"⟩ : Jvm.MethodName) prog_11_method_1_code 4 none)] := rfl
theorem zz_43b : (((((((tables_1_4).drop 40).drop 40).drop 40).take 40).drop 22).take 1).all zz_ok = true := by
  rw [zz_43e, List.all_cons, List.all_nil, Bool.and_true]
  exact zz_big
theorem zz_tables_1_4_3 : (((((tables_1_4).drop 40).drop 40).drop 40).take 40).all zz_ok = true := zz_split 22 _ zz_43a (zz_split 1 _ zz_43b zz_43c)
theorem zz_tables_1_4 : (tables_1_4).all zz_ok = true := (zz_split 40 _ zz_tables_1_4_0 (zz_split 40 _ zz_tables_1_4_1 (zz_split 40 _ zz_tables_1_4_2 (zz_split 40 _ zz_tables_1_4_3 (zz_split 40 _ zz_tables_1_4_4 zz_tables_1_4_5)))))
end
section
theorem zz_words : ∀ c ∈ (Cond.code x code maxLocals ret :: tables_1), c.before start1.args0 zz_bad = true := by
  intro c hc
  rcases List.mem_cons.mp hc with h | h
  · rw [h]; exact su_hand_word (m := ⟨0, 0⟩) (by decide +kernel) rfl (by decide +kernel) (by decide +kernel)
  · have h1 : c ∈ tables_1_1 ++ (tables_1_2 ++ (tables_1_3 ++ (tables_1_4 ++ tables_1_5))) := h
    rcases List.mem_append.mp h1 with h2 | h1
    · exact List.all_eq_true.mp zz_tables_1_1 c h2
    rcases List.mem_append.mp h1 with h2 | h1
    · exact List.all_eq_true.mp zz_tables_1_2 c h2
    rcases List.mem_append.mp h1 with h2 | h1
    · exact List.all_eq_true.mp zz_tables_1_3 c h2
    rcases List.mem_append.mp h1 with h2 | h1
    · exact List.all_eq_true.mp zz_tables_1_4 c h2
    exact List.all_eq_true.mp zz_tables_1_5 c h1
set_option maxRecDepth 16384 in
theorem zz_start : AtStart classFile x code maxLocals ret World_1 tables_1 room_1 Calls_1 rest_1 Pre_1 launch0 start1.p0 start1.e0 zz_bad ⟨0, 0⟩ start1.args0 Lib.HandBits.below0 :=
  ⟨lists_1, trivial, launch0.admits_env _ _ _, launch0.least_env, fairChoices_fair.cas, fairChoices_fair.clock, rfl, by decide +kernel, by decide +kernel,
    (Spec.applies_iff rfl).mpr ⟨rfl, rfl, rfl, by decide +kernel, by decide +kernel, by decide +kernel, launch0.hasRoom_least _ room_1 (by decide +kernel) (by decide +kernel) (by decide +kernel) (by decide +kernel) (by decide +kernel) (by decide +kernel), atoms_intro zz_words⟩,
    trivial, (show rest_1_c.before start1.args0 zz_bad = true by decide +kernel), (show (Cond.and given_1 narrow_1).before start1.args0 zz_bad = true by decide +kernel)⟩
theorem zz_stay {tb : Tables} {e : Env} {s : State} (h : s.status ≠ Status.running) : ∀ n, stepsAlone tb e n s = s
  | 0 => rfl
  | n + 1 => by
    unfold stepsAlone
    split
    · rename_i h1 _ _; exact absurd h1 h
    · rfl
theorem zz_one {tb : Tables} {e : Env} {s : State} (n : Nat) : stepsAlone tb e (n + 1) s = stepsAlone tb e n (stepsAlone tb e 1 s) := by
  by_cases h : ∃ t, s.status = .running ∧ s.curStatus? = some .runnable ∧ s.alone = true ∧ t = (stepThread tb e s).1
  · obtain ⟨t, h1, h2, h3, rfl⟩ := h
    have e1 : ∀ k, stepsAlone tb e (k + 1) s = stepsAlone tb e k (stepThread tb e s).1 := fun k => by
      rw [stepsAlone, h1, h2, h3]
    rw [e1 n, e1 0]
    rfl
  · have e1 : ∀ k, stepsAlone tb e (k + 1) s = s := fun k => by
      rw [stepsAlone]
      split
      · rename_i h1 h2 h3; exact absurd ⟨_, h1, h2, h3, rfl⟩ h
      · rfl
    have e2 : ∀ k, stepsAlone tb e k s = s := fun k => by
      cases k with
      | zero => rfl
      | succ k => exact e1 k
    rw [e1 n, e1 0, e2 n]
theorem zz_never : ∀ (n : Nat) (s : State), zz_fin n s = true → ∀ k, (stepsAlone start1.p0.tables start1.e0 k s).status = Status.running → zz_up (stepsAlone start1.p0.tables start1.e0 k s) = true := by
  intro n
  induction n with
  | zero =>
    intro s h k hk
    simp only [zz_fin, Bool.and_eq_true, decide_eq_true_eq] at h
    rw [zz_stay h.2] at hk
    exact absurd hk h.2
  | succ n ih =>
    intro s h k hk
    simp only [zz_fin, Bool.and_eq_true] at h
    cases k with
    | zero => exact h.1
    | succ k =>
      rw [zz_one] at hk ⊢
      exact ih _ h.2 k hk
/-- p17 IS REFUTED AS WRITTEN: a start that meets every premise, from which the law never returns -/
theorem zz_refuted : ¬ Claimed_1_1 := by
  intro h
  obtain ⟨h1, h2, h3, h4, h5, h6, h7, h8, h9, h10, h11, h12, h13⟩ := zz_start
  obtain ⟨n, o, -, hrun, hend, hpost⟩ := h launch0 rfl h1 h2 start1.p0 start1.e0 h3 h5 h6 zz_bad ⟨0, 0⟩ start1.args0 Lib.HandBits.below0 h7 h8 h9 h10 ⟨h11, h12, h13⟩
  have hup := zz_never 260 zz_bad zz_t1 n hrun
  have hret : limb_1_1.after start1.args0 zz_bad o (stepsAlone start1.p0.tables start1.e0 n zz_bad) = true := hpost.1
  cases o with
  | threw a => simp [limb_1_1, Cond.after, Cond.holds, Cond.value] at hret
  | returned v =>
    have hf : (stepsAlone start1.p0.tables start1.e0 n zz_bad).frames = .native { ({ method := ⟨0, 0⟩, args := #[] } : NFrame) with awaiting := false, answer := some (.returned v) } :: [] := hend
    unfold zz_up at hup
    rw [hf] at hup
    cases hup
end
