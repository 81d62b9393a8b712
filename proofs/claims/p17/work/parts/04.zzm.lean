theorem zz_words : ∀ c ∈ (Cond.code x code maxLocals ret :: tables_1), c.before start1.args0 zz_bad = true := by
  intro c hc
  rcases List.mem_cons.mp hc with h | h
  · rw [h]; exact su_hand_word (m := ⟨0, 0⟩) (by decide +kernel) rfl (by decide +kernel) (by decide +kernel)
  · have h1 : c ∈ tables_1_1 ++ (tables_1_2 ++ (tables_1_3 ++ (tables_1_4 ++ tables_1_5))) := h
    rcases List.mem_append.mp h1 with h2 | h1
    · exact List.all_eq_true.mp zz_tables_1_1 c h2
    rcases List.mem_append.mp h1 with h2 | h1
    · exact List.all_eq_true.mp zz_tables_1_2 c h2
    rcases List.mem_append.mp h1 with h2 | h1
    · exact List.all_eq_true.mp zz_tables_1_3 c h2
    rcases List.mem_append.mp h1 with h2 | h1
    · exact List.all_eq_true.mp zz_tables_1_4 c h2
    exact List.all_eq_true.mp zz_tables_1_5 c h1
set_option maxRecDepth 16384 in
theorem zz_start : AtStart classFile x code maxLocals ret World_1 tables_1 room_1 Calls_1 rest_1 Pre_1 launch0 start1.p0 start1.e0 zz_bad ⟨0, 0⟩ start1.args0 Lib.HandBits.below0 :=
  ⟨lists_1, trivial, launch0.admits_env _ _ _, launch0.least_env, fairChoices_fair.cas, fairChoices_fair.clock, rfl, by decide +kernel, by decide +kernel,
    (Spec.applies_iff rfl).mpr ⟨rfl, rfl, rfl, by decide +kernel, by decide +kernel, by decide +kernel, launch0.hasRoom_least _ room_1 (by decide +kernel) (by decide +kernel) (by decide +kernel) (by decide +kernel) (by decide +kernel) (by decide +kernel), atoms_intro zz_words⟩,
    trivial, (show rest_1_c.before start1.args0 zz_bad = true by decide +kernel), (show (Cond.and given_1 narrow_1).before start1.args0 zz_bad = true by decide +kernel)⟩
theorem zz_stay {tb : Tables} {e : Env} {s : State} (h : s.status ≠ Status.running) : ∀ n, stepsAlone tb e n s = s
  | 0 => rfl
  | n + 1 => by
    unfold stepsAlone
    split
    · rename_i h1 _ _; exact absurd h1 h
    · rfl
theorem zz_one {tb : Tables} {e : Env} {s : State} (n : Nat) : stepsAlone tb e (n + 1) s = stepsAlone tb e n (stepsAlone tb e 1 s) := by
  by_cases h : ∃ t, s.status = .running ∧ s.curStatus? = some .runnable ∧ s.alone = true ∧ t = (stepThread tb e s).1
  · obtain ⟨t, h1, h2, h3, rfl⟩ := h
    have e1 : ∀ k, stepsAlone tb e (k + 1) s = stepsAlone tb e k (stepThread tb e s).1 := fun k => by
      rw [stepsAlone, h1, h2, h3]
    rw [e1 n, e1 0]
    rfl
  · have e1 : ∀ k, stepsAlone tb e (k + 1) s = s := fun k => by
      rw [stepsAlone]
      split
      · rename_i h1 h2 h3; exact absurd ⟨_, h1, h2, h3, rfl⟩ h
      · rfl
    have e2 : ∀ k, stepsAlone tb e k s = s := fun k => by
      cases k with
      | zero => rfl
      | succ k => exact e1 k
    rw [e1 n, e1 0, e2 n]
theorem zz_never : ∀ (n : Nat) (s : State), zz_fin n s = true → ∀ k, (stepsAlone start1.p0.tables start1.e0 k s).status = Status.running → zz_up (stepsAlone start1.p0.tables start1.e0 k s) = true := by
  intro n
  induction n with
  | zero =>
    intro s h k hk
    simp only [zz_fin, Bool.and_eq_true, decide_eq_true_eq] at h
    rw [zz_stay h.2] at hk
    exact absurd hk h.2
  | succ n ih =>
    intro s h k hk
    simp only [zz_fin, Bool.and_eq_true] at h
    cases k with
    | zero => exact h.1
    | succ k =>
      rw [zz_one] at hk ⊢
      exact ih _ h.2 k hk
/-- p17 IS REFUTED AS WRITTEN: a start that meets every premise, from which the law never returns -/
theorem zz_refuted : ¬ Claimed_1_1 := by
  intro h
  obtain ⟨h1, h2, h3, h4, h5, h6, h7, h8, h9, h10, h11, h12, h13⟩ := zz_start
  obtain ⟨n, o, -, hrun, hend, hpost⟩ := h launch0 rfl h1 h2 start1.p0 start1.e0 h3 h5 h6 zz_bad ⟨0, 0⟩ start1.args0 Lib.HandBits.below0 h7 h8 h9 h10 ⟨h11, h12, h13⟩
  have hup := zz_never 260 zz_bad zz_t1 n hrun
  have hret : limb_1_1.after start1.args0 zz_bad o (stepsAlone start1.p0.tables start1.e0 n zz_bad) = true := hpost.1
  cases o with
  | threw a => simp [limb_1_1, Cond.after, Cond.holds, Cond.value] at hret
  | returned v =>
    have hf : (stepsAlone start1.p0.tables start1.e0 n zz_bad).frames = .native { ({ method := ⟨0, 0⟩, args := #[] } : NFrame) with awaiting := false, answer := some (.returned v) } :: [] := hend
    unfold zz_up at hup
    rw [hf] at hup
    cases hup
