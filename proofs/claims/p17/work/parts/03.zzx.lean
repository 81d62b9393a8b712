theorem zz_big : (Jvm.Cond.code (⟨"GenericRegionsModel", "<init>", "(III)V"⟩ : Jvm.MethodName) prog_11_method_1_code 4 none).before start1.args0 zz_bad = true :=
  su_hand_word (m := ⟨12, 0⟩) (by decide +kernel) rfl (by decide +kernel) (by decide +kernel)
set_option maxRecDepth 16384 in
theorem zz_43a : ((((((tables_1_4).drop 40).drop 40).drop 40).take 40).take 22).all zz_ok = true := by decide +kernel
set_option maxRecDepth 16384 in
theorem zz_43c : (((((((tables_1_4).drop 40).drop 40).drop 40).take 40).drop 22).drop 1).all zz_ok = true := by decide +kernel
set_option maxRecDepth 16384 in
theorem zz_43e : ((((((tables_1_4).drop 40).drop 40).drop 40).take 40).drop 22).take 1 = [(Jvm.Cond.code (⟨"GenericRegionsModel", "<init>", "(III)V"⟩ : Jvm.MethodName) prog_11_method_1_code 4 none)] := rfl
theorem zz_43b : (((((((tables_1_4).drop 40).drop 40).drop 40).take 40).drop 22).take 1).all zz_ok = true := by
  rw [zz_43e, List.all_cons, List.all_nil, Bool.and_true]
  exact zz_big
theorem zz_tables_1_4_3 : (((((tables_1_4).drop 40).drop 40).drop 40).take 40).all zz_ok = true := zz_split 22 _ zz_43a (zz_split 1 _ zz_43b zz_43c)
theorem zz_tables_1_4 : (tables_1_4).all zz_ok = true := (zz_split 40 _ zz_tables_1_4_0 (zz_split 40 _ zz_tables_1_4_1 (zz_split 40 _ zz_tables_1_4_2 (zz_split 40 _ zz_tables_1_4_3 (zz_split 40 _ zz_tables_1_4_4 zz_tables_1_4_5)))))
