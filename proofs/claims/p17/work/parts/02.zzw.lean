theorem zz_split {p : Cond → Bool} (n : Nat) (l : List Cond) (h1 : (l.take n).all p = true) (h2 : (l.drop n).all p = true) : l.all p = true := by
  rw [← List.take_append_drop n l, List.all_append, h1, h2]
  rfl
def zz_ok (c : Cond) : Bool := c.before start1.args0 zz_bad
set_option maxRecDepth 16384 in
theorem zz_tables_1_1_0 : ((tables_1_1).take 40).all zz_ok = true := by decide +kernel
set_option maxRecDepth 16384 in
theorem zz_tables_1_1_1 : (((tables_1_1).drop 40).take 40).all zz_ok = true := by decide +kernel
set_option maxRecDepth 16384 in
theorem zz_tables_1_1_2 : ((((tables_1_1).drop 40).drop 40).take 40).all zz_ok = true := by decide +kernel
set_option maxRecDepth 16384 in
theorem zz_tables_1_1_3 : (((((tables_1_1).drop 40).drop 40).drop 40).take 40).all zz_ok = true := by decide +kernel
set_option maxRecDepth 16384 in
theorem zz_tables_1_1_4 : ((((((tables_1_1).drop 40).drop 40).drop 40).drop 40).take 40).all zz_ok = true := by decide +kernel
set_option maxRecDepth 16384 in
theorem zz_tables_1_1_5 : ((((((tables_1_1).drop 40).drop 40).drop 40).drop 40).drop 40).all zz_ok = true := by decide +kernel
theorem zz_tables_1_1 : (tables_1_1).all zz_ok = true := (zz_split 40 _ zz_tables_1_1_0 (zz_split 40 _ zz_tables_1_1_1 (zz_split 40 _ zz_tables_1_1_2 (zz_split 40 _ zz_tables_1_1_3 (zz_split 40 _ zz_tables_1_1_4 zz_tables_1_1_5)))))
set_option maxRecDepth 16384 in
theorem zz_tables_1_2_0 : ((tables_1_2).take 40).all zz_ok = true := by decide +kernel
set_option maxRecDepth 16384 in
theorem zz_tables_1_2_1 : (((tables_1_2).drop 40).take 40).all zz_ok = true := by decide +kernel
set_option maxRecDepth 16384 in
theorem zz_tables_1_2_2 : ((((tables_1_2).drop 40).drop 40).take 40).all zz_ok = true := by decide +kernel
set_option maxRecDepth 16384 in
theorem zz_tables_1_2_3 : (((((tables_1_2).drop 40).drop 40).drop 40).take 40).all zz_ok = true := by decide +kernel
set_option maxRecDepth 16384 in
theorem zz_tables_1_2_4 : ((((((tables_1_2).drop 40).drop 40).drop 40).drop 40).take 40).all zz_ok = true := by decide +kernel
set_option maxRecDepth 16384 in
theorem zz_tables_1_2_5 : ((((((tables_1_2).drop 40).drop 40).drop 40).drop 40).drop 40).all zz_ok = true := by decide +kernel
theorem zz_tables_1_2 : (tables_1_2).all zz_ok = true := (zz_split 40 _ zz_tables_1_2_0 (zz_split 40 _ zz_tables_1_2_1 (zz_split 40 _ zz_tables_1_2_2 (zz_split 40 _ zz_tables_1_2_3 (zz_split 40 _ zz_tables_1_2_4 zz_tables_1_2_5)))))
set_option maxRecDepth 16384 in
theorem zz_tables_1_3_0 : ((tables_1_3).take 40).all zz_ok = true := by decide +kernel
set_option maxRecDepth 16384 in
theorem zz_tables_1_3_1 : (((tables_1_3).drop 40).take 40).all zz_ok = true := by decide +kernel
set_option maxRecDepth 16384 in
theorem zz_tables_1_3_2 : ((((tables_1_3).drop 40).drop 40).take 40).all zz_ok = true := by decide +kernel
set_option maxRecDepth 16384 in
theorem zz_tables_1_3_3 : (((((tables_1_3).drop 40).drop 40).drop 40).take 40).all zz_ok = true := by decide +kernel
set_option maxRecDepth 16384 in
theorem zz_tables_1_3_4 : ((((((tables_1_3).drop 40).drop 40).drop 40).drop 40).take 40).all zz_ok = true := by decide +kernel
set_option maxRecDepth 16384 in
theorem zz_tables_1_3_5 : ((((((tables_1_3).drop 40).drop 40).drop 40).drop 40).drop 40).all zz_ok = true := by decide +kernel
theorem zz_tables_1_3 : (tables_1_3).all zz_ok = true := (zz_split 40 _ zz_tables_1_3_0 (zz_split 40 _ zz_tables_1_3_1 (zz_split 40 _ zz_tables_1_3_2 (zz_split 40 _ zz_tables_1_3_3 (zz_split 40 _ zz_tables_1_3_4 zz_tables_1_3_5)))))
set_option maxRecDepth 16384 in
theorem zz_tables_1_4_0 : ((tables_1_4).take 40).all zz_ok = true := by decide +kernel
set_option maxRecDepth 16384 in
theorem zz_tables_1_4_1 : (((tables_1_4).drop 40).take 40).all zz_ok = true := by decide +kernel
set_option maxRecDepth 16384 in
theorem zz_tables_1_4_2 : ((((tables_1_4).drop 40).drop 40).take 40).all zz_ok = true := by decide +kernel
set_option maxRecDepth 16384 in
theorem zz_tables_1_4_4 : ((((((tables_1_4).drop 40).drop 40).drop 40).drop 40).take 40).all zz_ok = true := by decide +kernel
set_option maxRecDepth 16384 in
theorem zz_tables_1_4_5 : ((((((tables_1_4).drop 40).drop 40).drop 40).drop 40).drop 40).all zz_ok = true := by decide +kernel
set_option maxRecDepth 16384 in
theorem zz_tables_1_5_0 : ((tables_1_5).take 40).all zz_ok = true := by decide +kernel
set_option maxRecDepth 16384 in
theorem zz_tables_1_5_1 : (((tables_1_5).drop 40).take 40).all zz_ok = true := by decide +kernel
set_option maxRecDepth 16384 in
theorem zz_tables_1_5_2 : ((((tables_1_5).drop 40).drop 40).take 40).all zz_ok = true := by decide +kernel
set_option maxRecDepth 16384 in
theorem zz_tables_1_5_3 : (((((tables_1_5).drop 40).drop 40).drop 40).take 40).all zz_ok = true := by decide +kernel
set_option maxRecDepth 16384 in
theorem zz_tables_1_5_4 : ((((((tables_1_5).drop 40).drop 40).drop 40).drop 40).take 40).all zz_ok = true := by decide +kernel
set_option maxRecDepth 16384 in
theorem zz_tables_1_5_5 : ((((((tables_1_5).drop 40).drop 40).drop 40).drop 40).drop 40).all zz_ok = true := by decide +kernel
theorem zz_tables_1_5 : (tables_1_5).all zz_ok = true := (zz_split 40 _ zz_tables_1_5_0 (zz_split 40 _ zz_tables_1_5_1 (zz_split 40 _ zz_tables_1_5_2 (zz_split 40 _ zz_tables_1_5_3 (zz_split 40 _ zz_tables_1_5_4 zz_tables_1_5_5)))))
