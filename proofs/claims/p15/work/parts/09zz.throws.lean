/-! THE WORDS OF THE THROWS -/
def rXs : List Cond := (rNs.drop 5).take 6
theorem kXs : rXs.all (fun w => w.onTables) = true := by decide +kernel
set_option maxRecDepth 100000 in
set_option maxHeartbeats 4000000 in
theorem hat0 : ∀ w ∈ vx_atS "NativeWorks" 113 "java/lang/IllegalStateException" ["java/lang/RuntimeException", "java/lang/Exception"], w ∈ rTs ∨ (w ∈ rNs ∧ w.onTables = true) := by
  have e : vx_atS "NativeWorks" 113 "java/lang/IllegalStateException" ["java/lang/RuntimeException", "java/lang/Exception"] = [894, 895, 896, 897, 898, 899, 900, 901, 2, 0, 902, 903, 904, 905, 906, 907, 908, 909, 910, 911, 912, 913, 914, 915, 916, 913, 917, 918, 919, 920, 2908, 920, 921, 922, 923, 2909, 923, 924, 925, 914, 2910, 926, 927, 2911, 928, 929, 930, 931, 932, 933, 934, 935, 936].filterMap (fun i => (rBase ++ rXs)[i]?) := by rfl
  intro w hw
  rw [e] at hw
  obtain ⟨i, -, hi⟩ := List.mem_filterMap.mp hw
  rcases List.mem_append.mp (List.mem_of_getElem? hi) with z | z
  · exact Or.inl (List.mem_append_left _ z)
  · exact Or.inr ⟨List.mem_of_mem_drop (List.mem_of_mem_take z), List.all_eq_true.mp kXs w z⟩
set_option maxRecDepth 100000 in
set_option maxHeartbeats 4000000 in
theorem xgood0 (ik : Nat) : ∀ w ∈ Cond.classLink "NativeWorks" ik "java/lang/IllegalStateException" :: Cond.initialized "java/lang/IllegalStateException" :: vx_atS "NativeWorks" 113 "java/lang/IllegalStateException" ["java/lang/RuntimeException", "java/lang/Exception"], vx_ot w = true := List.forall_mem_cons.mpr ⟨rfl, List.forall_mem_cons.mpr ⟨rfl, List.all_eq_true.mp (by decide +kernel)⟩⟩
set_option maxRecDepth 100000 in
set_option maxHeartbeats 4000000 in
theorem hat1 : ∀ w ∈ nx_at "NativeWorks" 132, w ∈ rTs ∨ (w ∈ rNs ∧ w.onTables = true) := by
  have e : nx_at "NativeWorks" 132 = [894, 895, 896, 897, 898, 899, 900, 901, 2, 0, 902, 903, 904, 905, 906, 907, 908, 909, 910, 911, 912, 913, 914, 915, 916, 913, 937, 938, 939, 920, 2908, 920, 921, 922, 923, 2909, 923, 924, 925, 914, 2910, 940, 941, 2912, 942, 943, 944, 945, 946, 947, 934, 935, 948].filterMap (fun i => (rBase ++ rXs)[i]?) := by rfl
  intro w hw
  rw [e] at hw
  obtain ⟨i, -, hi⟩ := List.mem_filterMap.mp hw
  rcases List.mem_append.mp (List.mem_of_getElem? hi) with z | z
  · exact Or.inl (List.mem_append_left _ z)
  · exact Or.inr ⟨List.mem_of_mem_drop (List.mem_of_mem_take z), List.all_eq_true.mp kXs w z⟩
set_option maxRecDepth 100000 in
set_option maxHeartbeats 4000000 in
theorem xgood1 (ik : Nat) : ∀ w ∈ Cond.classLink "NativeWorks" ik "java/util/NoSuchElementException" :: Cond.initialized "java/util/NoSuchElementException" :: nx_at "NativeWorks" 132, vx_ot w = true := List.forall_mem_cons.mpr ⟨rfl, List.forall_mem_cons.mpr ⟨rfl, List.all_eq_true.mp (by decide +kernel)⟩⟩
set_option maxRecDepth 100000 in
set_option maxHeartbeats 4000000 in
theorem hat2 : ∀ w ∈ vx_atS "NativeWorks" 78 "java/lang/IllegalArgumentException" ["java/lang/RuntimeException", "java/lang/Exception"], w ∈ rTs ∨ (w ∈ rNs ∧ w.onTables = true) := by
  have e : vx_atS "NativeWorks" 78 "java/lang/IllegalArgumentException" ["java/lang/RuntimeException", "java/lang/Exception"] = [894, 895, 896, 897, 898, 899, 900, 901, 2, 0, 902, 903, 904, 905, 906, 907, 908, 909, 910, 911, 912, 913, 914, 915, 916, 913, 949, 950, 951, 920, 2908, 920, 921, 922, 923, 2909, 923, 924, 925, 914, 2910, 952, 953, 2913, 954, 955, 956, 957, 958, 959, 934, 935, 960].filterMap (fun i => (rBase ++ rXs)[i]?) := by rfl
  intro w hw
  rw [e] at hw
  obtain ⟨i, -, hi⟩ := List.mem_filterMap.mp hw
  rcases List.mem_append.mp (List.mem_of_getElem? hi) with z | z
  · exact Or.inl (List.mem_append_left _ z)
  · exact Or.inr ⟨List.mem_of_mem_drop (List.mem_of_mem_take z), List.all_eq_true.mp kXs w z⟩
set_option maxRecDepth 100000 in
set_option maxHeartbeats 4000000 in
theorem xgood2 (ik : Nat) : ∀ w ∈ Cond.classLink "NativeWorks" ik "java/lang/IllegalArgumentException" :: Cond.initialized "java/lang/IllegalArgumentException" :: vx_atS "NativeWorks" 78 "java/lang/IllegalArgumentException" ["java/lang/RuntimeException", "java/lang/Exception"], vx_ot w = true := List.forall_mem_cons.mpr ⟨rfl, List.forall_mem_cons.mpr ⟨rfl, List.all_eq_true.mp (by decide +kernel)⟩⟩
