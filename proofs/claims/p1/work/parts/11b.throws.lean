/-! THE WORDS OF THE THROWS -/
theorem kNs : rNs.all (fun w => w.onTables) = true := by decide +kernel
set_option maxRecDepth 100000 in
set_option maxHeartbeats 4000000 in
theorem hat0 : ∀ w ∈ vx_atS "NativeWorks" 113 "java/lang/IllegalStateException" ["java/lang/RuntimeException", "java/lang/Exception"], w ∈ rTs ∨ (w ∈ rNs ∧ w.onTables = true) := by
  have e : vx_atS "NativeWorks" 113 "java/lang/IllegalStateException" ["java/lang/RuntimeException", "java/lang/Exception"] = [889, 890, 891, 892, 893, 894, 895, 896, 2, 0, 897, 898, 899, 900, 901, 902, 903, 904, 905, 906, 907, 908, 909, 910, 911, 908, 912, 913, 914, 915, 916, 915, 917, 918, 919, 920, 919, 921, 922, 909, 923, 924, 925, 1138, 926, 927, 928, 929, 930, 931, 932, 933, 934].filterMap (fun i => (rBase ++ rNs)[i]?) := by rfl
  intro w hw
  rw [e] at hw
  obtain ⟨i, -, hi⟩ := List.mem_filterMap.mp hw
  rcases List.mem_append.mp (List.mem_of_getElem? hi) with z | z
  · exact Or.inl (List.mem_append_left _ z)
  · exact Or.inr ⟨z, List.all_eq_true.mp kNs w z⟩
set_option maxRecDepth 100000 in
set_option maxHeartbeats 4000000 in
theorem xgood0 (ik : Nat) : ∀ w ∈ Cond.classLink "NativeWorks" ik "java/lang/IllegalStateException" :: Cond.initialized "java/lang/IllegalStateException" :: vx_atS "NativeWorks" 113 "java/lang/IllegalStateException" ["java/lang/RuntimeException", "java/lang/Exception"], vx_ot w = true := List.forall_mem_cons.mpr ⟨rfl, List.forall_mem_cons.mpr ⟨rfl, List.all_eq_true.mp (by decide +kernel)⟩⟩
set_option maxRecDepth 100000 in
set_option maxHeartbeats 4000000 in
theorem hat1 : ∀ w ∈ vx_atS "NativeWorks" 78 "java/lang/IllegalArgumentException" ["java/lang/RuntimeException", "java/lang/Exception"], w ∈ rTs ∨ (w ∈ rNs ∧ w.onTables = true) := by
  have e : vx_atS "NativeWorks" 78 "java/lang/IllegalArgumentException" ["java/lang/RuntimeException", "java/lang/Exception"] = [889, 890, 891, 892, 893, 894, 895, 896, 2, 0, 897, 898, 899, 900, 901, 902, 903, 904, 905, 906, 907, 908, 909, 910, 911, 908, 935, 936, 937, 915, 916, 915, 917, 918, 919, 920, 919, 921, 922, 909, 923, 938, 939, 1139, 940, 941, 942, 943, 944, 945, 932, 933, 946].filterMap (fun i => (rBase ++ rNs)[i]?) := by rfl
  intro w hw
  rw [e] at hw
  obtain ⟨i, -, hi⟩ := List.mem_filterMap.mp hw
  rcases List.mem_append.mp (List.mem_of_getElem? hi) with z | z
  · exact Or.inl (List.mem_append_left _ z)
  · exact Or.inr ⟨z, List.all_eq_true.mp kNs w z⟩
set_option maxRecDepth 100000 in
set_option maxHeartbeats 4000000 in
theorem xgood1 (ik : Nat) : ∀ w ∈ Cond.classLink "NativeWorks" ik "java/lang/IllegalArgumentException" :: Cond.initialized "java/lang/IllegalArgumentException" :: vx_atS "NativeWorks" 78 "java/lang/IllegalArgumentException" ["java/lang/RuntimeException", "java/lang/Exception"], vx_ot w = true := List.forall_mem_cons.mpr ⟨rfl, List.forall_mem_cons.mpr ⟨rfl, List.all_eq_true.mp (by decide +kernel)⟩⟩
