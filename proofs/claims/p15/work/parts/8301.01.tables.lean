/-! THE START: the tables' words -/
theorem tI1 {i : Nat} {w : Cond} (h : tables_1_1[i]? = some w) : w ∈ lw_tbl := List.mem_append_right _ (List.mem_append_left _ (List.mem_of_getElem? h))
theorem tI2 {i : Nat} {w : Cond} (h : tables_1_2[i]? = some w) : w ∈ lw_tbl := List.mem_append_right _ (List.mem_append_right _ (List.mem_append_left _ (List.mem_of_getElem? h)))
theorem tI3 {i : Nat} {w : Cond} (h : tables_1_3[i]? = some w) : w ∈ lw_tbl := List.mem_append_right _ (List.mem_append_right _ (List.mem_append_right _ (List.mem_append_left _ (List.mem_of_getElem? h))))
theorem tI4 {i : Nat} {w : Cond} (h : tables_1_4[i]? = some w) : w ∈ lw_tbl := List.mem_append_right _ (List.mem_append_right _ (List.mem_append_right _ (List.mem_append_right _ (List.mem_append_left _ (List.mem_of_getElem? h)))))
theorem tI5 {i : Nat} {w : Cond} (h : tables_1_5[i]? = some w) : w ∈ lw_tbl := List.mem_append_right _ (List.mem_append_right _ (List.mem_append_right _ (List.mem_append_right _ (List.mem_append_right _ (List.mem_append_left _ (List.mem_of_getElem? h))))))
theorem tI6 {i : Nat} {w : Cond} (h : tables_1_6[i]? = some w) : w ∈ lw_tbl := List.mem_append_right _ (List.mem_append_right _ (List.mem_append_right _ (List.mem_append_right _ (List.mem_append_right _ (List.mem_append_right _ (List.mem_append_left _ (List.mem_of_getElem? h)))))))
theorem tI7 {i : Nat} {w : Cond} (h : tables_1_7[i]? = some w) : w ∈ lw_tbl := List.mem_append_right _ (List.mem_append_right _ (List.mem_append_right _ (List.mem_append_right _ (List.mem_append_right _ (List.mem_append_right _ (List.mem_append_right _ (List.mem_append_left _ (List.mem_of_getElem? h))))))))
theorem tI8 {i : Nat} {w : Cond} (h : tables_1_8[i]? = some w) : w ∈ lw_tbl := List.mem_append_right _ (List.mem_append_right _ (List.mem_append_right _ (List.mem_append_right _ (List.mem_append_right _ (List.mem_append_right _ (List.mem_append_right _ (List.mem_append_right _ (List.mem_append_left _ (List.mem_of_getElem? h)))))))))
theorem tI9 {i : Nat} {w : Cond} (h : tables_1_9[i]? = some w) : w ∈ lw_tbl := List.mem_append_right _ (List.mem_append_right _ (List.mem_append_right _ (List.mem_append_right _ (List.mem_append_right _ (List.mem_append_right _ (List.mem_append_right _ (List.mem_append_right _ (List.mem_append_right _ (List.mem_append_left _ (List.mem_of_getElem? h))))))))))
theorem tI10 {i : Nat} {w : Cond} (h : tables_1_10[i]? = some w) : w ∈ lw_tbl := List.mem_append_right _ (List.mem_append_right _ (List.mem_append_right _ (List.mem_append_right _ (List.mem_append_right _ (List.mem_append_right _ (List.mem_append_right _ (List.mem_append_right _ (List.mem_append_right _ (List.mem_append_right _ (List.mem_append_left _ (List.mem_of_getElem? h)))))))))))
theorem tI11 {i : Nat} {w : Cond} (h : tables_1_11[i]? = some w) : w ∈ lw_tbl := List.mem_append_right _ (List.mem_append_right _ (List.mem_append_right _ (List.mem_append_right _ (List.mem_append_right _ (List.mem_append_right _ (List.mem_append_right _ (List.mem_append_right _ (List.mem_append_right _ (List.mem_append_right _ (List.mem_append_right _ (List.mem_append_left _ (List.mem_of_getElem? h))))))))))))
theorem tI12 {i : Nat} {w : Cond} (h : tables_1_12[i]? = some w) : w ∈ lw_tbl := List.mem_append_right _ (List.mem_append_right _ (List.mem_append_right _ (List.mem_append_right _ (List.mem_append_right _ (List.mem_append_right _ (List.mem_append_right _ (List.mem_append_right _ (List.mem_append_right _ (List.mem_append_right _ (List.mem_append_right _ (List.mem_append_right _ (List.mem_append_left _ (List.mem_of_getElem? h)))))))))))))
theorem tI13 {i : Nat} {w : Cond} (h : tables_1_13[i]? = some w) : w ∈ lw_tbl := List.mem_append_right _ (List.mem_append_right _ (List.mem_append_right _ (List.mem_append_right _ (List.mem_append_right _ (List.mem_append_right _ (List.mem_append_right _ (List.mem_append_right _ (List.mem_append_right _ (List.mem_append_right _ (List.mem_append_right _ (List.mem_append_right _ (List.mem_append_right _ (List.mem_append_left _ (List.mem_of_getElem? h))))))))))))))
theorem tI14 {i : Nat} {w : Cond} (h : tables_1_14[i]? = some w) : w ∈ lw_tbl := List.mem_append_right _ (List.mem_append_right _ (List.mem_append_right _ (List.mem_append_right _ (List.mem_append_right _ (List.mem_append_right _ (List.mem_append_right _ (List.mem_append_right _ (List.mem_append_right _ (List.mem_append_right _ (List.mem_append_right _ (List.mem_append_right _ (List.mem_append_right _ (List.mem_append_right _ (List.mem_append_left _ (List.mem_of_getElem? h)))))))))))))))
theorem tI15 {i : Nat} {w : Cond} (h : tables_1_15[i]? = some w) : w ∈ lw_tbl := List.mem_append_right _ (List.mem_append_right _ (List.mem_append_right _ (List.mem_append_right _ (List.mem_append_right _ (List.mem_append_right _ (List.mem_append_right _ (List.mem_append_right _ (List.mem_append_right _ (List.mem_append_right _ (List.mem_append_right _ (List.mem_append_right _ (List.mem_append_right _ (List.mem_append_right _ (List.mem_append_right _ (List.mem_append_left _ (List.mem_of_getElem? h))))))))))))))))
theorem tI16 {i : Nat} {w : Cond} (h : tables_1_16[i]? = some w) : w ∈ lw_tbl := List.mem_append_right _ (List.mem_append_right _ (List.mem_append_right _ (List.mem_append_right _ (List.mem_append_right _ (List.mem_append_right _ (List.mem_append_right _ (List.mem_append_right _ (List.mem_append_right _ (List.mem_append_right _ (List.mem_append_right _ (List.mem_append_right _ (List.mem_append_right _ (List.mem_append_right _ (List.mem_append_right _ (List.mem_append_right _ (List.mem_append_left _ (List.mem_of_getElem? h)))))))))))))))))
theorem tI17 {i : Nat} {w : Cond} (h : tables_1_17[i]? = some w) : w ∈ lw_tbl := List.mem_append_right _ (List.mem_append_right _ (List.mem_append_right _ (List.mem_append_right _ (List.mem_append_right _ (List.mem_append_right _ (List.mem_append_right _ (List.mem_append_right _ (List.mem_append_right _ (List.mem_append_right _ (List.mem_append_right _ (List.mem_append_right _ (List.mem_append_right _ (List.mem_append_right _ (List.mem_append_right _ (List.mem_append_right _ (List.mem_append_right _ (List.mem_of_getElem? h)))))))))))))))))
theorem tS1 {i : Nat} {q : MethodName × Nat} (h : lw_privs_1[i]? = some q) : Cond.selects q.1.cls q.1 q.1 ∈ lw_tbl := List.mem_append_left _ (List.mem_map.mpr ⟨q, List.mem_append_left _ (List.mem_of_getElem? h), rfl⟩)
theorem tS2 {i : Nat} {q : MethodName × Nat} (h : lw_privs_2[i]? = some q) : Cond.selects q.1.cls q.1 q.1 ∈ lw_tbl := List.mem_append_left _ (List.mem_map.mpr ⟨q, List.mem_append_right _ (List.mem_append_left _ (List.mem_of_getElem? h)), rfl⟩)
theorem tS3 {i : Nat} {q : MethodName × Nat} (h : lw_privs_3[i]? = some q) : Cond.selects q.1.cls q.1 q.1 ∈ lw_tbl := List.mem_append_left _ (List.mem_map.mpr ⟨q, List.mem_append_right _ (List.mem_append_right _ (List.mem_append_left _ (List.mem_of_getElem? h))), rfl⟩)
theorem tS4 {i : Nat} {q : MethodName × Nat} (h : lw_privs_4[i]? = some q) : Cond.selects q.1.cls q.1 q.1 ∈ lw_tbl := List.mem_append_left _ (List.mem_map.mpr ⟨q, List.mem_append_right _ (List.mem_append_right _ (List.mem_append_right _ (List.mem_append_left _ (List.mem_of_getElem? h)))), rfl⟩)
theorem tS5 {i : Nat} {q : MethodName × Nat} (h : lw_privs_5[i]? = some q) : Cond.selects q.1.cls q.1 q.1 ∈ lw_tbl := List.mem_append_left _ (List.mem_map.mpr ⟨q, List.mem_append_right _ (List.mem_append_right _ (List.mem_append_right _ (List.mem_append_right _ (List.mem_append_left _ (List.mem_of_getElem? h))))), rfl⟩)
theorem tS6 {i : Nat} {q : MethodName × Nat} (h : lw_privs_6[i]? = some q) : Cond.selects q.1.cls q.1 q.1 ∈ lw_tbl := List.mem_append_left _ (List.mem_map.mpr ⟨q, List.mem_append_right _ (List.mem_append_right _ (List.mem_append_right _ (List.mem_append_right _ (List.mem_append_right _ (List.mem_append_left _ (List.mem_of_getElem? h)))))), rfl⟩)
theorem tS7 {i : Nat} {q : MethodName × Nat} (h : lw_privs_7[i]? = some q) : Cond.selects q.1.cls q.1 q.1 ∈ lw_tbl := List.mem_append_left _ (List.mem_map.mpr ⟨q, List.mem_append_right _ (List.mem_append_right _ (List.mem_append_right _ (List.mem_append_right _ (List.mem_append_right _ (List.mem_append_right _ (List.mem_append_left _ (List.mem_of_getElem? h))))))), rfl⟩)
theorem tS8 {i : Nat} {q : MethodName × Nat} (h : lw_privs_8[i]? = some q) : Cond.selects q.1.cls q.1 q.1 ∈ lw_tbl := List.mem_append_left _ (List.mem_map.mpr ⟨q, List.mem_append_right _ (List.mem_append_right _ (List.mem_append_right _ (List.mem_append_right _ (List.mem_append_right _ (List.mem_append_right _ (List.mem_append_right _ (List.mem_append_left _ (List.mem_of_getElem? h)))))))), rfl⟩)
theorem tS9 {i : Nat} {q : MethodName × Nat} (h : lw_privs_9[i]? = some q) : Cond.selects q.1.cls q.1 q.1 ∈ lw_tbl := List.mem_append_left _ (List.mem_map.mpr ⟨q, List.mem_append_right _ (List.mem_append_right _ (List.mem_append_right _ (List.mem_append_right _ (List.mem_append_right _ (List.mem_append_right _ (List.mem_append_right _ (List.mem_append_right _ (List.mem_append_left _ (List.mem_of_getElem? h))))))))), rfl⟩)
theorem tS10 {i : Nat} {q : MethodName × Nat} (h : lw_privs_10[i]? = some q) : Cond.selects q.1.cls q.1 q.1 ∈ lw_tbl := List.mem_append_left _ (List.mem_map.mpr ⟨q, List.mem_append_right _ (List.mem_append_right _ (List.mem_append_right _ (List.mem_append_right _ (List.mem_append_right _ (List.mem_append_right _ (List.mem_append_right _ (List.mem_append_right _ (List.mem_append_right _ (List.mem_append_left _ (List.mem_of_getElem? h)))))))))), rfl⟩)
theorem tS11 {i : Nat} {q : MethodName × Nat} (h : lw_privs_11[i]? = some q) : Cond.selects q.1.cls q.1 q.1 ∈ lw_tbl := List.mem_append_left _ (List.mem_map.mpr ⟨q, List.mem_append_right _ (List.mem_append_right _ (List.mem_append_right _ (List.mem_append_right _ (List.mem_append_right _ (List.mem_append_right _ (List.mem_append_right _ (List.mem_append_right _ (List.mem_append_right _ (List.mem_append_right _ (List.mem_append_left _ (List.mem_of_getElem? h))))))))))), rfl⟩)
theorem tS12 {i : Nat} {q : MethodName × Nat} (h : lw_privs_12[i]? = some q) : Cond.selects q.1.cls q.1 q.1 ∈ lw_tbl := List.mem_append_left _ (List.mem_map.mpr ⟨q, List.mem_append_right _ (List.mem_append_right _ (List.mem_append_right _ (List.mem_append_right _ (List.mem_append_right _ (List.mem_append_right _ (List.mem_append_right _ (List.mem_append_right _ (List.mem_append_right _ (List.mem_append_right _ (List.mem_append_right _ (List.mem_append_left _ (List.mem_of_getElem? h)))))))))))), rfl⟩)
theorem tS13 {i : Nat} {q : MethodName × Nat} (h : lw_privs_13[i]? = some q) : Cond.selects q.1.cls q.1 q.1 ∈ lw_tbl := List.mem_append_left _ (List.mem_map.mpr ⟨q, List.mem_append_right _ (List.mem_append_right _ (List.mem_append_right _ (List.mem_append_right _ (List.mem_append_right _ (List.mem_append_right _ (List.mem_append_right _ (List.mem_append_right _ (List.mem_append_right _ (List.mem_append_right _ (List.mem_append_right _ (List.mem_append_right _ (List.mem_append_left _ (List.mem_of_getElem? h))))))))))))), rfl⟩)
theorem tS14 {i : Nat} {q : MethodName × Nat} (h : lw_privs_14[i]? = some q) : Cond.selects q.1.cls q.1 q.1 ∈ lw_tbl := List.mem_append_left _ (List.mem_map.mpr ⟨q, List.mem_append_right _ (List.mem_append_right _ (List.mem_append_right _ (List.mem_append_right _ (List.mem_append_right _ (List.mem_append_right _ (List.mem_append_right _ (List.mem_append_right _ (List.mem_append_right _ (List.mem_append_right _ (List.mem_append_right _ (List.mem_append_right _ (List.mem_append_right _ (List.mem_append_left _ (List.mem_of_getElem? h)))))))))))))), rfl⟩)
theorem tS15 {i : Nat} {q : MethodName × Nat} (h : lw_privs_15[i]? = some q) : Cond.selects q.1.cls q.1 q.1 ∈ lw_tbl := List.mem_append_left _ (List.mem_map.mpr ⟨q, List.mem_append_right _ (List.mem_append_right _ (List.mem_append_right _ (List.mem_append_right _ (List.mem_append_right _ (List.mem_append_right _ (List.mem_append_right _ (List.mem_append_right _ (List.mem_append_right _ (List.mem_append_right _ (List.mem_append_right _ (List.mem_append_right _ (List.mem_append_right _ (List.mem_append_right _ (List.mem_append_left _ (List.mem_of_getElem? h))))))))))))))), rfl⟩)
theorem tS16 {i : Nat} {q : MethodName × Nat} (h : lw_privs_16[i]? = some q) : Cond.selects q.1.cls q.1 q.1 ∈ lw_tbl := List.mem_append_left _ (List.mem_map.mpr ⟨q, List.mem_append_right _ (List.mem_append_right _ (List.mem_append_right _ (List.mem_append_right _ (List.mem_append_right _ (List.mem_append_right _ (List.mem_append_right _ (List.mem_append_right _ (List.mem_append_right _ (List.mem_append_right _ (List.mem_append_right _ (List.mem_append_right _ (List.mem_append_right _ (List.mem_append_right _ (List.mem_append_right _ (List.mem_append_left _ (List.mem_of_getElem? h)))))))))))))))), rfl⟩)
theorem tS17 {i : Nat} {q : MethodName × Nat} (h : lw_privs_17[i]? = some q) : Cond.selects q.1.cls q.1 q.1 ∈ lw_tbl := List.mem_append_left _ (List.mem_map.mpr ⟨q, List.mem_append_right _ (List.mem_append_right _ (List.mem_append_right _ (List.mem_append_right _ (List.mem_append_right _ (List.mem_append_right _ (List.mem_append_right _ (List.mem_append_right _ (List.mem_append_right _ (List.mem_append_right _ (List.mem_append_right _ (List.mem_append_right _ (List.mem_append_right _ (List.mem_append_right _ (List.mem_append_right _ (List.mem_append_right _ (List.mem_append_left _ (List.mem_of_getElem? h))))))))))))))))), rfl⟩)
theorem tS18 {i : Nat} {q : MethodName × Nat} (h : lw_privs_18[i]? = some q) : Cond.selects q.1.cls q.1 q.1 ∈ lw_tbl := List.mem_append_left _ (List.mem_map.mpr ⟨q, List.mem_append_right _ (List.mem_append_right _ (List.mem_append_right _ (List.mem_append_right _ (List.mem_append_right _ (List.mem_append_right _ (List.mem_append_right _ (List.mem_append_right _ (List.mem_append_right _ (List.mem_append_right _ (List.mem_append_right _ (List.mem_append_right _ (List.mem_append_right _ (List.mem_append_right _ (List.mem_append_right _ (List.mem_append_right _ (List.mem_append_right _ (List.mem_append_left _ (List.mem_of_getElem? h)))))))))))))))))), rfl⟩)
theorem tS19 {i : Nat} {q : MethodName × Nat} (h : lw_privs_19[i]? = some q) : Cond.selects q.1.cls q.1 q.1 ∈ lw_tbl := List.mem_append_left _ (List.mem_map.mpr ⟨q, List.mem_append_right _ (List.mem_append_right _ (List.mem_append_right _ (List.mem_append_right _ (List.mem_append_right _ (List.mem_append_right _ (List.mem_append_right _ (List.mem_append_right _ (List.mem_append_right _ (List.mem_append_right _ (List.mem_append_right _ (List.mem_append_right _ (List.mem_append_right _ (List.mem_append_right _ (List.mem_append_right _ (List.mem_append_right _ (List.mem_append_right _ (List.mem_append_right _ (List.mem_of_getElem? h)))))))))))))))))), rfl⟩)
def tpc (p : Nat) : List Cond := match p with
  | 1 => tables_1_1
  | 2 => tables_1_2
  | 3 => tables_1_3
  | 4 => tables_1_4
  | 5 => tables_1_5
  | 6 => tables_1_6
  | 7 => tables_1_7
  | 8 => tables_1_8
  | 9 => tables_1_9
  | 10 => tables_1_10
  | 11 => tables_1_11
  | 12 => tables_1_12
  | 13 => tables_1_13
  | 14 => tables_1_14
  | 15 => tables_1_15
  | 16 => tables_1_16
  | 17 => tables_1_17
  | _ => []
theorem tpc_in {p i : Nat} {w : Cond} (h : (tpc p)[i]? = some w) : w ∈ lw_tbl := by
  unfold tpc at h
  split at h
  · exact tI1 h
  · exact tI2 h
  · exact tI3 h
  · exact tI4 h
  · exact tI5 h
  · exact tI6 h
  · exact tI7 h
  · exact tI8 h
  · exact tI9 h
  · exact tI10 h
  · exact tI11 h
  · exact tI12 h
  · exact tI13 h
  · exact tI14 h
  · exact tI15 h
  · exact tI16 h
  · exact tI17 h
  · cases h
theorem at_tbl {L : List Cond} {P : List (Nat × Nat)} (h : L.map some = P.map (fun q => (tpc q.1)[q.2]?)) : ∀ w ∈ L, w ∈ lw_tbl := by
  intro w hw
  have h1 : some w ∈ L.map some := List.mem_map.mpr ⟨w, hw, rfl⟩
  rw [h] at h1
  obtain ⟨q, -, hq⟩ := List.mem_map.mp h1
  exact tpc_in hq
theorem at_npc {L : List Cond} {P : List (Nat × Nat)} {args : Array Value} {s : State} (h : L.map some = P.map (fun q => (npc q.1)[q.2]?)) (hN : ∀ p, ∀ w ∈ npc p, w.before args s = true) : ∀ w ∈ L, w.before args s = true := by
  intro w hw
  have h1 : some w ∈ L.map some := List.mem_map.mpr ⟨w, hw, rfl⟩
  rw [h] at h1
  obtain ⟨q, -, hq⟩ := List.mem_map.mp h1
  exact hN _ _ (List.mem_of_getElem? hq)
set_option maxRecDepth 100000 in
theorem tu0 : ∀ w ∈ u_ws RJ0 TJ0 4, w ∈ lw_tbl := at_tbl (P := [(7, 22), (7, 24), (7, 26), (7, 28)]) (by decide +kernel)
set_option maxRecDepth 100000 in
theorem tu1 : ∀ w ∈ u_ws RJ4 TJ4 4, w ∈ lw_tbl := at_tbl (P := [(6, 80), (6, 82), (6, 84), (6, 86)]) (by decide +kernel)
set_option maxRecDepth 100000 in
theorem tu2 : ∀ w ∈ u_ws RX0 TX0 15, w ∈ lw_tbl := at_tbl (P := [(3, 152), (3, 154), (3, 156), (3, 158), (3, 160), (3, 162), (3, 164), (3, 166), (3, 168), (3, 170), (3, 172), (3, 174), (3, 176), (3, 178), (3, 180)]) (by decide +kernel)
set_option maxRecDepth 100000 in
theorem tu3 : ∀ w ∈ u_ws RX1 TX1 11, w ∈ lw_tbl := at_tbl (P := [(3, 1), (3, 3), (3, 5), (3, 7), (3, 9), (3, 11), (3, 13), (3, 15), (3, 17), (3, 19), (3, 21)]) (by decide +kernel)
set_option maxRecDepth 100000 in
theorem tu4 : ∀ w ∈ u_ws RX2 TX2 21, w ∈ lw_tbl := at_tbl (P := [(3, 93), (3, 95), (3, 97), (3, 99), (3, 101), (3, 103), (3, 105), (3, 107), (3, 109), (3, 111), (3, 113), (3, 115), (3, 117), (3, 119), (3, 121), (3, 123), (3, 125), (3, 127), (3, 129), (3, 131), (3, 133)]) (by decide +kernel)
set_option maxRecDepth 100000 in
theorem tu5 : ∀ w ∈ u_ws RX3 TX3 10, w ∈ lw_tbl := at_tbl (P := [(2, 56), (2, 58), (2, 60), (2, 62), (2, 64), (2, 66), (2, 68), (2, 70), (2, 72), (2, 74)]) (by decide +kernel)
set_option maxRecDepth 100000 in
theorem tu6 : ∀ w ∈ u_ws RX4 TX4 18, w ∈ lw_tbl := at_tbl (P := [(3, 227), (3, 229), (3, 231), (3, 233), (3, 235), (3, 237), (3, 239), (4, 1), (4, 3), (4, 5), (4, 7), (4, 9), (4, 11), (4, 13), (4, 15), (4, 17), (4, 19), (4, 21)]) (by decide +kernel)
set_option maxRecDepth 100000 in
theorem tu7 : ∀ w ∈ u_ws RX5 TX5 17, w ∈ lw_tbl := at_tbl (P := [(4, 109), (4, 111), (4, 113), (4, 115), (4, 117), (4, 119), (4, 121), (4, 123), (4, 125), (4, 127), (4, 129), (4, 131), (4, 133), (4, 135), (4, 137), (4, 139), (4, 141)]) (by decide +kernel)
set_option maxRecDepth 100000 in
theorem tu8 : ∀ w ∈ u_ws RX6 TX6 12, w ∈ lw_tbl := at_tbl (P := [(4, 56), (4, 58), (4, 60), (4, 62), (4, 64), (4, 66), (4, 68), (4, 70), (4, 72), (4, 74), (4, 76), (4, 78)]) (by decide +kernel)
set_option maxRecDepth 100000 in
theorem tu9 : ∀ w ∈ u_ws RX7 TX7 6, w ∈ lw_tbl := at_tbl (P := [(1, 74), (1, 76), (1, 78), (1, 80), (1, 82), (1, 84)]) (by decide +kernel)
set_option maxRecDepth 100000 in
theorem tu10 : ∀ w ∈ u_ws RX8 TX8 20, w ∈ lw_tbl := at_tbl (P := [(2, 176), (2, 178), (2, 180), (2, 182), (2, 184), (2, 186), (2, 188), (2, 190), (2, 192), (2, 194), (2, 196), (2, 198), (2, 200), (2, 202), (2, 204), (2, 206), (2, 208), (2, 210), (2, 212), (2, 214)]) (by decide +kernel)
set_option maxRecDepth 100000 in
theorem tu11 : ∀ w ∈ u_ws RX9 TX9 14, w ∈ lw_tbl := at_tbl (P := [(2, 119), (2, 121), (2, 123), (2, 125), (2, 127), (2, 129), (2, 131), (2, 133), (2, 135), (2, 137), (2, 139), (2, 141), (2, 143), (2, 145)]) (by decide +kernel)
set_option maxRecDepth 100000 in
theorem tu12 : ∀ w ∈ u_ws RX10 TX10 19, w ∈ lw_tbl := at_tbl (P := [(1, 131), (1, 133), (1, 135), (1, 137), (1, 139), (1, 141), (1, 143), (1, 145), (1, 147), (1, 149), (1, 151), (1, 153), (1, 155), (1, 157), (1, 159), (1, 161), (1, 163), (1, 165), (1, 167)]) (by decide +kernel)
set_option maxRecDepth 100000 in
theorem tu13 : ∀ w ∈ u_ws RX11 TX11 9, w ∈ lw_tbl := at_tbl (P := [(4, 153), (4, 155), (4, 157), (4, 159), (4, 161), (4, 163), (4, 165), (4, 167), (4, 169)]) (by decide +kernel)
set_option maxRecDepth 100000 in
theorem tu14 : ∀ w ∈ u_ws RX12 TX12 13, w ∈ lw_tbl := at_tbl (P := [(10, 202), (10, 204), (10, 206), (10, 208), (10, 210), (10, 212), (10, 214), (10, 216), (10, 218), (10, 220), (10, 222), (10, 224), (10, 226)]) (by decide +kernel)
set_option maxRecDepth 100000 in
theorem tu15 : ∀ w ∈ u_ws RX13 TX13 205, w ∈ lw_tbl := at_tbl (P := [(12, 113), (12, 115), (12, 117), (12, 119), (12, 121), (12, 123), (12, 125), (12, 127), (12, 129), (12, 131), (12, 133), (12, 135), (12, 137), (12, 139), (12, 141), (12, 143), (12, 145), (12, 147), (12, 149), (12, 151), (12, 153), (12, 155), (12, 157), (12, 159), (12, 161), (12, 163), (12, 165), (12, 167), (12, 169), (12, 171), (12, 173), (12, 175), (12, 177), (12, 179), (12, 181), (12, 183), (12, 185), (12, 187), (12, 189), (12, 191), (12, 193), (12, 195), (12, 197), (12, 199), (12, 201), (12, 203), (12, 205), (12, 207), (12, 209), (12, 211), (12, 213), (12, 215), (12, 217), (12, 219), (12, 221), (12, 223), (12, 225), (12, 227), (12, 229), (12, 231), (12, 233), (12, 235), (12, 237), (12, 239), (13, 1), (13, 3), (13, 5), (13, 7), (13, 9), (13, 11), (13, 13), (13, 15), (13, 17), (13, 19), (13, 21), (13, 23), (13, 25), (13, 27), (13, 29), (13, 31), (13, 33), (13, 35), (13, 37), (13, 39), (13, 41), (13, 43), (13, 45), (13, 47), (13, 49), (13, 51), (13, 53), (13, 55), (13, 57), (13, 59), (13, 61), (13, 63), (13, 65), (13, 67), (13, 69), (13, 71), (13, 73), (13, 75), (13, 77), (13, 79), (13, 81), (13, 83), (13, 85), (13, 87), (13, 89), (13, 91), (13, 93), (13, 95), (13, 97), (13, 99), (13, 101), (13, 103), (13, 105), (13, 107), (13, 109), (13, 111), (13, 113), (13, 115), (13, 117), (13, 119), (13, 121), (13, 123), (13, 125), (13, 127), (13, 129), (13, 131), (13, 133), (13, 135), (13, 137), (13, 139), (13, 141), (13, 143), (13, 145), (13, 147), (13, 149), (13, 151), (13, 153), (13, 155), (13, 157), (13, 159), (13, 161), (13, 163), (13, 165), (13, 167), (13, 169), (13, 171), (13, 173), (13, 175), (13, 177), (13, 179), (13, 181), (13, 183), (13, 185), (13, 187), (13, 189), (13, 191), (13, 193), (13, 195), (13, 197), (13, 199), (13, 201), (13, 203), (13, 205), (13, 207), (13, 209), (13, 211), (13, 213), (13, 215), (13, 217), (13, 219), (13, 221), (13, 223), (13, 225), (13, 227), (13, 229), (13, 231), (13, 233), (13, 235), (13, 237), (13, 239), (14, 1), (14, 3), (14, 5), (14, 7), (14, 9), (14, 11), (14, 13), (14, 15), (14, 17), (14, 19), (14, 21), (14, 23), (14, 25), (14, 27), (14, 29), (14, 31), (14, 33), (14, 35), (14, 37), (14, 39), (14, 41)]) (by decide +kernel)
