/-! THE LAW'S WALK -/
section LAWW
variable {l : Launch} {G : rGm} {b : Nat} {xs : Nat → Int32}
abbrev LV (l : Launch) (G : rGm) (b L : Nat) (xs : Nat → Int32) : rPr := rW vwCl rFo rZs rRs rNs rTs G l code 8 "NativeWorksLaw" ret false 2048 84000 0 (rLQ lw_Z G b L xs)
def oL : rOut := (none, ([], (76266, 8873440)))
theorem rEq_r (v : Nat) : rEq v v = true := Nat.beq_refl _
theorem rLc_r (v : Nat) : rEq (rOf (lg_cmp (lN v) (lN v))) 0 = true := by
  rw [(lg_cmp_eq (lN v) (lN v)).mpr rfl]
  decide +kernel
/-- the law's own end, in any room -/
theorem lw_retR {p : Program} {l : Launch} {e : Env} {R : Room} {s : State} {m : MethodId} {below : List Frame} {meth : Method} {c : Code} {b : Nat} (hx : p.tables.exec = Jvm.exec) (hb : c.code = code) (hr : meth.sig.returnType = ret) (hlocks : meth.locks = false) {pc : Nat} {H : Heap} {ls : Array Slot} (hdg : decode code pc = .ok (.ireturn, 1)) : W p l e R s m #[Value.ref b] below meth c H [] 76266 8873440 (lw_Z below #[Value.ref b] s) (F0 m pc ls [.int 1]) := by
  intro T hT X
  obtain ⟨fs, hret, hrun, hended, hW, hframe⟩ := X.leave (v := some (.int 1)) (hlocks := hlocks) (fun h => by rw [hr] at h; cases h)
  have hmeth' : T.vm.method? m = some meth := X.method'
  refine ⟨T.setFrames fs, ?_, .returned (some (.int 1)), hrun, hended, rfl, ⟨_, rfl⟩, hW, hframe⟩
  jvm_step X.here [X.here.top, hx, hb, hdg, hmeth', hr, ret, narrow_b1]
  (try refine ⟨rfl, ?_⟩); (try refine ⟨rfl, ?_⟩)
  first | (intro acts; rw [hret _ acts rfl rfl rfl]) | rw [hret _ _ rfl rfl rfl]
  exact Steps.refl _
theorem lv_end {L : Nat} {ls : rLs} {w : rWd} {n c : Nat} (hn : n ≤ 76266) (hc : c ≤ 8873440) : LV l G b L xs oL 1055 ls [.inl 1] w n c := V_end (fun p e R s m below meth c H locs rl hx hb hr hlocks hf => va_forget hf (W.widen (k := 76266) (n := 8873440) (by omega) (by omega) (lw_retR hx hb hr hlocks dL_law_1055)))
theorem lv_exit0 (hb : G.2.2.2.1 30000 = .ref b) {w : rWd} {n c : Nat} (hn : n ≤ 76266) (hc : c ≤ 8873440) : LV l G b 0 xs oL 23 [(4, .inl 0), (0, .inr (.inr 60002))] [] w n c := by
  refine HS.seg (ls' := [(4, .inl 0), (0, .inr (.inr 60002))]) (st' := [.inl 4294967290, .inl 0]) (w' := w) (n' := n) (c' := c) (HS.comp (s_iload 4 dL_law_23) <| HS.comp (s_aload_n (k := 0) 0 rfl dL_law_25) <| HS.comp (s_slen hb dL_law_26) <| HS.comp (s_bipush 6 (by decide +kernel) dL_law_27) <| s_isub dL_law_29) rfl hn hc ?_
  refine V_icT (pcs := [1054, 33]) (s_icmp_gt (b1 := 0) (b2 := 1) (tgt := 1054) rfl rfl (by decide) dL_law_30) rfl (by decide) hn hc ?_
  refine HS.seg (ls' := [(4, .inl 0), (0, .inr (.inr 60002))]) (st' := [.inl 1]) (w' := w) (n' := n) (c' := c) (s_iconst 1 (by decide +kernel) dL_law_1054) rfl hn hc ?_
  exact lv_end hn hc
theorem lv_exit1 (hb : G.2.2.2.1 30000 = .ref b) {w : rWd} {n c : Nat} (hn : n ≤ 76266) (hc : c ≤ 8873440) : LV l G b 1 xs oL 23 [(4, .inl 0), (0, .inr (.inr 60002))] [] w n c := by
  refine HS.seg (ls' := [(4, .inl 0), (0, .inr (.inr 60002))]) (st' := [.inl 4294967291, .inl 0]) (w' := w) (n' := n) (c' := c) (HS.comp (s_iload 4 dL_law_23) <| HS.comp (s_aload_n (k := 0) 0 rfl dL_law_25) <| HS.comp (s_slen hb dL_law_26) <| HS.comp (s_bipush 6 (by decide +kernel) dL_law_27) <| s_isub dL_law_29) rfl hn hc ?_
  refine V_icT (pcs := [1054, 33]) (s_icmp_gt (b1 := 0) (b2 := 1) (tgt := 1054) rfl rfl (by decide) dL_law_30) rfl (by decide) hn hc ?_
  refine HS.seg (ls' := [(4, .inl 0), (0, .inr (.inr 60002))]) (st' := [.inl 1]) (w' := w) (n' := n) (c' := c) (s_iconst 1 (by decide +kernel) dL_law_1054) rfl hn hc ?_
  exact lv_end hn hc
theorem lv_exit2 (hb : G.2.2.2.1 30000 = .ref b) {w : rWd} {n c : Nat} (hn : n ≤ 76266) (hc : c ≤ 8873440) : LV l G b 2 xs oL 23 [(4, .inl 0), (0, .inr (.inr 60002))] [] w n c := by
  refine HS.seg (ls' := [(4, .inl 0), (0, .inr (.inr 60002))]) (st' := [.inl 4294967292, .inl 0]) (w' := w) (n' := n) (c' := c) (HS.comp (s_iload 4 dL_law_23) <| HS.comp (s_aload_n (k := 0) 0 rfl dL_law_25) <| HS.comp (s_slen hb dL_law_26) <| HS.comp (s_bipush 6 (by decide +kernel) dL_law_27) <| s_isub dL_law_29) rfl hn hc ?_
  refine V_icT (pcs := [1054, 33]) (s_icmp_gt (b1 := 0) (b2 := 1) (tgt := 1054) rfl rfl (by decide) dL_law_30) rfl (by decide) hn hc ?_
  refine HS.seg (ls' := [(4, .inl 0), (0, .inr (.inr 60002))]) (st' := [.inl 1]) (w' := w) (n' := n) (c' := c) (s_iconst 1 (by decide +kernel) dL_law_1054) rfl hn hc ?_
  exact lv_end hn hc
theorem lv_exit3 (hb : G.2.2.2.1 30000 = .ref b) {w : rWd} {n c : Nat} (hn : n ≤ 76266) (hc : c ≤ 8873440) : LV l G b 3 xs oL 23 [(4, .inl 0), (0, .inr (.inr 60002))] [] w n c := by
  refine HS.seg (ls' := [(4, .inl 0), (0, .inr (.inr 60002))]) (st' := [.inl 4294967293, .inl 0]) (w' := w) (n' := n) (c' := c) (HS.comp (s_iload 4 dL_law_23) <| HS.comp (s_aload_n (k := 0) 0 rfl dL_law_25) <| HS.comp (s_slen hb dL_law_26) <| HS.comp (s_bipush 6 (by decide +kernel) dL_law_27) <| s_isub dL_law_29) rfl hn hc ?_
  refine V_icT (pcs := [1054, 33]) (s_icmp_gt (b1 := 0) (b2 := 1) (tgt := 1054) rfl rfl (by decide) dL_law_30) rfl (by decide) hn hc ?_
  refine HS.seg (ls' := [(4, .inl 0), (0, .inr (.inr 60002))]) (st' := [.inl 1]) (w' := w) (n' := n) (c' := c) (s_iconst 1 (by decide +kernel) dL_law_1054) rfl hn hc ?_
  exact lv_end hn hc
theorem lv_exit4 (hb : G.2.2.2.1 30000 = .ref b) {w : rWd} {n c : Nat} (hn : n ≤ 76266) (hc : c ≤ 8873440) : LV l G b 4 xs oL 23 [(4, .inl 0), (0, .inr (.inr 60002))] [] w n c := by
  refine HS.seg (ls' := [(4, .inl 0), (0, .inr (.inr 60002))]) (st' := [.inl 4294967294, .inl 0]) (w' := w) (n' := n) (c' := c) (HS.comp (s_iload 4 dL_law_23) <| HS.comp (s_aload_n (k := 0) 0 rfl dL_law_25) <| HS.comp (s_slen hb dL_law_26) <| HS.comp (s_bipush 6 (by decide +kernel) dL_law_27) <| s_isub dL_law_29) rfl hn hc ?_
  refine V_icT (pcs := [1054, 33]) (s_icmp_gt (b1 := 0) (b2 := 1) (tgt := 1054) rfl rfl (by decide) dL_law_30) rfl (by decide) hn hc ?_
  refine HS.seg (ls' := [(4, .inl 0), (0, .inr (.inr 60002))]) (st' := [.inl 1]) (w' := w) (n' := n) (c' := c) (s_iconst 1 (by decide +kernel) dL_law_1054) rfl hn hc ?_
  exact lv_end hn hc
theorem lv_exit5 (hb : G.2.2.2.1 30000 = .ref b) {w : rWd} {n c : Nat} (hn : n ≤ 76266) (hc : c ≤ 8873440) : LV l G b 5 xs oL 23 [(4, .inl 0), (0, .inr (.inr 60002))] [] w n c := by
  refine HS.seg (ls' := [(4, .inl 0), (0, .inr (.inr 60002))]) (st' := [.inl 4294967295, .inl 0]) (w' := w) (n' := n) (c' := c) (HS.comp (s_iload 4 dL_law_23) <| HS.comp (s_aload_n (k := 0) 0 rfl dL_law_25) <| HS.comp (s_slen hb dL_law_26) <| HS.comp (s_bipush 6 (by decide +kernel) dL_law_27) <| s_isub dL_law_29) rfl hn hc ?_
  refine V_icT (pcs := [1054, 33]) (s_icmp_gt (b1 := 0) (b2 := 1) (tgt := 1054) rfl rfl (by decide) dL_law_30) rfl (by decide) hn hc ?_
  refine HS.seg (ls' := [(4, .inl 0), (0, .inr (.inr 60002))]) (st' := [.inl 1]) (w' := w) (n' := n) (c' := c) (s_iconst 1 (by decide +kernel) dL_law_1054) rfl hn hc ?_
  exact lv_end hn hc
theorem lv_exit6 (hb : G.2.2.2.1 30000 = .ref b) {w : rWd} {n c : Nat} (hn : n ≤ 76266) (hc : c ≤ 8873440) : LV l G b 6 xs oL 23 [(4, .inl 6), (0, .inr (.inr 60002))] [] w n c := by
  refine HS.seg (ls' := [(4, .inl 6), (0, .inr (.inr 60002))]) (st' := [.inl 0, .inl 6]) (w' := w) (n' := n) (c' := c) (HS.comp (s_iload 4 dL_law_23) <| HS.comp (s_aload_n (k := 0) 0 rfl dL_law_25) <| HS.comp (s_slen hb dL_law_26) <| HS.comp (s_bipush 6 (by decide +kernel) dL_law_27) <| s_isub dL_law_29) rfl hn hc ?_
  refine V_icT (pcs := [1054, 33]) (s_icmp_gt (b1 := 0) (b2 := 1) (tgt := 1054) rfl rfl (by decide) dL_law_30) rfl (by decide) hn hc ?_
  refine HS.seg (ls' := [(4, .inl 6), (0, .inr (.inr 60002))]) (st' := [.inl 1]) (w' := w) (n' := n) (c' := c) (s_iconst 1 (by decide +kernel) dL_law_1054) rfl hn hc ?_
  exact lv_end hn hc
theorem lv_tail (hb : G.2.2.2.1 30000 = .ref b) {ls : rLs} {w : rWd} {n c : Nat} (hn : n ≤ 76266) (hc : c ≤ 8873440) (h4 : (4, .inl 0) ∈ ls) (h0 : (0, .inr (.inr 60002)) ∈ ls) : LV l G b 6 xs oL 1048 ls [] w n c := by
  refine rW.lessL (ls' := [(4, .inl 0), (0, .inr (.inr 60002))]) (fun q hq => ?_) ?_
  · rcases List.mem_cons.mp hq with rfl | hq
    · exact h4
    · rw [List.mem_singleton.mp hq]; exact h0
  refine HS.seg (ls' := [(4, .inl 6), (0, .inr (.inr 60002))]) (st' := []) (w' := w) (n' := n) (c' := c) (s_iinc 4 6 (6) (by decide +kernel) (by decide) dL_law_1048) rfl hn hc ?_
  refine V_go (pcs := [23]) (s_goto (b := 0) (tgt := 23) rfl (by decide) dL_law_1051) rfl hn hc ?_
  exact lv_exit6 hb hn hc
end LAWW
