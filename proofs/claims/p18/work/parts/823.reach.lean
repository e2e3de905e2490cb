/-! FROM BOTH MADE TO THE LOOP -/
/-- the law's own end, in any room -/
theorem lw_retR {p : Program} {l : Launch} {e : Env} {R : Room} {s : State} {m : MethodId} {below : List Frame} {meth : Method} {c : Code} {b : Nat} (hx : p.tables.exec = Jvm.exec) (hb : c.code = code) (hr : meth.sig.returnType = ret) (hlocks : meth.locks = false) {pc : Nat} {H : Heap} {ls : Array Slot} (hdg : decode code pc = .ok (.ireturn, 1)) : W p l e R s m #[Value.ref b] below meth c H [] 76454 8872312 (lw_Z below #[Value.ref b] s) (F0 m pc ls [.int 1]) := by
  intro T hT X
  obtain ⟨fs, hret, hrun, hended, hW, hframe⟩ := X.leave (v := some (.int 1)) (hlocks := hlocks) (fun h => by rw [hr] at h; cases h)
  have hmeth' : T.vm.method? m = some meth := X.method'
  refine ⟨T.setFrames fs, ?_, .returned (some (.int 1)), hrun, hended, rfl, ⟨_, rfl⟩, hW, hframe⟩
  jvm_step X.here [X.here.top, hx, hb, hdg, hmeth', hr, ret, narrow_b1]
  (try refine ⟨rfl, ?_⟩); (try refine ⟨rfl, ?_⟩)
  first | (intro acts; rw [hret _ acts rfl rfl rfl]) | rw [hret _ _ rfl rfl rfl]
  exact Steps.refl _
section LAWR
variable {l : Launch} {G : rGm} {b L : Nat} {xs : Nat → Int32}
theorem kl_exit {kc ks : Nat} {s : qSg} (h1 : kc ≤ lwC) (h2 : ks ≤ lwS) : kL lw_Z G l b L 14081 xs kc ks 914 [] [] s := by
  refine k_iconst (z := 1) dL_law_914 _ _ _ ?_
  exact kl_end (v := 1) (fun p e R s m below meth c H locs rl hx hb hr hlocks hf => va_forget hf (W.widen (k := 76454) (n := 8872312) (Nat.le_trans h1 (by decide)) (Nat.le_trans h2 (by decide)) (lw_retR hx hb hr hlocks dL_law_915)))
set_option maxRecDepth 1000000 in
theorem lw_23 (hl : l.stackTraces = false) (hb : G.2.2.2.1 30000 = .ref b) (hL : L ≤ 288) : LV l G b L xs oL 23 [(4, .inl 0), (3, .inr (.inr 28161)), (2, .inr (.inr 26909)), (1, .inr (.inr 1)), (0, .inr (.inr 60002))] [] wL 14081 3374454 := fun p e R s m args below meth c X r1 r2 r3 rl H locs hl0 hP hL0 => by
  have r1 : 76454 - 0 ≤ R.cells := r1
  have r2 : 8872312 ≤ R.slots := r2
  have hK := lt_loop (Z := lw_Z) (n := 14081) (xs := xs) hl hb hL (fun kc ks s h1 h2 => kl_exit h1 h2) 48 0 rfl s0 tI_0
  have hlv : lv_has rl 8 ((kLs (6 * 0)).map (kLv G)) := lv_sub hl0 [4, 3, 2, 1, 0] rfl
  exact hK p e R s m args below meth c X ⟨⟨Nat.le_trans (by decide) r1, Nat.le_trans (by decide) r2⟩, Nat.le_trans (show 14081 + 0 ≤ 76454 - 0 by decide) r1, Nat.le_trans (show 3374454 + 6 * 0 ≤ 8872312 by decide) r2⟩ rl H locs hlv (s0_pic hP) hL0
theorem lv_all (hl : l.stackTraces = false) (hb : G.2.2.2.1 30000 = .ref b) (hL : L ≤ 288) : LV l G b L xs oL 0 [(0, .inr (.inr 60002))] [] [] 0 0 := lv_made (lw_23 hl hb hL)
end LAWR
