/-! THE START: all the words -/
section TBA
variable {args : Array Value} {s : State}
set_option maxRecDepth 100000 in
set_option maxHeartbeats 4000000 in
theorem rB_eq : rBase = rB0 ++ (rB1 ++ (rB2 ++ (rB3 ++ (rB4 ++ (rB5 ++ (rB6 ++ (rB7 ++ (rB8 ++ (rB9 ++ (rB10 ++ (rB11 ++ (rB12 ++ (rB13 ++ (rB14 ++ (rB15 ++ (rB16 ++ (rB17 ++ (rB18 ++ (rB19 ++ (rB20 ++ (rB21 ++ (rB22 ++ (rB23 ++ (rB24 ++ (rB25 ++ (rB26 ++ (rB27 ++ (rB28 ++ (rB29 ++ (rB30 ++ (rB31 ++ (rB32 ++ (rB33 ++ (rB34 ++ (rB35 ++ (rB36 ++ (rB37 ++ (rB38 ++ (rB39 ++ (rB40 ++ (rB41 ++ (rB42 ++ (rB43 ++ (rB44 ++ (rB45 ++ (rB46 ++ (rB47 ++ (rB48 ++ (rB49 ++ (rB50 ++ (rB51 ++ (rB52 ++ (rB53 ++ (rB54 ++ (rB55 ++ (rB56 ++ (rB57 ++ (rB58 ++ (rB59 ++ (rB60)))))))))))))))))))))))))))))))))))))))))))))))))))))))))))) := by rfl
theorem st_base (hts : ∀ w ∈ lw_tbl, w.before args s = true) : ∀ w ∈ rBase, w.before args s = true := by
  rw [rB_eq]
  exact List.forall_mem_append.mpr ⟨tb0 hts, List.forall_mem_append.mpr ⟨tb1 hts, List.forall_mem_append.mpr ⟨tb2 hts, List.forall_mem_append.mpr ⟨tb3 hts, List.forall_mem_append.mpr ⟨tb4 hts, List.forall_mem_append.mpr ⟨tb5 hts, List.forall_mem_append.mpr ⟨tb6 hts, List.forall_mem_append.mpr ⟨tb7 hts, List.forall_mem_append.mpr ⟨tb8 hts, List.forall_mem_append.mpr ⟨tb9 hts, List.forall_mem_append.mpr ⟨tb10 hts, List.forall_mem_append.mpr ⟨tb11 hts, List.forall_mem_append.mpr ⟨tb12 hts, List.forall_mem_append.mpr ⟨tb13 hts, List.forall_mem_append.mpr ⟨tb14 hts, List.forall_mem_append.mpr ⟨tb15 hts, List.forall_mem_append.mpr ⟨tb16 hts, List.forall_mem_append.mpr ⟨tb17 hts, List.forall_mem_append.mpr ⟨tb18 hts, List.forall_mem_append.mpr ⟨tb19 hts, List.forall_mem_append.mpr ⟨tb20 hts, List.forall_mem_append.mpr ⟨tb21 hts, List.forall_mem_append.mpr ⟨tb22 hts, List.forall_mem_append.mpr ⟨tb23 hts, List.forall_mem_append.mpr ⟨tb24 hts, List.forall_mem_append.mpr ⟨tb25 hts, List.forall_mem_append.mpr ⟨tb26 hts, List.forall_mem_append.mpr ⟨tb27 hts, List.forall_mem_append.mpr ⟨tb28 hts, List.forall_mem_append.mpr ⟨tb29 hts, List.forall_mem_append.mpr ⟨tb30 hts, List.forall_mem_append.mpr ⟨tb31 hts, List.forall_mem_append.mpr ⟨tb32 hts, List.forall_mem_append.mpr ⟨tb33 hts, List.forall_mem_append.mpr ⟨tb34 hts, List.forall_mem_append.mpr ⟨tb35 hts, List.forall_mem_append.mpr ⟨tb36 hts, List.forall_mem_append.mpr ⟨tb37 hts, List.forall_mem_append.mpr ⟨tb38 hts, List.forall_mem_append.mpr ⟨tb39 hts, List.forall_mem_append.mpr ⟨tb40 hts, List.forall_mem_append.mpr ⟨tb41 hts, List.forall_mem_append.mpr ⟨tb42 hts, List.forall_mem_append.mpr ⟨tb43 hts, List.forall_mem_append.mpr ⟨tb44 hts, List.forall_mem_append.mpr ⟨tb45 hts, List.forall_mem_append.mpr ⟨tb46 hts, List.forall_mem_append.mpr ⟨tb47 hts, List.forall_mem_append.mpr ⟨tb48 hts, List.forall_mem_append.mpr ⟨tb49 hts, List.forall_mem_append.mpr ⟨tb50 hts, List.forall_mem_append.mpr ⟨tb51 hts, List.forall_mem_append.mpr ⟨tb52 hts, List.forall_mem_append.mpr ⟨tb53 hts, List.forall_mem_append.mpr ⟨tb54 hts, List.forall_mem_append.mpr ⟨tb55 hts, List.forall_mem_append.mpr ⟨tb56 hts, List.forall_mem_append.mpr ⟨tb57 hts, List.forall_mem_append.mpr ⟨tb58 hts, List.forall_mem_append.mpr ⟨tb59 hts, tb60 hts⟩⟩⟩⟩⟩⟩⟩⟩⟩⟩⟩⟩⟩⟩⟩⟩⟩⟩⟩⟩⟩⟩⟩⟩⟩⟩⟩⟩⟩⟩⟩⟩⟩⟩⟩⟩⟩⟩⟩⟩⟩⟩⟩⟩⟩⟩⟩⟩⟩⟩⟩⟩⟩⟩⟩⟩⟩⟩⟩⟩
theorem st_Ts (hts : ∀ w ∈ lw_tbl, w.before args s = true) : ∀ w ∈ rTs, w.before args s = true := by
  intro w hw
  rcases List.mem_append.mp hw with hw | hw
  · exact st_base hts w hw
  rcases List.mem_append.mp hw with hw | hw
  · exact hts _ (tu0 w hw)
  rcases List.mem_append.mp hw with hw | hw
  · exact hts _ (tu1 w hw)
  rcases List.mem_append.mp hw with hw | hw
  · exact hts _ (tu2 w hw)
  rcases List.mem_append.mp hw with hw | hw
  · exact hts _ (tu3 w hw)
  rcases List.mem_append.mp hw with hw | hw
  · exact hts _ (tu4 w hw)
  rcases List.mem_append.mp hw with hw | hw
  · exact hts _ (tu5 w hw)
  rcases List.mem_append.mp hw with hw | hw
  · exact hts _ (tu6 w hw)
  rcases List.mem_append.mp hw with hw | hw
  · exact hts _ (tu7 w hw)
  rcases List.mem_append.mp hw with hw | hw
  · exact hts _ (tu8 w hw)
  rcases List.mem_append.mp hw with hw | hw
  · exact hts _ (tu9 w hw)
  rcases List.mem_append.mp hw with hw | hw
  · exact hts _ (tu10 w hw)
  rcases List.mem_append.mp hw with hw | hw
  · exact hts _ (tu11 w hw)
  rcases List.mem_append.mp hw with hw | hw
  · exact hts _ (tu12 w hw)
  rcases List.mem_append.mp hw with hw | hw
  · exact hts _ (tu13 w hw)
  rcases List.mem_append.mp hw with hw | hw
  · exact hts _ (tu14 w hw)
  exact hts _ (tu15 w hw)
theorem st_kn (hts : ∀ w ∈ lw_tbl, w.before args s = true) : ∀ q ∈ vwCl, ∃ (cC : ClassId) (iS : Nat → Nat), u_Kn s q.1 q.2.1 q.2.2 cC iS :=
  List.forall_mem_cons.mpr ⟨u_known hts tu0 (hts _ (tI6 (i := 217) rfl)),
  List.forall_mem_cons.mpr ⟨u_known hts tu1 (hts _ (tI6 (i := 60) rfl)),
  List.forall_mem_cons.mpr ⟨u_known hts tu2 (hts _ (tI1 (i := 172) rfl)),
  List.forall_mem_cons.mpr ⟨u_known hts tu3 (hts _ (tI2 (i := 219) rfl)),
  List.forall_mem_cons.mpr ⟨u_known hts tu4 (hts _ (tI3 (i := 25) rfl)),
  List.forall_mem_cons.mpr ⟨u_known hts tu5 (hts _ (tI1 (i := 178) rfl)),
  List.forall_mem_cons.mpr ⟨u_known hts tu6 (hts _ (tI3 (i := 184) rfl)),
  List.forall_mem_cons.mpr ⟨u_known hts tu7 (hts _ (tI4 (i := 25) rfl)),
  List.forall_mem_cons.mpr ⟨u_known hts tu8 (hts _ (tI4 (i := 31) rfl)),
  List.forall_mem_cons.mpr ⟨u_known hts tu9 (hts _ (tI1 (i := 50) rfl)),
  List.forall_mem_cons.mpr ⟨u_known hts tu10 (hts _ (tI2 (i := 78) rfl)),
  List.forall_mem_cons.mpr ⟨u_known hts tu11 (hts _ (tI2 (i := 80) rfl)),
  List.forall_mem_cons.mpr ⟨u_known hts tu12 (hts _ (tI1 (i := 44) rfl)),
  List.forall_mem_cons.mpr ⟨u_known hts tu13 (hts _ (tI1 (i := 35) rfl)),
  List.forall_mem_cons.mpr ⟨u_known hts tu14 (hts _ (tI10 (i := 171) rfl)),
  List.forall_mem_cons.mpr ⟨u_known hts tu15 (hts _ (tI10 (i := 159) rfl)), fun _ h => absurd h List.not_mem_nil⟩⟩⟩⟩⟩⟩⟩⟩⟩⟩⟩⟩⟩⟩⟩⟩
theorem st_ns (hts : ∀ w ∈ lw_tbl, w.before args s = true) : ∀ w ∈ rNs, va_Nw w s ∧ ∀ s1 s2 : State, s1.WarmedH s2.vm → va_Nw w s1 → va_Nw w s2 :=
  List.forall_mem_cons.mpr ⟨⟨hts _ (tI1 (i := 90) rfl), fun _ _ hW h => st_AOAmoved hW.alike h⟩,
  List.forall_mem_cons.mpr ⟨⟨va_AO.of (hts _ (tI11 (i := 35) rfl)), fun _ _ hW h => va_AO.moved hW.alike h⟩,
  List.forall_mem_cons.mpr ⟨⟨hts _ (tI10 (i := 168) rfl), fun _ _ hW h => st_AOAmoved hW.alike h⟩,
  List.forall_mem_cons.mpr ⟨⟨va_Nw.of rfl (hts _ (tI10 (i := 172) rfl)), fun _ _ hW h => va_Nw.warmM hW h⟩,
  List.forall_mem_cons.mpr ⟨⟨va_Nw.of rfl (hts _ (tI10 (i := 179) rfl)), fun _ _ hW h => va_Nw.warmF hW h⟩,
  List.forall_mem_cons.mpr ⟨⟨va_Nw.of rfl (hts _ (tI5 (i := 69) rfl)), fun _ _ hW h => va_Nw.warmD hW h⟩,
  List.forall_mem_cons.mpr ⟨⟨va_Nw.of rfl (hts _ (tI5 (i := 71) rfl)), fun _ _ hW h => va_Nw.warmD hW h⟩,
  List.forall_mem_cons.mpr ⟨⟨va_Nw.of rfl (hts _ (tI5 (i := 73) rfl)), fun _ _ hW h => va_Nw.warmD hW h⟩,
  List.forall_mem_cons.mpr ⟨⟨va_Nw.of rfl (hts _ (tI9 (i := 106) rfl)), fun _ _ hW h => va_Nw.warmC hW h⟩,
  List.forall_mem_cons.mpr ⟨⟨va_Nw.of rfl (hts _ (tI9 (i := 131) rfl)), fun _ _ hW h => va_Nw.warmC hW h⟩,
  List.forall_mem_cons.mpr ⟨⟨va_Nw.of rfl (hts _ (tI5 (i := 67) rfl)), fun _ _ hW h => va_Nw.warmC hW h⟩,
  List.forall_mem_cons.mpr ⟨⟨va_Nw.of rfl (hts _ (tI10 (i := 197) rfl)), fun _ _ hW h => va_Nw.warmF hW h⟩,
  List.forall_mem_cons.mpr ⟨⟨va_Nw.of rfl (hts _ (tI10 (i := 199) rfl)), fun _ _ hW h => va_Nw.warmF hW h⟩,
  List.forall_mem_cons.mpr ⟨⟨va_Nw.of rfl (hts _ (tI10 (i := 177) rfl)), fun _ _ hW h => va_Nw.warmF hW h⟩,
  List.forall_mem_cons.mpr ⟨⟨va_Nw.of rfl (hts _ (tI10 (i := 191) rfl)), fun _ _ hW h => va_Nw.warmF hW h⟩,
  List.forall_mem_cons.mpr ⟨⟨va_Nw.of rfl (hts _ (tI10 (i := 181) rfl)), fun _ _ hW h => va_Nw.warmF hW h⟩,
  List.forall_mem_cons.mpr ⟨⟨va_Nw.of rfl (hts _ (tI10 (i := 183) rfl)), fun _ _ hW h => va_Nw.warmF hW h⟩,
  List.forall_mem_cons.mpr ⟨⟨va_Nw.of rfl (hts _ (tI10 (i := 185) rfl)), fun _ _ hW h => va_Nw.warmF hW h⟩,
  List.forall_mem_cons.mpr ⟨⟨va_Nw.of rfl (hts _ (tI10 (i := 187) rfl)), fun _ _ hW h => va_Nw.warmF hW h⟩,
  List.forall_mem_cons.mpr ⟨⟨va_Nw.of rfl (hts _ (tI10 (i := 189) rfl)), fun _ _ hW h => va_Nw.warmF hW h⟩,
  List.forall_mem_cons.mpr ⟨⟨va_Nw.of rfl (hts _ (tI10 (i := 201) rfl)), fun _ _ hW h => va_Nw.warmF hW h⟩,
  List.forall_mem_cons.mpr ⟨⟨va_Nw.of rfl (hts _ (tI10 (i := 193) rfl)), fun _ _ hW h => va_Nw.warmF hW h⟩,
  List.forall_mem_cons.mpr ⟨⟨va_Nw.of rfl (hts _ (tI10 (i := 195) rfl)), fun _ _ hW h => va_Nw.warmF hW h⟩, fun _ h => absurd h List.not_mem_nil⟩⟩⟩⟩⟩⟩⟩⟩⟩⟩⟩⟩⟩⟩⟩⟩⟩⟩⟩⟩⟩⟩⟩
theorem st_cA (hts : ∀ w ∈ lw_tbl, w.before args s = true) (t : Nat) : ∃ cA : ClassId, ArrOfT s cA (rTy t) ∧ va_RA s cA (rTy t) := by
  match t with
  | 0 =>
    obtain ⟨c, k, comp, h1, h2, h3⟩ := Cond.arrayClass_spec (hts _ (tI1 (i := 88) rfl))
    exact ⟨c, st_arrOf h2 h3, h1⟩
  | 1 =>
    obtain ⟨c, k, comp, h1, h2, h3⟩ := Cond.arrayClass_spec (hts _ (tI1 (i := 170) rfl))
    exact ⟨c, st_arrOf h2 h3, h1⟩
  | 2 =>
    obtain ⟨c, k, comp, h1, h2, h3⟩ := Cond.arrayClass_spec (hts _ (tI1 (i := 87) rfl))
    exact ⟨c, st_arrOf h2 h3, h1⟩
  | 3 =>
    obtain ⟨c, k, comp, h1, h2, h3⟩ := Cond.arrayClass_spec (hts _ (tI2 (i := 217) rfl))
    exact ⟨c, st_arrOf h2 h3, h1⟩
  | 4 =>
    obtain ⟨comp, c, k, h1, h2, h3, h4, h5⟩ := Cond.arrayOver_spec (hts _ (tI11 (i := 35) rfl))
    exact ⟨c, st_arrOf h3 h4, k, comp, h3, h4, h1, h5⟩
  | 5 =>
    obtain ⟨comp, c, k, h1, h2, h3, h4⟩ := Cond.arrayOver_specA (hts _ (tI1 (i := 90) rfl))
    exact ⟨c, st_arrOf h2 h3, h4⟩
  | (_ + 6) =>
    obtain ⟨comp, c, k, h1, h2, h3, h4⟩ := Cond.arrayOver_specA (hts _ (tI10 (i := 168) rfl))
    exact ⟨c, st_arrOf h2 h3, h4⟩
end TBA
