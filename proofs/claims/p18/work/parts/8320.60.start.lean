/-! THE START OF THE LAW -/
theorem st_traces {l : Launch} (hflags : l.flags = flags0) : l.stackTraces = false := by
  unfold Launch.stackTraces
  rw [hflags]
  decide +kernel
theorem whole_start {p : Program} {e : Env} {s : State} {m : MethodId} {below : List Frame} {meth : Method} {c : Code} (l : Launch) (hflags : l.flags = flags0) {b L : Nat} {xs : Nat → Int32} (hL : L ≤ 288) (C0 : lw_At p s m meth c b L xs) : W p l e room_1 s m #[Value.ref b] below meth c s.heap [] 0 0 (lw_Z below #[Value.ref b] s) (entryFrame m ([Value.ref b] : List Value).toArray 8) := by
  obtain ⟨hx, hcb, hret, hml, hown, hts, hX, hbl, hlocks, hgv⟩ := C0
  have hN := st_N hgv
  have hl := st_traces hflags
  obtain ⟨G, hG1, hG2, hb, hKK⟩ := st_KK hts hN (b := b) rfl
  have hNc : va_Nc "java/lang/IllegalStateException" "java/lang/IllegalArgumentException" s := va_Nc.of (hN 3 _ (List.mem_of_getElem? (i := 294) (by decide +kernel)))
  have X : rCx vwCl rFo rZs rRs rNs rTs G p room_1 s m #[Value.ref b] meth c code 8 "NativeWorksLaw" ret false 2048 84000 := ⟨hx, hcb, hml, hown, st_Ts hts, hKK, hlocks, ⟨by omega, fun q _ => by rw [hG2], fun h => absurd rfl h⟩, hret, (fun h => by cases h), rfl, rfl⟩
  have hP : rPic vwCl G [] 0 s.heap := ⟨by omega, fun q _ => by rw [hG2], fun i x h => by cases h⟩
  have hlv : lv_has ((lg_sl [Value.ref b] ++ List.replicate (8 - (lg_sl [Value.ref b]).length) Slot.unset).toArray) 8 ([((0 : Nat), (Sum.inr (.inr 60002) : rCV))].map (rLv G)) := by
    have h := lv_entry [Value.ref b] (n := 8) (by show (1 : Nat) ≤ 8; decide)
    have e : ([((0 : Nat), (Sum.inr (.inr 60002) : rCV))].map (rLv G)) = lv_args 0 [Value.ref b] := by
      show [(0, rv G (.inr (.inr 60002)))] = _
      rw [rv_ext G (by decide) (by decide), show 60002 / 2 - 1 = 30000 by decide, hb]
      rfl
    rw [e]
    exact h
  have K := lv_all (xs := xs) hl hb hL p e room_1 s m #[Value.ref b] below meth c X (by show _ ≤ 76454; exact Nat.sub_le _ _) (by show 8872312 ≤ 8872312; exact Nat.le_refl _) (Nat.zero_le _) _ s.heap [] hlv hP (fun x h => absurd h List.not_mem_nil)
  rw [lg_entry_eq]
  exact W.imp (fun t h => h ⟨rfl, hX, by omega, by omega, hNc⟩) K
