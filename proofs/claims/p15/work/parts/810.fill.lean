/-! java.util.Arrays.fill(int[], int), by its loop -/
set_option maxRecDepth 100000 in
set_option maxHeartbeats 4000000 in
theorem ok_J7_fill_53178 (l : Launch) : rMet vwCl rFo rZs rRs rNs rTs l yJ7_fill_53178 cJ7_fill_53178 4 (Option.none : Option FieldType) 0 0 ev_J7_fill_53178 := by
  intro G as w n o e0
  obtain ⟨x, as1, rfl, e1⟩ := rP_some e0
  obtain ⟨v, as2, rfl, e2⟩ := rP_some e1
  cases as2 with
  | cons z as2 => cases e2
  | nil =>
  obtain ⟨a, rfl, e3⟩ := rI_some e2
  obtain ⟨r, rfl, e4⟩ := rR_some e3
  obtain ⟨q1, cell, hp, e5⟩ := rO_some e4
  obtain ⟨t, N, d, m9, rfl, e6⟩ := rCA_some e5
  obtain ⟨e7, e8⟩ := rB_yes e6
  have ht : t = 0 := Nat.eq_of_beq_eq_true e7
  subst ht
  have e9 := rWS_some _ _ e8
  cases e9
  refine ⟨Nat.le_refl _, ?_⟩
  refine Met.ofW (cc := cJ7_fill_53178) (maxL := 4) (ret := none) (by decide +kernel) rfl ?_
  intro p e s m args below meth c s₁ B hml hv
  obtain ⟨rfl, hP, hKK⟩ := hv
  have hx := B.exec
  have hb := B.bytes
  have hr := B.returns
  have hlocks := B.notSynchronized
  have hl := lv_entry ([.ref (G.2.2.1 + r / 2), .int (nI a)]) (n := 4) (Nat.le_of_ble_eq_true rfl)
  have hargs : ([.inr (.inr r), .inl a] : List rCV).map (rv G) = [.ref (G.2.2.1 + r / 2), .int (nI a)] := by
    rw [List.map_cons, rv_own G q1]; rfl
  rw [hargs]
  rw [lg_entry_eq]
  generalize (lg_sl ([.ref (G.2.2.1 + r / 2), .int (nI a)]) ++ List.replicate (4 - (lg_sl ([.ref (G.2.2.1 + r / 2), .int (nI a)])).length) Slot.unset).toArray = ls at hl ⊢
  have hl : lv_has ls 4 [(0, .ref (G.2.2.1 + r / 2)), (1, .int (nI a))] := hl
  obtain ⟨b1, b2, b3⟩ := pic_cell hP hp
  have harr := hKK.arr b1
  rw [Nat.sub_self]
  refine lv_iconst (v := nI 0) hx hb dJ7_fill_53178_0 (by decide +kernel) ?_
  refine lv_istore_n (lv' := [(2, .int (nI 0)), (0, .ref (G.2.2.1 + r / 2)), (1, .int (nI a))]) hx hb dJ7_fill_53178_1 rfl hl (by decide) rfl (fun ls hl => ?_)
  refine lv_aload_n hx hb dJ7_fill_53178_2 rfl (lv_at hl 1 rfl) ?_
  refine W.alen (n := nI N) hx hb b3 (harr _ _) (by rw [arrV_size]; rfl) rfl rfl dJ7_fill_53178_3 ?_
  refine lv_istore_n (lv' := [(3, .int (nI N)), (2, .int (nI 0)), (0, .ref (G.2.2.1 + r / 2)), (1, .int (nI a))]) hx hb dJ7_fill_53178_4 rfl hl (by decide) rfl (fun ls hl => ?_)
  have loop : ∀ (k i : Nat) (H : Heap) (locs : List Loc) (ls : Array Slot), i ≤ N → N - i < k → lv_has ls 4 [(3, .int (nI N)), (2, .int (nI i)), (0, .ref (G.2.2.1 + r / 2)), (1, .int (nI a))] → H[G.2.2.1 + r / 2]? = some (arrV (G.2.1 0) N (fun j => if j < i then .int (nI a) else rv G (rL d m9 j))) → H.size = s.heap.size → (∀ q, q ≠ G.2.2.1 + r / 2 → H[q]? = s.heap[q]?) → (∀ x ∈ locs, G.2.2.1 ≤ x.base) →
      W p l e { frames := 0, cells := 0, slots := 0, locals := 0 } s m [.ref (G.2.2.1 + r / 2), .int (nI a)].toArray below meth c H locs 0 0 (MQ below (rQ vwCl rFo rZs rRs rNs G (none, wSet (r / 2) (.inr (0, N, .inl a, [])) w, n, 0)) [.ref (G.2.2.1 + r / 2), .int (nI a)].toArray s 0 0 (fun q => G.2.2.1 ≤ q)) (F0 m 5 ls []) := by
    intro k
    induction k with
    | zero => intro i H locs ls _ h; exact absurd h (Nat.not_lt_zero _)
    | succ k ih =>
      intro i H locs ls hi hk hl hc hz ho hL
      refine lv_iload_n hx hb dJ7_fill_53178_5 rfl (lv_at hl 1 rfl) ?_
      refine lv_iload_n hx hb dJ7_fill_53178_6 rfl (lv_at hl 0 rfl) ?_
      refine lv_icmp_ge (tgt := 20) hx hb dJ7_fill_53178_7 (by decide) (fun c_1 => ?_) (fun c_1 => ?_)
      · have hNi : i = N := by
          rcases Nat.lt_or_ge i N with q | q
          · exact absurd c_1 (nI_ge q (by omega))
          · omega
        subst hNi
        refine W.vret hx hb hr (fun t ht hW => ⟨rfl, ?_, hKK.warm hW⟩) hL dJ7_fill_53178_20 hlocks
        rw [ht]
        refine pic_set hP hp rfl ⟨b1, b2, ?_⟩ hz ho
        rw [hc]
        refine congrArg some (arrV_ext fun j hj => ?_)
        rw [if_pos hj, rL_eq]
        rfl
      · have hlt : i < N := by
          rcases Nat.lt_or_ge i N with q | q
          · exact q
          · exact absurd (nI_le q (by omega)) c_1
        refine lv_aload_n hx hb dJ7_fill_53178_10 rfl (lv_at hl 2 rfl) ?_
        refine lv_iload_n hx hb dJ7_fill_53178_11 rfl (lv_at hl 1 rfl) ?_
        refine lv_iload_n hx hb dJ7_fill_53178_12 rfl (lv_at hl 3 rfl) ?_
        refine W.iast hx hb hc (harr _ _) (fun q => by cases q) (ix_in hlt b2 (by rw [arrV_size]; exact Nat.le_refl _)) rfl rfl dJ7_fill_53178_13 (fun H1 e1 z1 o1 => ?_)
        refine lv_iinc (k := 1) (v := nI (i + 1)) (lv' := [(2, .int (nI (i + 1))), (3, .int (nI N)), (0, .ref (G.2.2.1 + r / 2)), (1, .int (nI a))]) hx hb dJ7_fill_53178_14 hl rfl (nI_1 i) (by decide) rfl (fun ls hl => ?_)
        refine lv_goto (tgt := 5) hx hb dJ7_fill_53178_17 (show ((17 : Nat) : Int) + -12 = ((5 : Nat) : Int) by decide) ?_
        refine ih (i + 1) H1 _ ls hlt (by omega) (lv_sub hl [1, 0, 2, 3] rfl) ?_ (z1.trans hz) (fun q hq => (o1 q hq).trans (ho q hq)) (locs_put hL)
        rw [e1, arrV_store, nI_clamp (by omega)]
        refine congrArg some (arrV_ext fun j hj => ?_)
        unfold updV
        by_cases q : j = i
        · rw [if_pos q, if_pos (by omega)]
        · rw [if_neg q]
          show (if j < i then Value.int (nI a) else rv G (rL d m9 j)) = (if j < i + 1 then Value.int (nI a) else rv G (rL d m9 j))
          by_cases q2 : j < i
          · rw [if_pos q2, if_pos (by omega)]
          · rw [if_neg q2, if_neg (by omega)]
  exact loop (N + 1) 0 s.heap [] ls (Nat.zero_le _) (by omega) hl (by rw [b3]; exact congrArg some (arrV_ext fun j hj => by rw [if_neg (Nat.not_lt_zero j)])) rfl (fun _ _ => rfl) (fun x hx => by cases hx)
