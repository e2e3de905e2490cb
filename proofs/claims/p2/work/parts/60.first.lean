/-! A FIRST METHOD, FROM ITS BYTES TO ITS CONTRACT -/
abbrev cX8_full : ByteArray := prog_10_method_11_code
def yX8_full : MethodName := ⟨RX8, "full", "()Z"⟩
theorem dX8_full_0 : decode cX8_full 0 = .ok (.aload_n 0, 1) := by decide +kernel
theorem dX8_full_1 : decode cX8_full 1 = .ok (.getfield 73, 3) := by decide +kernel
theorem dX8_full_4 : decode cX8_full 4 = .ok (.aload_n 0, 1) := by decide +kernel
theorem dX8_full_5 : decode cX8_full 5 = .ok (.getfield 66, 3) := by decide +kernel
theorem dX8_full_8 : decode cX8_full 8 = .ok (.iadd, 1) := by decide +kernel
theorem dX8_full_9 : decode cX8_full 9 = .ok (.bipush 20, 2) := by decide +kernel
theorem dX8_full_11 : decode cX8_full 11 = .ok (.if_icmp .lt 7, 3) := by decide +kernel
theorem dX8_full_14 : decode cX8_full 14 = .ok (.iconst 1, 1) := by decide +kernel
theorem dX8_full_15 : decode cX8_full 15 = .ok (.goto 4, 3) := by decide +kernel
theorem dX8_full_18 : decode cX8_full 18 = .ok (.iconst 0, 1) := by decide +kernel
theorem dX8_full_19 : decode cX8_full 19 = .ok (.ireturn, 1) := by decide +kernel
/-- blocks 0 (ifs) and 1 (depth) alone -/
def g60 : qG := [(0, 1, 1, 0, [(0, 100)]), (0, 1, 1, 0, [(0, 100)])]
def c60 (z : Int) : qCt := (1, ([(0, (2, ((z, []), (0, []))))], [], ([(0, (0, [(0, 1)])), (1, (0, [(1, 1)]))], []), (2, [(0, (0, 100)), (1, (0, 100))], [], 0, [], [], [], [])),
  [([], [(0, ((1, []), (0, [])))], ([], []), (2, [], [(-20, [(0, 1), (1, 1)])], 0, [], [], [], [])), ([], [(0, ((0, []), (0, [])))], ([], []), (2, [], [(19, [(0, -1), (1, -1)])], 0, [], [], [], []))], [])
def b60 (z : Int) : qCd := [([(3, 0, 2, 0), (24, z, 0, 0), (3, 0, 2, 0), (24, z, 1, 0), (14, 0, 0, 0), (0, 20, 0, 0)], (1, 2, 2, 1, [])), ([(0, 1, 0, 0)], (0, 0, 3, 0, [])), ([(0, 0, 0, 0)], (0, 0, 3, 0, [])), ([], (5, 0, 0, 0, [(0, 0), (1, 0)]))]
def s60 : List Nat := [1, 1, 1, 0, 1, 1, 0, 1, 0, 1]
theorem z60 : zchk g60 [] ruI ruJ (fun _ => none) (b60 7) [] (c60 7) 10 s60 = true := by decide +kernel
theorem w60 : zwid (c60 7).2.1.1 (c60 7).1 0 1 = true := by decide +kernel
theorem tg60 : gTags g60 := fun b x h => by
  match b, h with
  | 0, h => cases h; exact Or.inl rfl
  | 1, h => cases h; exact Or.inl rfl
section KR
variable {L : kLay} {cl : List vw_C} {fo : List rCC} {zs : List (String × String × String × rCV)} {rs : List (String × Nat × String × Nat)} {ns : List Cond} {Ts : List Cond} {G : rGm}
variable {l : Launch} {cc : ByteArray} {nL n : Nat} {own : String} {pc : Nat} {ret : Option FieldType} {fr lo : Nat} {Qf : kQf}
theorem m60 {fs : List (Nat ⊕ Int)} (hx : (3, 8, fs) ∈ L.1) (h1 : fs[15]? = some (.inl 0)) (h2 : fs[2]? = some (.inl 1)) (hin : ∀ w ∈ u_ws RX8 TX8 20, w ∈ Ts) (hc : cl[8]? = some (RX8, TX8, 20)) (w1 : Cond.fieldLink RX8 73 RX8 "ifs" "I" ∈ Ts) (w2 : Cond.fieldLink RX8 66 RX8 "depth" "I" ∈ Ts) :
    kMet g60 L cl fo zs rs ns Ts l yX8_full cX8_full 1 (some .boolean) fr lo (c60 7) :=
  kmet_all (P := [0, 14, 18, 19]) (by decide +kernel) tg60 ruI_RtI ruJ_RtJ (fun _ _ h => by cases h) z60 w60 rfl fun G n Rr =>
    ⟨kB.l (k_aload_n 0 rfl dX8_full_0) (kB.i rfl (k_get 3 15 0 hx h1 hin hc (by decide) w1 rfl dX8_full_1) (kB.l (k_aload_n 0 rfl dX8_full_4) (kB.i rfl (k_get 3 2 1 hx h2 hin hc (by decide) w2 rfl dX8_full_5) (kB.i rfl (k_iadd (0, 0) dX8_full_8) (kB.i rfl (k_bipush (by decide) dX8_full_9) (kB.e (kE_icmp rfl rfl (k_icmp_lt (tgt := 18) (by decide) dX8_full_11)))))))),
     kB.i rfl (k_iconst dX8_full_14) (kB.e (kE_goto rfl (k_goto (tgt := 19) (by decide) dX8_full_15))),
     kB.i rfl (k_iconst dX8_full_18) (kB.e (kE_next rfl)),
     kB.e (k_reti (ty := .boolean) _ rfl (fun z a b => by
       have : z = 0 ∨ z = 1 := by omega
       rcases this with rfl | rfl <;> rfl) dX8_full_19), trivial⟩
end KR
