/-! WHAT IS KEPT OF THE UNITS THAT ARE DONE: definition and rules, over plain functions (nothing of the kit in it; written by wip/p2/gen20a7.py). K kinds, E sections, Z sizes, O offsets, D data of items; W items, A where, B how wide, P, M what for, of waits; L labels' items; I, J first items and waits of units; S sizes of sections -/
def eCmt (K E Z O D W A B P M L I J S : Int → Int) (g h q u : Int) : Prop :=
  (∀ i : Int, 0 ≤ i → i < g → K i = 4 → Z i = 2 → 0 ≤ D i ∧ D i < h ∧ eOk L (P (D i))) ∧
  (∀ w : Int, 0 ≤ w → w < h → 0 ≤ W w ∧ W w < g ∧ (B w = 1 ∨ (0 ≤ A w ∧ 0 ≤ B w ∧ A w + B w ≤ Z (W w)))) ∧
  (∀ w : Int, 0 ≤ w → w < h → M w = -1 ∨ P w = -1 ∨ (eOk L (P w) ∧ eOk L (M w))) ∧
  (∀ w : Int, 0 ≤ w → w < h → (P w < q ∨ 1048576 ≤ P w) ∧ (M w < q ∨ 1048576 ≤ M w)) ∧
  (0 ≤ g ∧ 0 ≤ h ∧ (1 ≤ u → I 0 = 0 ∧ J 0 = 0 ∧ I u = g ∧ J u = h) ∧ (u ≤ 0 → g ≤ 0 ∧ h ≤ 0)) ∧
  (∀ v x : Int, 0 ≤ v → v ≤ x → x ≤ u → I v ≤ I x ∧ J v ≤ J x) ∧
  (∀ v i : Int, 0 ≤ v → v < u → I v ≤ i → i < I (v + 1) → 0 ≤ E i ∧ E i ≤ 3 ∧ 0 ≤ O i ∧ 0 ≤ Z i ∧ O i + Z i ≤ S (4*v + E i) ∧ (K i = 3 ∨ K i = 4 → 1 ≤ Z i)) ∧
  (∀ v i j : Int, 0 ≤ v → v < u → I v ≤ i → i < j → j < I (v + 1) → E i = E j → O i + Z i ≤ O j) ∧
  (∀ v w : Int, 0 ≤ v → v < u → J v ≤ w → w < J (v + 1) → I v ≤ W w ∧ W w < I (v + 1)) ∧
  ∀ j : Int, 0 ≤ j → j < 4*u → 0 ≤ S j ∧ S j ≤ 65536
theorem eCmt_0 {K E Z O D W A B P M L I J S : Int → Int} {g h q u : Int} (a : g = 0) (b : h = 0) (c : u ≤ 0) : eCmt K E Z O D W A B P M L I J S g h q u := by
  subst a; subst b
  exact ⟨fun i x y => by omega, fun i x y => by omega, fun i x y => by omega, fun i x y => by omega, ⟨by omega, by omega, fun k => by omega, fun _ => ⟨by omega, by omega⟩⟩, fun v x y z w => by rw [show v = x by omega]; exact ⟨Int.le_refl _, Int.le_refl _⟩, fun v i x y => by omega, fun v i j x y => by omega, fun v w x y => by omega, fun j x y => by omega⟩
theorem eCmt_cg {K E Z O D W A B P M L I J S K' E' Z' O' D' W' A' B' P' M' L' I' J' S' : Int → Int} {g h q u : Int} (hK : ∀ x : Int, 0 ≤ x → x < g → K' x = K x) (hE : ∀ x : Int, 0 ≤ x → x < g → E' x = E x) (hZ : ∀ x : Int, 0 ≤ x → x < g → Z' x = Z x) (hO : ∀ x : Int, 0 ≤ x → x < g → O' x = O x) (hD : ∀ x : Int, 0 ≤ x → x < g → D' x = D x) (hW : ∀ x : Int, 0 ≤ x → x < h → W' x = W x) (hA : ∀ x : Int, 0 ≤ x → x < h → A' x = A x) (hB : ∀ x : Int, 0 ≤ x → x < h → B' x = B x) (hP : ∀ x : Int, 0 ≤ x → x < h → P' x = P x) (hM : ∀ x : Int, 0 ≤ x → x < h → M' x = M x) (hL : ∀ x : Int, 0 ≤ x → x < q → 0 ≤ L x → 0 ≤ L' x) (hI : ∀ x : Int, 0 ≤ x → x ≤ u → I' x = I x) (hJ : ∀ x : Int, 0 ≤ x → x ≤ u → J' x = J x) (hS : ∀ x : Int, 0 ≤ x → x < 4*u → S' x = S x) (c : eCmt K E Z O D W A B P M L I J S g h q u) : eCmt K' E' Z' O' D' W' A' B' P' M' L' I' J' S' g h q u := by
  obtain ⟨c1, c2, c3, c4, c5, c6, c7, c8, c9, c10⟩ := c
  have ok : ∀ p : Int, (p < q ∨ 1048576 ≤ p) → eOk L p → eOk L' p := fun p a b => by
    rcases b with b | b
    · exact Or.inl b
    · exact Or.inr ⟨b.1, b.2.1, hL p b.1 (by omega) b.2.2⟩
  have iv : ∀ v : Int, 0 ≤ v → v < u → 0 ≤ I v ∧ I (v + 1) ≤ g ∧ 0 ≤ J v ∧ J (v + 1) ≤ h := fun v a b => by
    obtain ⟨p, r, t, w⟩ := c5.2.2.1 (by omega)
    have x := c6 0 v (by omega) a (by omega)
    have y := c6 (v + 1) u (by omega) (by omega) (by omega)
    omega
  refine ⟨fun i a b k z => ?_, fun w a b => ?_, fun w a b => ?_, fun w a b => ?_, ?_, fun v x a b d => ?_, fun v i a b d e => ?_, fun v i j a b d e f k => ?_, fun v w a b d e => ?_, fun j a b => ?_⟩
  · rw [hK i a b] at k; rw [hZ i a b] at z
    obtain ⟨x, y, w⟩ := c1 i a b k z
    rw [hD i a b, hP _ x y]
    exact ⟨x, y, ok _ (c4 _ x y).1 w⟩
  · obtain ⟨x, y, z⟩ := c2 w a b
    rw [hW w a b, hA w a b, hB w a b, hZ _ x y]; exact ⟨x, y, z⟩
  · rw [hM w a b, hP w a b]
    rcases c3 w a b with x | x | x
    · exact Or.inl x
    · exact Or.inr (Or.inl x)
    · exact Or.inr (Or.inr ⟨ok _ (c4 w a b).1 x.1, ok _ (c4 w a b).2 x.2⟩)
  · rw [hM w a b, hP w a b]; exact c4 w a b
  · refine ⟨c5.1, c5.2.1, fun a => ?_, c5.2.2.2⟩
    rw [hI 0 (by omega) (by omega), hJ 0 (by omega) (by omega), hI u (by omega) (by omega), hJ u (by omega) (by omega)]
    exact c5.2.2.1 a
  · rw [hI v a (by omega), hI x (by omega) d, hJ v a (by omega), hJ x (by omega) d]; exact c6 v x a b d
  · rw [hI v a (by omega)] at d; rw [hI (v + 1) (by omega) (by omega)] at e
    have y := iv v a b
    have z := c7 v i a b d e
    rw [hE i (by omega) (by omega), hO i (by omega) (by omega), hZ i (by omega) (by omega), hK i (by omega) (by omega), hS _ (by omega) (by omega)]; exact z
  · rw [hI v a (by omega)] at d; rw [hI (v + 1) (by omega) (by omega)] at f
    have y := iv v a b
    rw [hE i (by omega) (by omega), hE j (by omega) (by omega)] at k
    rw [hO i (by omega) (by omega), hZ i (by omega) (by omega), hO j (by omega) (by omega)]; exact c8 v i j a b d e f k
  · rw [hJ v a (by omega)] at d; rw [hJ (v + 1) (by omega) (by omega)] at e
    have y := iv v a b
    rw [hI v a (by omega), hI (v + 1) (by omega) (by omega), hW w (by omega) (by omega)]; exact c9 v w a b d e
  · rw [hS j a b]; exact c10 j a b
theorem L_cm0 {F0 F1 F2 F3 F4 F5 F6 F7 F8 F9 F10 F11 F12 F13 F14 : Int → Int} {N0 N1 N2 N3 N4 N5 : Int} (H0 : ∀ x : Int, F14 x = if x = N4 then N5 else F0 x) (H1 : eCmt F0 F1 F2 F3 F4 F5 F6 F7 F8 F9 F10 F11 F12 F13 N0 N1 N2 N3) (H2 : N0 ≤ N4) : eCmt F14 F1 F2 F3 F4 F5 F6 F7 F8 F9 F10 F11 F12 F13 N0 N1 N2 N3 :=
  eCmt_cg (fun x _ b => by rw [H0, if_neg (by omega)]) (fun _ _ _ => rfl) (fun _ _ _ => rfl) (fun _ _ _ => rfl) (fun _ _ _ => rfl) (fun _ _ _ => rfl) (fun _ _ _ => rfl) (fun _ _ _ => rfl) (fun _ _ _ => rfl) (fun _ _ _ => rfl) (fun _ _ _ z => z) (fun _ _ _ => rfl) (fun _ _ _ => rfl) (fun _ _ _ => rfl) H1
theorem L_cm1 {F0 F1 F2 F3 F4 F5 F6 F7 F8 F9 F10 F11 F12 F13 F14 : Int → Int} {N0 N1 N2 N3 N4 N5 : Int} (H0 : ∀ x : Int, F14 x = if x = N4 then N5 else F1 x) (H1 : eCmt F0 F1 F2 F3 F4 F5 F6 F7 F8 F9 F10 F11 F12 F13 N0 N1 N2 N3) (H2 : N0 ≤ N4) : eCmt F0 F14 F2 F3 F4 F5 F6 F7 F8 F9 F10 F11 F12 F13 N0 N1 N2 N3 :=
  eCmt_cg (fun _ _ _ => rfl) (fun x _ b => by rw [H0, if_neg (by omega)]) (fun _ _ _ => rfl) (fun _ _ _ => rfl) (fun _ _ _ => rfl) (fun _ _ _ => rfl) (fun _ _ _ => rfl) (fun _ _ _ => rfl) (fun _ _ _ => rfl) (fun _ _ _ => rfl) (fun _ _ _ z => z) (fun _ _ _ => rfl) (fun _ _ _ => rfl) (fun _ _ _ => rfl) H1
theorem L_cm2 {F0 F1 F2 F3 F4 F5 F6 F7 F8 F9 F10 F11 F12 F13 F14 : Int → Int} {N0 N1 N2 N3 N4 N5 : Int} (H0 : ∀ x : Int, F14 x = if x = N4 then N5 else F2 x) (H1 : eCmt F0 F1 F2 F3 F4 F5 F6 F7 F8 F9 F10 F11 F12 F13 N0 N1 N2 N3) (H2 : N0 ≤ N4) : eCmt F0 F1 F14 F3 F4 F5 F6 F7 F8 F9 F10 F11 F12 F13 N0 N1 N2 N3 :=
  eCmt_cg (fun _ _ _ => rfl) (fun _ _ _ => rfl) (fun x _ b => by rw [H0, if_neg (by omega)]) (fun _ _ _ => rfl) (fun _ _ _ => rfl) (fun _ _ _ => rfl) (fun _ _ _ => rfl) (fun _ _ _ => rfl) (fun _ _ _ => rfl) (fun _ _ _ => rfl) (fun _ _ _ z => z) (fun _ _ _ => rfl) (fun _ _ _ => rfl) (fun _ _ _ => rfl) H1
theorem L_cm3 {F0 F1 F2 F3 F4 F5 F6 F7 F8 F9 F10 F11 F12 F13 F14 : Int → Int} {N0 N1 N2 N3 N4 N5 : Int} (H0 : ∀ x : Int, F14 x = if x = N4 then N5 else F3 x) (H1 : eCmt F0 F1 F2 F3 F4 F5 F6 F7 F8 F9 F10 F11 F12 F13 N0 N1 N2 N3) (H2 : N0 ≤ N4) : eCmt F0 F1 F2 F14 F4 F5 F6 F7 F8 F9 F10 F11 F12 F13 N0 N1 N2 N3 :=
  eCmt_cg (fun _ _ _ => rfl) (fun _ _ _ => rfl) (fun _ _ _ => rfl) (fun x _ b => by rw [H0, if_neg (by omega)]) (fun _ _ _ => rfl) (fun _ _ _ => rfl) (fun _ _ _ => rfl) (fun _ _ _ => rfl) (fun _ _ _ => rfl) (fun _ _ _ => rfl) (fun _ _ _ z => z) (fun _ _ _ => rfl) (fun _ _ _ => rfl) (fun _ _ _ => rfl) H1
theorem L_cm4 {F0 F1 F2 F3 F4 F5 F6 F7 F8 F9 F10 F11 F12 F13 F14 : Int → Int} {N0 N1 N2 N3 N4 N5 : Int} (H0 : ∀ x : Int, F14 x = if x = N4 then N5 else F4 x) (H1 : eCmt F0 F1 F2 F3 F4 F5 F6 F7 F8 F9 F10 F11 F12 F13 N0 N1 N2 N3) (H2 : N0 ≤ N4) : eCmt F0 F1 F2 F3 F14 F5 F6 F7 F8 F9 F10 F11 F12 F13 N0 N1 N2 N3 :=
  eCmt_cg (fun _ _ _ => rfl) (fun _ _ _ => rfl) (fun _ _ _ => rfl) (fun _ _ _ => rfl) (fun x _ b => by rw [H0, if_neg (by omega)]) (fun _ _ _ => rfl) (fun _ _ _ => rfl) (fun _ _ _ => rfl) (fun _ _ _ => rfl) (fun _ _ _ => rfl) (fun _ _ _ z => z) (fun _ _ _ => rfl) (fun _ _ _ => rfl) (fun _ _ _ => rfl) H1
theorem L_cm5 {F0 F1 F2 F3 F4 F5 F6 F7 F8 F9 F10 F11 F12 F13 F14 : Int → Int} {N0 N1 N2 N3 N4 N5 : Int} (H0 : ∀ x : Int, F14 x = if x = N4 then N5 else F5 x) (H1 : eCmt F0 F1 F2 F3 F4 F5 F6 F7 F8 F9 F10 F11 F12 F13 N0 N1 N2 N3) (H2 : N1 ≤ N4) : eCmt F0 F1 F2 F3 F4 F14 F6 F7 F8 F9 F10 F11 F12 F13 N0 N1 N2 N3 :=
  eCmt_cg (fun _ _ _ => rfl) (fun _ _ _ => rfl) (fun _ _ _ => rfl) (fun _ _ _ => rfl) (fun _ _ _ => rfl) (fun x _ b => by rw [H0, if_neg (by omega)]) (fun _ _ _ => rfl) (fun _ _ _ => rfl) (fun _ _ _ => rfl) (fun _ _ _ => rfl) (fun _ _ _ z => z) (fun _ _ _ => rfl) (fun _ _ _ => rfl) (fun _ _ _ => rfl) H1
theorem L_cm6 {F0 F1 F2 F3 F4 F5 F6 F7 F8 F9 F10 F11 F12 F13 F14 : Int → Int} {N0 N1 N2 N3 N4 N5 : Int} (H0 : ∀ x : Int, F14 x = if x = N4 then N5 else F6 x) (H1 : eCmt F0 F1 F2 F3 F4 F5 F6 F7 F8 F9 F10 F11 F12 F13 N0 N1 N2 N3) (H2 : N1 ≤ N4) : eCmt F0 F1 F2 F3 F4 F5 F14 F7 F8 F9 F10 F11 F12 F13 N0 N1 N2 N3 :=
  eCmt_cg (fun _ _ _ => rfl) (fun _ _ _ => rfl) (fun _ _ _ => rfl) (fun _ _ _ => rfl) (fun _ _ _ => rfl) (fun _ _ _ => rfl) (fun x _ b => by rw [H0, if_neg (by omega)]) (fun _ _ _ => rfl) (fun _ _ _ => rfl) (fun _ _ _ => rfl) (fun _ _ _ z => z) (fun _ _ _ => rfl) (fun _ _ _ => rfl) (fun _ _ _ => rfl) H1
theorem L_cm7 {F0 F1 F2 F3 F4 F5 F6 F7 F8 F9 F10 F11 F12 F13 F14 : Int → Int} {N0 N1 N2 N3 N4 N5 : Int} (H0 : ∀ x : Int, F14 x = if x = N4 then N5 else F7 x) (H1 : eCmt F0 F1 F2 F3 F4 F5 F6 F7 F8 F9 F10 F11 F12 F13 N0 N1 N2 N3) (H2 : N1 ≤ N4) : eCmt F0 F1 F2 F3 F4 F5 F6 F14 F8 F9 F10 F11 F12 F13 N0 N1 N2 N3 :=
  eCmt_cg (fun _ _ _ => rfl) (fun _ _ _ => rfl) (fun _ _ _ => rfl) (fun _ _ _ => rfl) (fun _ _ _ => rfl) (fun _ _ _ => rfl) (fun _ _ _ => rfl) (fun x _ b => by rw [H0, if_neg (by omega)]) (fun _ _ _ => rfl) (fun _ _ _ => rfl) (fun _ _ _ z => z) (fun _ _ _ => rfl) (fun _ _ _ => rfl) (fun _ _ _ => rfl) H1
theorem L_cm8 {F0 F1 F2 F3 F4 F5 F6 F7 F8 F9 F10 F11 F12 F13 F14 : Int → Int} {N0 N1 N2 N3 N4 N5 : Int} (H0 : ∀ x : Int, F14 x = if x = N4 then N5 else F8 x) (H1 : eCmt F0 F1 F2 F3 F4 F5 F6 F7 F8 F9 F10 F11 F12 F13 N0 N1 N2 N3) (H2 : N1 ≤ N4) : eCmt F0 F1 F2 F3 F4 F5 F6 F7 F14 F9 F10 F11 F12 F13 N0 N1 N2 N3 :=
  eCmt_cg (fun _ _ _ => rfl) (fun _ _ _ => rfl) (fun _ _ _ => rfl) (fun _ _ _ => rfl) (fun _ _ _ => rfl) (fun _ _ _ => rfl) (fun _ _ _ => rfl) (fun _ _ _ => rfl) (fun x _ b => by rw [H0, if_neg (by omega)]) (fun _ _ _ => rfl) (fun _ _ _ z => z) (fun _ _ _ => rfl) (fun _ _ _ => rfl) (fun _ _ _ => rfl) H1
theorem L_cm9 {F0 F1 F2 F3 F4 F5 F6 F7 F8 F9 F10 F11 F12 F13 F14 : Int → Int} {N0 N1 N2 N3 N4 N5 : Int} (H0 : ∀ x : Int, F14 x = if x = N4 then N5 else F9 x) (H1 : eCmt F0 F1 F2 F3 F4 F5 F6 F7 F8 F9 F10 F11 F12 F13 N0 N1 N2 N3) (H2 : N1 ≤ N4) : eCmt F0 F1 F2 F3 F4 F5 F6 F7 F8 F14 F10 F11 F12 F13 N0 N1 N2 N3 :=
  eCmt_cg (fun _ _ _ => rfl) (fun _ _ _ => rfl) (fun _ _ _ => rfl) (fun _ _ _ => rfl) (fun _ _ _ => rfl) (fun _ _ _ => rfl) (fun _ _ _ => rfl) (fun _ _ _ => rfl) (fun _ _ _ => rfl) (fun x _ b => by rw [H0, if_neg (by omega)]) (fun _ _ _ z => z) (fun _ _ _ => rfl) (fun _ _ _ => rfl) (fun _ _ _ => rfl) H1
theorem L_cmLa {F0 F1 F2 F3 F4 F5 F6 F7 F8 F9 F10 F11 F12 F13 F14 : Int → Int} {N0 N1 N2 N3 N4 N5 : Int} (H0 : ∀ x : Int, F14 x = if x = N4 then N5 else F10 x) (H1 : eCmt F0 F1 F2 F3 F4 F5 F6 F7 F8 F9 F10 F11 F12 F13 N0 N1 N2 N3) (H2 : 0 ≤ N5) : eCmt F0 F1 F2 F3 F4 F5 F6 F7 F8 F9 F14 F11 F12 F13 N0 N1 N2 N3 :=
  eCmt_cg (fun _ _ _ => rfl) (fun _ _ _ => rfl) (fun _ _ _ => rfl) (fun _ _ _ => rfl) (fun _ _ _ => rfl) (fun _ _ _ => rfl) (fun _ _ _ => rfl) (fun _ _ _ => rfl) (fun _ _ _ => rfl) (fun _ _ _ => rfl) (fun x _ _ z => by rw [H0]; split; exact H2; exact z) (fun _ _ _ => rfl) (fun _ _ _ => rfl) (fun _ _ _ => rfl) H1
theorem L_cmLb {F0 F1 F2 F3 F4 F5 F6 F7 F8 F9 F10 F11 F12 F13 F14 : Int → Int} {N0 N1 N2 N3 N4 N5 : Int} (H0 : ∀ x : Int, F14 x = if x = N4 then N5 else F10 x) (H1 : eCmt F0 F1 F2 F3 F4 F5 F6 F7 F8 F9 F10 F11 F12 F13 N0 N1 N2 N3) (H2 : N2 ≤ N4) : eCmt F0 F1 F2 F3 F4 F5 F6 F7 F8 F9 F14 F11 F12 F13 N0 N1 N2 N3 :=
  eCmt_cg (fun _ _ _ => rfl) (fun _ _ _ => rfl) (fun _ _ _ => rfl) (fun _ _ _ => rfl) (fun _ _ _ => rfl) (fun _ _ _ => rfl) (fun _ _ _ => rfl) (fun _ _ _ => rfl) (fun _ _ _ => rfl) (fun _ _ _ => rfl) (fun x _ b z => by rw [H0, if_neg (by omega)]; exact z) (fun _ _ _ => rfl) (fun _ _ _ => rfl) (fun _ _ _ => rfl) H1
theorem L_cmF11a {F0 F1 F2 F3 F4 F5 F6 F7 F8 F9 F10 F11 F12 F13 F14 : Int → Int} {N0 N1 N2 N3 N4 N5 : Int} (H0 : ∀ x : Int, F14 x = if x = N4 then N5 else F11 x) (H1 : eCmt F0 F1 F2 F3 F4 F5 F6 F7 F8 F9 F10 F11 F12 F13 N0 N1 N2 N3) (H2 : N3 < N4) : eCmt F0 F1 F2 F3 F4 F5 F6 F7 F8 F9 F10 F14 F12 F13 N0 N1 N2 N3 :=
  eCmt_cg (fun _ _ _ => rfl) (fun _ _ _ => rfl) (fun _ _ _ => rfl) (fun _ _ _ => rfl) (fun _ _ _ => rfl) (fun _ _ _ => rfl) (fun _ _ _ => rfl) (fun _ _ _ => rfl) (fun _ _ _ => rfl) (fun _ _ _ => rfl) (fun _ _ _ z => z) (fun x _ b => by rw [H0, if_neg (by omega)]) (fun _ _ _ => rfl) (fun _ _ _ => rfl) H1
theorem L_cmF11b {F0 F1 F2 F3 F4 F5 F6 F7 F8 F9 F10 F11 F12 F13 F14 : Int → Int} {N0 N1 N2 N3 N4 N5 : Int} (H0 : ∀ x : Int, F14 x = if x = N4 then N5 else F11 x) (H1 : eCmt F0 F1 F2 F3 F4 F5 F6 F7 F8 F9 F10 F11 F12 F13 N0 N1 N2 N3) (H2 : N4 = N3) (H3 : N5 = N0) : eCmt F0 F1 F2 F3 F4 F5 F6 F7 F8 F9 F10 F14 F12 F13 N0 N1 N2 N3 := by
  by_cases c : N3 ≤ 0
  · have d := H1.2.2.2.2.1
    have e := d.2.2.2 c
    exact eCmt_0 (by omega) (by omega) c
  · exact eCmt_cg (fun _ _ _ => rfl) (fun _ _ _ => rfl) (fun _ _ _ => rfl) (fun _ _ _ => rfl) (fun _ _ _ => rfl) (fun _ _ _ => rfl) (fun _ _ _ => rfl) (fun _ _ _ => rfl) (fun _ _ _ => rfl) (fun _ _ _ => rfl) (fun _ _ _ z => z) (fun x _ _ => if z : x = N4 then ((H0 x).trans (if_pos z)).trans (H3.trans ((H1.2.2.2.2.1.2.2.1 (by omega)).2.2.1.symm.trans (by rw [z, H2]))) else (H0 x).trans (if_neg z)) (fun _ _ _ => rfl) (fun _ _ _ => rfl) H1
theorem L_cmF12a {F0 F1 F2 F3 F4 F5 F6 F7 F8 F9 F10 F11 F12 F13 F14 : Int → Int} {N0 N1 N2 N3 N4 N5 : Int} (H0 : ∀ x : Int, F14 x = if x = N4 then N5 else F12 x) (H1 : eCmt F0 F1 F2 F3 F4 F5 F6 F7 F8 F9 F10 F11 F12 F13 N0 N1 N2 N3) (H2 : N3 < N4) : eCmt F0 F1 F2 F3 F4 F5 F6 F7 F8 F9 F10 F11 F14 F13 N0 N1 N2 N3 :=
  eCmt_cg (fun _ _ _ => rfl) (fun _ _ _ => rfl) (fun _ _ _ => rfl) (fun _ _ _ => rfl) (fun _ _ _ => rfl) (fun _ _ _ => rfl) (fun _ _ _ => rfl) (fun _ _ _ => rfl) (fun _ _ _ => rfl) (fun _ _ _ => rfl) (fun _ _ _ z => z) (fun _ _ _ => rfl) (fun x _ b => by rw [H0, if_neg (by omega)]) (fun _ _ _ => rfl) H1
theorem L_cmF12b {F0 F1 F2 F3 F4 F5 F6 F7 F8 F9 F10 F11 F12 F13 F14 : Int → Int} {N0 N1 N2 N3 N4 N5 : Int} (H0 : ∀ x : Int, F14 x = if x = N4 then N5 else F12 x) (H1 : eCmt F0 F1 F2 F3 F4 F5 F6 F7 F8 F9 F10 F11 F12 F13 N0 N1 N2 N3) (H2 : N4 = N3) (H3 : N5 = N1) : eCmt F0 F1 F2 F3 F4 F5 F6 F7 F8 F9 F10 F11 F14 F13 N0 N1 N2 N3 := by
  by_cases c : N3 ≤ 0
  · have d := H1.2.2.2.2.1
    have e := d.2.2.2 c
    exact eCmt_0 (by omega) (by omega) c
  · exact eCmt_cg (fun _ _ _ => rfl) (fun _ _ _ => rfl) (fun _ _ _ => rfl) (fun _ _ _ => rfl) (fun _ _ _ => rfl) (fun _ _ _ => rfl) (fun _ _ _ => rfl) (fun _ _ _ => rfl) (fun _ _ _ => rfl) (fun _ _ _ => rfl) (fun _ _ _ z => z) (fun _ _ _ => rfl) (fun x _ _ => if z : x = N4 then ((H0 x).trans (if_pos z)).trans (H3.trans ((H1.2.2.2.2.1.2.2.1 (by omega)).2.2.2.symm.trans (by rw [z, H2]))) else (H0 x).trans (if_neg z)) (fun _ _ _ => rfl) H1
theorem L_cmS {F0 F1 F2 F3 F4 F5 F6 F7 F8 F9 F10 F11 F12 F13 F14 : Int → Int} {N0 N1 N2 N3 N4 N5 : Int} (H0 : ∀ x : Int, F14 x = if x = N4 then N5 else F13 x) (H1 : eCmt F0 F1 F2 F3 F4 F5 F6 F7 F8 F9 F10 F11 F12 F13 N0 N1 N2 N3) (H2 : 4*N3 ≤ N4) : eCmt F0 F1 F2 F3 F4 F5 F6 F7 F8 F9 F10 F11 F12 F14 N0 N1 N2 N3 :=
  eCmt_cg (fun _ _ _ => rfl) (fun _ _ _ => rfl) (fun _ _ _ => rfl) (fun _ _ _ => rfl) (fun _ _ _ => rfl) (fun _ _ _ => rfl) (fun _ _ _ => rfl) (fun _ _ _ => rfl) (fun _ _ _ => rfl) (fun _ _ _ => rfl) (fun _ _ _ z => z) (fun _ _ _ => rfl) (fun _ _ _ => rfl) (fun x _ b => by rw [H0, if_neg (by omega)]) H1
theorem L_cm00 {F0 F1 F2 F3 F4 F5 F6 F7 F8 F9 F10 F11 F12 F13 : Int → Int} {N0 N1 N2 N3 : Int} (H0 : N0 = 0) (H1 : N1 = 0) (H2 : N3 = 0) : eCmt F0 F1 F2 F3 F4 F5 F6 F7 F8 F9 F10 F11 F12 F13 N0 N1 N2 N3 := eCmt_0 H0 H1 (by omega)
theorem L_cuA {F0 F1 F2 F3 F4 F5 F6 F7 F8 F9 F10 F11 F12 F13 : Int → Int} {N0 N1 N3 N4 N5 N6 N7 N8 N10 N11 N12 : Int} (H0 : eCmt F0 F1 F2 F3 F4 F5 F6 F7 F8 F9 F10 F11 F12 F13 N10 N11 N12 N3) (H1 : F4 N4 = N7) (H2 : 0 ≤ N4) (H3 : N4 < N10) (H4 : F0 N4 = N5) (H5 : N5 = 4) (H6 : F2 N4 = N6) (H7 : N6 = 2) (H8 : F8 N7 = N8) (H9 : N8 = N0) : eOkp F10 N0 N1 := by
  have q := H0.1 N4 H2 H3 (by omega) (by omega)
  rw [H1, H8, H9] at q; exact Or.inr q.2.2
theorem L_cuB {F0 F1 F2 F3 F4 F5 F6 F7 F8 F9 F10 F11 F12 F13 : Int → Int} {N0 N1 N2 N3 N4 N5 N6 N7 : Int} (H0 : eCmt F0 F1 F2 F3 F4 F5 F6 F7 F8 F9 F10 F11 F12 F13 N0 N1 N2 N3) (H1 : F0 N4 = N5) (H2 : 0 ≤ N4) (H3 : N4 < N0) (H4 : N5 = 4) (H5 : F2 N4 = N6) (H6 : N6 = 2) (H7 : F4 N4 = N7) : 0 ≤ N7 ∧ N7 < N1 := by
  have q := H0.1 N4 H2 H3 (by omega) (by omega)
  rw [H7] at q; exact ⟨q.1, q.2.1⟩
theorem L_cuC {F0 F1 F2 F3 F4 F5 F6 F7 F8 F9 F10 F11 F12 F13 : Int → Int} {N3 N4 N10 N11 N12 : Int} (H0 : eCmt F0 F1 F2 F3 F4 F5 F6 F7 F8 F9 F10 F11 F12 F13 N10 N11 N12 N3) (H1 : 0 ≤ N4) (H2 : N4 < N11) (H3 : 0 ≤ F8 N4) (H4 : 0 ≤ F9 N4) : eOk F10 (F8 N4) ∧ eOk F10 (F9 N4) := by
  rcases H0.2.2.1 N4 H1 H2 with q | q | q
  · omega
  · omega
  · exact q
theorem L_cuI3 {F0 F1 F2 F3 F4 F5 F6 F7 F8 F9 F10 F11 F12 F13 : Int → Int} {N0 N1 N2 N3 N4 : Int} (H0 : eCmt F0 F1 F2 F3 F4 F5 F6 F7 F8 F9 F10 F11 F12 F13 N0 N1 N2 N3) (H1 : 0 ≤ N4) (H2 : N4 ≤ N3) (H3 : 1 ≤ N3) : (0 ≤ F11 N4 ∧ F11 N4 ≤ N0) ∧ (0 ≤ F12 N4 ∧ F12 N4 ≤ N1) := by
  obtain ⟨_, _, _, _, c5, c6, _⟩ := H0
  obtain ⟨p, r, t, w⟩ := c5.2.2.1 H3
  have x := c6 0 N4 (by omega) H1 H2
  have y := c6 N4 N3 H1 H2 (by omega)
  omega
theorem L_cuN {F0 F1 F2 F3 F4 F5 F6 F7 F8 F9 F10 F11 F12 F13 : Int → Int} {N0 N1 N2 N3 N4 N5 : Int} (H0 : eCmt F0 F1 F2 F3 F4 F5 F6 F7 F8 F9 F10 F11 F12 F13 N0 N1 N2 N3) (H1 : F5 N4 = N5) (H2 : 0 ≤ N4) (H3 : N4 < N1) : 0 ≤ N5 ∧ N5 < N0 := by
  have q := H0.2.1 N4 H2 H3
  rw [H1] at q; exact ⟨q.1, q.2.1⟩
theorem L_ssI {F0 F1 F2 F3 F4 F5 F6 F7 F8 F9 F10 F11 F12 F13 : Int → Int} {N0 N1 N2 N3 N4 N5 N6 N7 : Int} (H0 : eCmt F0 F1 F2 F3 F4 F5 F6 F7 F8 F9 F10 F11 F12 F13 N0 N1 N2 N3) (H1 : 0 ≤ N4) (H2 : N4 < N3) (H3 : 0 ≤ N6) (H4 : N6 ≤ 3) (H5 : N7 = 4*N4 + N6) (H6 : F13 N7 = N5) : 0 ≤ N5 ∧ N5 ≤ 65536 := by
  have q := H0.2.2.2.2.2.2.2.2.2 N7 (by omega) (by omega)
  rw [H6] at q; exact q
