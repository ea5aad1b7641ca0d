/-! ===== pairs: text ===== -/
theorem vM_eq2 {I J : Mi} {n m r : Nat} (e : ∀ j, j = 4 ∨ (7 ≤ j ∧ j < 16) → J 48 j = I 48 j) (e2 : ∀ j, J 52 j = I 52 j) (e3 : ∀ j, j < 2 * r → J 53 j = I 53 j) (e4 : ∀ j, J 54 j = I 54 j) (e5 : ∀ j, J 55 j = I 55 j) : (∀ k, k < 6 → (vM J).1 k = (vM I).1 k) ∧ ∀ k j, 1 ≤ k → k ≤ 7 → j < ctH k n m r → (vM J).2 k j = (vM I).2 k j := by
  refine ⟨fun k hk => ?_, fun k j h1 h2 hj => ?_⟩
  · match k, hk with
    | 0, _ => exact e 7 (by decide)
    | 1, _ => exact e 8 (by decide)
    | 2, _ => exact e 4 (by decide)
    | 3, _ => exact e 10 (by decide)
    | 4, _ => exact e 12 (by decide)
    | 5, _ => exact e 15 (by decide)
    | k + 6, h => omega
  · match k, h1, h2, hj with
    | 1, _, _, _ => exact e2 _
    | 2, _, _, _ => exact e2 _
    | 3, _, _, hj => exact e3 _ (by have : j < r := hj; omega)
    | 4, _, _, hj => exact e3 _ (by have : j < r := hj; omega)
    | 5, _, _, _ => exact e4 _
    | 6, _, _, _ => exact e5 _
    | 7, _, _, _ => exact e5 _
    | k + 8, _, h, _ => omega
def Tx (a j : Nat) : Prop := a < 64 ∧ a ≠ 1 ∧ a ≠ 4 ∧ ¬ (6 ≤ a ∧ a ≤ 9) ∧ ¬ (a = 48 ∧ (j = 3 ∨ j = 6 ∨ (16 ≤ j ∧ j ≤ 31))) ∧ a ≠ 49 ∧ a ≠ 50
theorem TXM.eqp {I J : Mi} {v : Nat} {W : Wt} (h : TXM I v W) (e1 : ∀ j, 160 * v ≤ j → j < 160 * v + 160 → J 49 j = I 49 j) (e2 : J 50 v = I 50 v) : TXM J v W := by
  obtain ⟨B, n, kk, x1, x2, x3, a1, a2, a3, a4, a5⟩ := h
  exact ⟨B, n, kk, x1, x2, x3, by rw [e2]; exact a1, a2, fun i hi => by rw [e1 _ (by omega) (by omega)]; exact a3 i hi, a4, a5⟩
section PRX
variable {I J : Mi} {Z Z2 : Mz} {n m r ru N N2 k : Nat} {tA qA mA aA bA tB qB mB cB dB : Nat → Nat} {WA WB : Nat → Wt}
theorem INV.txt (h : INV I Z n m r ru N k tA qA mA aA bA WA) (hZ : GZ Z2 ∧ MZ Z2 ∧ zK Z2 2 = 10) (hN : N ≤ N2) (hX : TexR J Z2 N2 tB qB mB cB dB WB) (hT : TapR J 0) (e : ∀ a j, Tx a j → J a j = I a j) : INV J Z2 n m r ru N2 0 tB qB mB cB dB WB := by
  obtain ⟨h1, ⟨h2, h3⟩, h4, h5, h6, h7⟩ := h
  refine ⟨hZ, ⟨?_, by omega⟩, h4.eqv (Nat.le_refl _) hN fun a j w => e a j (by unfold Tx; omega), hX, hT, h7.eqv fun a j w => e a j (by unfold Tx; omega)⟩
  obtain ⟨c1, c2⟩ := vC_eq (I := I) (J := J) (h := 10) (n := n) (m := m) (r := r) (fun j => e 10 j (by unfold Tx; omega)) (fun k j h1 h2 hj => e (10 + k) j (by unfold Tx; omega))
  obtain ⟨m1, m2⟩ := vM_eq2 (I := I) (J := J) (n := n) (m := m) (r := r) (fun j hj => e 48 j (by unfold Tx; omega)) (fun j => e 52 j (by unfold Tx; omega)) (fun j hj => e 53 j (by unfold Tx; omega)) (fun j => e 54 j (by unfold Tx; omega)) (fun j => e 55 j (by unfold Tx; omega))
  exact HRel.eqv h2 (fun k hk => ⟨c1 k hk, m1 k hk⟩) (fun k j h1 h2 hj => ⟨c2 k j h1 h2 hj, m2 k j h1 h2 hj⟩)
end PRX
theorem tcM_o {I : Mi} {N n a j : Nat} (h1 : ¬ (a = 49 ∧ 160 * N ≤ j ∧ j < 160 * N + n)) (h2 : ¬ (a = 50 ∧ j = N)) (h3 : ¬ (a = 48 ∧ j = 6)) : tcM I N n a j = I a j := by
  unfold tcM
  rw [iU_at (by omega), iU_at (by omega)]
  by_cases e : a = 49
  · subst e
    simp only [cpT, rU, if_true]
    rw [if_neg (by omega)]
  · rw [cpT_row e]
theorem tcM_v {I : Mi} {N n : Nat} : tcM I N n 48 6 = 0 ∧ tcM I N n 50 N = nI n ∧ ∀ i, i < n → tcM I N n 49 (160 * N + i) = I 51 i := by
  unfold tcM
  refine ⟨iU_same, ?_, fun i hi => ?_⟩
  · rw [iU_at (by omega)]; exact iU_same
  · rw [iU_at (by omega), iU_at (by omega)]; exact cpT_at hi
def wW (x1 x2 x3 : List Int32 × Vl) : Wt := fun p nm => match p with
  | 0 => x1.2 nm
  | 1 => x2.2 nm
  | _ => x3.2 nm
theorem pr_text {E : Ev} {I : Mi} {L : Ml} {Z : Mz} {Q : Po} {xs : Nat → Int32} {Ne : Nat} (hE : EXT E Ne xs) (hI : GI I Z) (H : ∀ (rv : Int32) (I1 : Mi) (L1 : Ml) (Z1 : Mz), ObjZ Z1 48 6 → MD E yX6_text cX6_text 2 (some .int) [.ref 48] (some (.int rv)) I1 L1 Z1 → Q (some (.int rv)) I1 L1 Z1) : AC E yX5_text cX5_text 2 (some .int) 60 2 163 [.ref 0] I L Z Q := by
  obtain ⟨n, m, r, ru, N, k, tA, qA, mA, aA, bA, WA, h⟩ := hI
  have hG : GZ Z := h.1.1
  have hM : MZ Z := h.1.2.1
  have h6 := h.n6
  have hT := h.2.2.2.2.1
  have hX := h.2.2.2.1
  have hz63 : 63 < zN Z := hM.2.2.2.2.2.2.2.2.2.2.2.2.2.2.2.2.2.2.2.2.2.2.2.2.2.2.2.2.2.2.1
  obtain ⟨k160, k4, k6, kB⟩ := hT
  refine c_X5_text (M := N) (n := k) (by decide) hE hG h.1.2.2 hX.2.1 hX.1.2 k4 k160 (fun e => H _ _ _ _ hM.1 fun Q2 K => ?_) (fun hN6 k' et J sJ => H _ _ _ _ hM.1 fun Q2 K => ?_) (fun hN6 k' x1 x2 x3 et J Lk Y fr gr zN2 zP2 tx j1 j2 at5 len ev1 ev2 ev3 => H _ _ _ _ (hM.gro (gr.pu (Or.inl rfl))).1 fun Q2 K => ?_)
  · exact c_X6_text (B := I 5) (by decide) hM hX.2.2.1 hX.1.2 k6 k160 kB (fun _ => K _ _ _ h.gi) (fun w => absurd w (by omega)) (fun w => absurd w (by omega))
  · have f : ∀ a j, ¬ (a = 4 ∧ (j = 1 ∨ 5 ≤ j)) → (a < 6 ∨ 9 < a) → iU J 4 1 0 a j = I a j := fun a j g1 g2 => by rw [iU_at (by omega)]; exact sJ a j (by omega) g2
    refine c_X6_text (B := I 5) (by decide) hM (by rw [f _ _ (by omega) (by omega)]; exact hX.2.2.1) hX.1.2 (by rw [f _ _ (by omega) (by omega)]; exact k6) k160 (fun i hi => by rw [f _ _ (by omega) (by omega)]; exact kB i hi) (fun w => absurd w (by omega)) (fun _ k2 y1 y2 y3 et2 => ?_) (fun _ k2 et2 I9 L9 s9 => ?_)
    · rw [et] at et2; cases et2
    · rw [et] at et2
      have ek : k' = k2 := (Prod.mk.inj et2).1
      subst ek
      have f9 : ∀ a j, ¬ (a = 4 ∧ (j = 1 ∨ 5 ≤ j)) → (a < 6 ∨ 9 < a) → ¬ (a = 48 ∧ (j = 6 ∨ (16 ≤ j ∧ j ≤ 31))) → ¬ (a = 49 ∧ 160 * N ≤ j ∧ j < 160 * N + k) → ¬ (a = 50 ∧ j = N) → I9 a j = I a j := fun a j g1 g2 g3 g4 g5 => by rw [s9 a j (by omega), tcM_o g4 g5 (by omega)]; exact f a j g1 g2
      refine K _ _ _ (h.txt (N2 := N) (tB := tA) (qB := qA) (mB := mA) (cB := aA) (dB := bA) (WB := WA) h.1 (Nat.le_refl _) ⟨hX.1, ?_, ?_, fun v hv => ?_, fun v hv => ?_⟩ ⟨by omega, ?_, ?_, fun j hj => absurd hj (by omega)⟩ (fun a j w => ?_)).gi
      · rw [f9 _ _ (by omega) (by omega) (by omega) (by omega) (by omega)]; exact hX.2.1
      · rw [f9 _ _ (by omega) (by omega) (by omega) (by omega) (by omega)]; exact hX.2.2.1
      · obtain ⟨a1, a2, a3, a4, a5, a6, a7, a8, a9⟩ := hX.2.2.2.1 v hv
        obtain ⟨-, b2, b3, -⟩ := hX.2.2.2.2 v hv
        exact ⟨a1, a2, a3, by rw [f9 _ _ (by omega) (by omega) (by omega) (by omega) (by omega)]; exact a4, by rw [f9 _ _ (by omega) (by omega) (by omega) (by omega) (by omega)]; exact a5, a6, a7, a8, a9⟩
      · obtain ⟨a1, a2, a3, a4, a5, a6, a7, a8, a9⟩ := hX.2.2.2.1 v hv
        obtain ⟨b1, b2, b3, b4⟩ := hX.2.2.2.2 v hv
        refine ⟨b1.eqp (fun j g1 g2 => f9 49 j (by omega) (by omega) (by omega) (by omega) (by omega)) (f9 50 v (by omega) (by omega) (by omega) (by omega) (by omega)), b2, b3, fun p nm hp => ?_⟩
        rw [show I9 (qA v) = I (qA v) from funext fun j => f9 _ j (by omega) (by omega) (by omega) (by omega) (by omega)]
        exact b4 p nm hp
      · rw [s9 4 1 (by omega), tcM_o (by omega) (by omega) (by omega), iU_same]; rfl
      · rw [s9 48 6 (by omega), tcM_v.1]; rfl
      · unfold Tx at w
        exact f9 a j (by omega) (by omega) (by omega) (by omega) (by omega)
  · have f : ∀ a j, a < zN Z → ¬ (a = 4 ∧ (j = 1 ∨ 5 ≤ j)) → (a < 6 ∨ 9 < a) → ¬ (a = 1 ∧ j = 2) → iU (iU J 4 1 0) 1 2 (nI (N + 1)) a j = I a j := fun a j g0 g1 g2 g3 => by rw [iU_at (by omega), iU_at (by omega)]; exact fr a j g0 (by omega) g2
    have gr2 : Gro Z (pU (zP Y) 2 N (some (zN Z)), Y.2) := gr.pu (Or.inl rfl)
    have hM2 : MZ (pU (zP Y) 2 N (some (zN Z)), Y.2) := hM.gro gr2
    refine c_X6_text (B := I 5) (by decide) hM2 (by rw [f _ _ (by omega) (by omega) (by omega) (by omega)]; exact hX.2.2.1) hX.1.2 (by rw [f _ _ (by omega) (by omega) (by omega) (by omega)]; exact k6) k160 (fun i hi => by rw [f _ _ (by omega) (by omega) (by omega) (by omega)]; exact kB i hi) (fun w => absurd w (by omega)) (fun _ k2 y1 y2 y3 et2 I9 L9 s9 => ?_) (fun _ k2 et2 => ?_)
    · have f9 : ∀ a j, a < zN Z → ¬ (a = 4 ∧ (j = 1 ∨ 5 ≤ j)) → (a < 6 ∨ 9 < a) → ¬ (a = 1 ∧ j = 2) → ¬ (a = 48 ∧ (j = 3 ∨ j = 6 ∨ (16 ≤ j ∧ j ≤ 31))) → ¬ (a = 49 ∧ 160 * N ≤ j ∧ j < 160 * N + k) → ¬ (a = 50 ∧ j = N) → I9 a j = I a j := fun a j g0 g1 g2 g3 g4 g5 g6 => by rw [s9 a j (by omega), iU_at (by omega), tcM_o g5 g6 (by omega)]; exact f a j g0 g1 g2 g3
      have up : ∀ a j, zN Z ≤ a → I9 a j = J a j := fun a j g => by rw [s9 a j (by omega), iU_at (by omega), tcM_o (by omega) (by omega) (by omega), iU_at (by omega), iU_at (by omega)]
      refine K _ _ _ (h.txt (N2 := N + 1) (tB := fun v => if v = N then zN Z else tA v) (qB := fun v => if v = N then zN Z + 1 else qA v) (mB := fun v => if v = N then (x1.1 ++ x2.1 ++ x3.1).length else mA v) (cB := fun v => if v = N then x1.1.length else aA v) (dB := fun v => if v = N then x1.1.length + x2.1.length else bA v) (WB := fun v => if v = N then wW x1 x2 x3 else WA v) ⟨hG.gro gr2, hM2, ?_⟩ (by omega) ⟨by omega, ?_, ?_, fun v hv => ?_, fun v hv => ?_⟩ ⟨by omega, ?_, ?_, fun j hj => absurd hj (by omega)⟩ (fun a j w => ?_)).gi
      · rw [(gr2.2 2 (by omega)).2.1]; exact h.1.2.2
      · rw [s9 1 2 (by omega), iU_at (by omega), tcM_o (by omega) (by omega) (by omega), iU_same]
      · rw [s9 48 3 (by omega), iU_same]
      · by_cases e : v = N
        · simp only [if_pos e]
          have hl : (x1.1 ++ x2.1 ++ x3.1).length = x1.1.length + x2.1.length + x3.1.length := by simp only [List.length_append]
          refine ⟨?_, ?_, by omega, ?_, ?_, by omega, by omega, by omega, by omega⟩
          · show pU (zP Y) 2 N (some (zN Z)) 2 v = _
            rw [pU, if_pos ⟨rfl, e⟩]
          · obtain ⟨t1, t2, t3⟩ := tx
            refine ⟨t1, ?_, t3⟩
            show pU (zP Y) 2 N (some (zN Z)) (zN Z) 0 = _
            rw [pU, if_neg (by omega)]; exact t2
          · rw [up _ _ (Nat.le_refl _)]; exact j1
          · rw [up _ _ (Nat.le_refl _)]; exact j2
        · simp only [if_neg e]
          obtain ⟨a1, a2, a3, a4, a5, a6, a7, a8, a9⟩ := hX.2.2.2.1 v (by omega)
          obtain ⟨-, b2, b3, -⟩ := hX.2.2.2.2 v (by omega)
          have g1 : tA v < zN Z := a2.1.1
          refine ⟨?_, a2.gro gr2 (by omega), a3, by rw [f9 _ _ g1 (by omega) (by omega) (by omega) (by omega) (by omega) (by omega)]; exact a4, by rw [f9 _ _ g1 (by omega) (by omega) (by omega) (by omega) (by omega) (by omega)]; exact a5, a6, a7, a8, a9⟩
          show pU (zP Y) 2 N (some (zN Z)) 2 v = _
          rw [pU, if_neg (by omega), zP2]; exact a1
      · by_cases e : v = N
        · simp only [if_pos e]
          have hl : (x1.1 ++ x2.1 ++ x3.1).length = x1.1.length + x2.1.length + x3.1.length := by simp only [List.length_append]
          refine ⟨⟨I 5, k, k', x1, x2, x3, ?_, k160, fun i hi => ⟨?_, (kB i hi).2⟩, et, fun nm => ⟨rfl, rfl, rfl⟩⟩, by omega, by omega, fun p nm hp => ?_⟩
          · subst e; rw [s9 50 v (by omega), iU_at (by omega)]; exact tcM_v.2.1
          · subst e; rw [s9 49 _ (by omega), iU_at (by omega), tcM_v.2.2 i hi, f 51 i (by omega) (by omega) (by omega) (by omega)]; exact (kB i hi).1
          · rw [show I9 (zN Z + 1) = J (zN Z + 1) from funext fun j => up _ j (by omega)]
            have at1 := (AtS_app _ _ _).mp at5
            have at2 := (AtS_app _ _ _).mp at1.1
            match p, hp with
            | 0, _ => exact ev_run ev1 nm _ 0 at2.1 (by omega)
            | 1, _ =>
              show wF (J (zN Z + 1)) nm (x1.1.length + x2.1.length - x1.1.length) x1.1.length [] = x2.2 nm
              rw [Nat.add_sub_cancel_left]
              have := at2.2
              rw [Nat.zero_add] at this
              exact ev_run ev2 nm _ _ this (by omega)
            | 2, _ =>
              show wF (J (zN Z + 1)) nm ((x1.1 ++ x2.1 ++ x3.1).length - (x1.1.length + x2.1.length)) (x1.1.length + x2.1.length) [] = x3.2 nm
              rw [hl, Nat.add_sub_cancel_left]
              have := at1.2
              rw [Nat.zero_add, List.length_append] at this
              exact ev_run ev3 nm _ _ this (by omega)
        · simp only [if_neg e]
          obtain ⟨a1, a2, a3, a4, a5, a6, a7, a8, a9⟩ := hX.2.2.2.1 v (by omega)
          obtain ⟨b1, b2, b3, b4⟩ := hX.2.2.2.2 v (by omega)
          have g1 : qA v < zN Z := a2.2.2.1
          refine ⟨b1.eqp (fun j g1 g2 => f9 49 j (by omega) (by omega) (by omega) (by omega) (by omega) (by omega) (by omega)) (f9 50 v (by omega) (by omega) (by omega) (by omega) (by omega) (by omega) (by omega)), b2, b3, fun p nm hp => ?_⟩
          rw [show I9 (qA v) = I (qA v) from funext fun j => f9 _ j g1 (by omega) (by omega) (by omega) (by omega) (by omega) (by omega)]
          exact b4 p nm hp
      · rw [s9 4 1 (by omega), iU_at (by omega), tcM_o (by omega) (by omega) (by omega), iU_at (by omega), iU_same]; rfl
      · rw [s9 48 6 (by omega), iU_at (by omega), tcM_v.1]; rfl
      · unfold Tx at w
        exact f9 a j (by omega) (by omega) (by omega) (by omega) (by omega) (by omega) (by omega)
    · rw [et] at et2; cases et2
